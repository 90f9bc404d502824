/-! Rows of V over the cells: fields, arrays, new cells, statics. -/
abbrev aI (g : Gm) (len : Nat) (f : Nat → Int32) : va_E := .inl (gC g 0, len, .inl f)
abbrev aJ (g : Gm) (len : Nat) (f : Nat → Int64) : va_E := .inl (gC g 1, len, .inr (.inl f))
abbrev aZ (g : Gm) (len : Nat) (f : Nat → Int32) : va_E := .inl (gC g 2, len, .inl f)
abbrev aQ (g : Gm) (t : Nat) (len : Nat) (f : Nat → Option Nat) : va_E := .inl (gC g t, len, .inr (.inr (.inr (.inr f))))
/-- what the tables say of a kind of objects -/
def Kc (ci : Nat) (Cn : String) (T : u_T) (N : Nat) (ty : Nat → FieldType) : Prop := vwCl[ci]? = some (Cn, T, N) ∧ (∀ j, j < N → parseFieldDescriptor (T j).2.2.1 = some (ty j)) ∧ (∀ a, a < N → ∀ b, b < N → a ≠ b → (T a).2.1 ≠ (T b).2.1) ∧ ∀ w ∈ u_ws Cn T N, w ∈ tbl
theorem lw_all {ws : List Cond} (h : ws.all (fun w => decide (w ∈ tbl)) = true) : ∀ w ∈ ws, w ∈ tbl := fun w hw => of_decide_eq_true (List.all_eq_true.mp h w hw)
theorem kX0 : Kc 0 RX0 TX0 2 tyX0 := ⟨rfl, tyX0_ok, nmX0, lw_all (by decide +kernel)⟩
theorem kX1 : Kc 1 RX1 TX1 3 tyX1 := ⟨rfl, tyX1_ok, nmX1, lw_all (by decide +kernel)⟩
theorem kX2 : Kc 2 RX2 TX2 6 tyX2 := ⟨rfl, tyX2_ok, nmX2, lw_all (by decide +kernel)⟩
theorem kX3 : Kc 3 RX3 TX3 2 tyX3 := ⟨rfl, tyX3_ok, nmX3, lw_all (by decide +kernel)⟩
theorem kX4 : Kc 4 RX4 TX4 3 tyX4 := ⟨rfl, tyX4_ok, nmX4, lw_all (by decide +kernel)⟩
theorem kX5 : Kc 5 RX5 TX5 8 tyX5 := ⟨rfl, tyX5_ok, nmX5, lw_all (by decide +kernel)⟩
theorem kX6 : Kc 6 RX6 TX6 3 tyX6 := ⟨rfl, tyX6_ok, nmX6, lw_all (by decide +kernel)⟩
theorem kX7 : Kc 7 RX7 TX7 2 tyX7 := ⟨rfl, tyX7_ok, nmX7, lw_all (by decide +kernel)⟩
theorem kX8 : Kc 8 RX8 TX8 4 tyX8 := ⟨rfl, tyX8_ok, nmX8, lw_all (by decide +kernel)⟩
theorem kX9 : Kc 9 RX9 TX9 6 tyX9 := ⟨rfl, tyX9_ok, nmX9, lw_all (by decide +kernel)⟩
theorem kX10 : Kc 10 RX10 TX10 12 tyX10 := ⟨rfl, tyX10_ok, nmX10, lw_all (by decide +kernel)⟩
section VHeap
variable {X : FC} {y : MethodName} {cc : ByteArray} {R : Room} {M : Mem} {k n : Nat} {lv : List (Nat × Value)} {pc : Nat} {rest : List Value} {ci N ix : Nat} {Cn : String} {T : u_T} {ty : Nat → FieldType} {a : Nat} {fs : List Value} {len : Nat}
theorem v_get (C : Bx X y cc) (K : Kc ci Cn T N ty) (hm : M a = some (.inr (ci, fs))) (j : Nat) (hj : j < N) (hw : Cond.fieldLink y.cls ix (T j).1 (T j).2.1 (T j).2.2.1 ∈ tbl) {v : Value} (hv : fs[j]? = some v) (hd : decode cc pc = .ok (.getfield ix, 3)) (kk : V X R M k n lv (pc + 3) (v :: rest)) : V X R M k n lv pc (.ref a :: rest) := by
  obtain ⟨p, l, e, s, m, args, below, meth, c, Q, g, nL, A⟩ := X
  obtain ⟨hx, hb, hml, hown, hE, hZ, hB⟩ := C
  intro H locs ls h1 h2 h3
  exact va_get hx hb (hE.use args) K.2.2.2 hown hE.1 (h1.one hm) 0 rfl K.1 j hj (hE.use args _ hw) (fun _ h9 => h9) hv hd (kk H locs ls h1 h2 h3)
theorem v_put (C : Bx X y cc) (K : Kc ci Cn T N ty) (hm : M a = some (.inr (ci, fs))) (j : Nat) (hj : j < N) (hw : Cond.fieldLink y.cls ix (T j).1 (T j).2.1 (T j).2.2.1 ∈ tbl) {v : Value} (hfin : (T j).2.2.2 = false) (hn : narrow (ty j) v = v) (hfit : fits (ty j) v = true) (hl : j < fs.length) (hd : decode cc pc = .ok (.putfield ix, 3)) (kk : V X R (mset M a (.inr (ci, fs.set j v))) k n lv (pc + 3) rest) : V X R M k n lv pc (v :: .ref a :: rest) := by
  obtain ⟨p, l, e, s, m, args, below, meth, c, Q, g, nL, A⟩ := X
  obtain ⟨hx, hb, hml, hown, hE, hZ, hB⟩ := C
  intro H locs ls h1 h2 h3
  have hts := hE.use args
  have hin := K.2.2.2
  have hap := va_apart (own := y.cls) hts hin ty K.2.1 K.2.2.1 hE.1 K.1
  obtain ⟨r, hr0, cell, q1, q2, q3, q4⟩ := (h1.at hm)
  have hr : r = (Cn, T, N) := Option.some.inj (hr0.symm.trans K.1)
  subst hr
  obtain ⟨hS, hfc, kC, hkC, hkind⟩ := hE.1.1 ci _ K.1
  obtain ⟨cf, kf, fi, f, hi, hsl⟩ := hS j hj
  have hlay := hts _ (hin _ (u_in_lay hj))
  unfold u_lay at hlay
  rw [if_neg (by rw [hfin]; decide)] at hlay
  have hst := (u_facts hfc hkC (u_lays hts hin hj) hi).1
  have h6 := u_store hfc hkC hkind hlay hi (K.2.1 j hj) hn hfit
  refine W.putK hx hb (f := f) ⟨hown, hts _ hw, ⟨_, _, _, hi⟩, hst⟩ (by rw [q2]; exact h6) q1 q3 (by rw [hsl]; exact k2_hasslot (q4 j hj)) rfl rfl hd fun H' e1 e2 e3 => ?_
  rw [hsl] at e1 ⊢
  exact kk H' _ ls (h1.set hm ⟨_, K.1, t_OB.to (V := updV (vp_V fs) j v) ⟨_, e1, q2, q3, t_set q4 hap hj v⟩ (fun i _ => vp_updV_set hl v i)⟩ e2 e3) (h2.put e2 e3 (h1.inA hm) (h1.gA hm)) h3
theorem v_putF (C : Bx X y cc) {ret : Option FieldType} {mc ms : Nat} {post : Option Value → Mem → Prop} (E : Rx X y ret mc ms post) (hyn : y.name = "<init>") (K : Kc ci Cn T N ty) (hm : M a = some (.inr (ci, fs))) (j : Nat) (hj : j < N) (hw : Cond.fieldLink y.cls ix (T j).1 (T j).2.1 (T j).2.2.1 ∈ tbl) {v : Value} (hfin : (T j).2.2.2 = true) (hdecl : (T j).1 = y.cls) (hn : narrow (ty j) v = v) (hfit : fits (ty j) v = true) (hl : j < fs.length) (hd : decode cc pc = .ok (.putfield ix, 3)) (kk : V X R (mset M a (.inr (ci, fs.set j v))) k n lv (pc + 3) rest) : V X R M k n lv pc (v :: .ref a :: rest) := by
  obtain ⟨p, l, e, s, m, args, below, meth, c, Q, g, nL, A⟩ := X
  obtain ⟨hx, hb, hml, hown, hE, hZ, hB⟩ := C
  obtain ⟨-, -, hmn, -⟩ := E
  intro H locs ls h1 h2 h3
  have hts := hE.use args
  have hin := K.2.2.2
  have hap := va_apart (own := y.cls) hts hin ty K.2.1 K.2.2.1 hE.1 K.1
  obtain ⟨r, hr0, cell, q1, q2, q3, q4⟩ := (h1.at hm)
  have hr : r = (Cn, T, N) := Option.some.inj (hr0.symm.trans K.1)
  subst hr
  obtain ⟨hS, hfc, kC, hkC, hkind⟩ := hE.1.1 ci _ K.1
  obtain ⟨cf, kf, fi, f, hi, hsl⟩ := hS j hj
  have hlay := hts _ (hin _ (u_in_lay hj))
  unfold u_lay at hlay
  rw [if_pos hfin] at hlay
  have hst := (u_facts hfc hkC (u_lays hts hin hj) hi).1
  have hcf : m.cls = cf := by
    obtain ⟨_, _, c', _, _, _, -, -, hf', -, -, -, hown2, -⟩ := Cond.laysFinal_spec hlay
    have e1 : c' = cf := by have := hi.symm.trans hf'; simp at this; exact this.1.symm
    rw [hdecl] at hown2
    rw [← e1]; exact Option.some.inj (hown.symm.trans hown2)
  have h6 := u_fits hfc hkC hkind (Or.inr hlay) hi (K.2.1 j hj) hn hfit
  refine W.putFinK hx hb hown (hts _ hw) hi hst hcf (hmn.trans hyn) (by rw [q2]; exact h6) q1 q3 (by rw [hsl]; exact k2_hasslot (q4 j hj)) rfl rfl hd fun H' e1 e2 e3 => ?_
  rw [hsl] at e1 ⊢
  exact kk H' _ ls (h1.set hm ⟨_, K.1, t_OB.to (V := updV (vp_V fs) j v) ⟨_, e1, q2, q3, t_set q4 hap hj v⟩ (fun i _ => vp_updV_set hl v i)⟩ e2 e3) (h2.put e2 e3 (h1.inA hm) (h1.gA hm)) h3
theorem v_iald (C : Bx X y cc) {f : Nat → Int32} (hm : M a = some (aI (xg X) len f)) {i : Int32} (hi : vp_in i len) (hd : decode cc pc = .ok (.iaload, 1)) (kk : V X R M k n lv (pc + 1) (.int (f i.toNatClampNeg) :: rest)) : V X R M k n lv pc (.int i :: .ref a :: rest) := by
  obtain ⟨p, l, e, s, m, args, below, meth, c, Q, g, nL, A⟩ := X
  obtain ⟨hx, hb, hml, hown, hE, hZ, hB⟩ := C
  intro H locs ls h1 h2 h3
  exact va_iald hx hb hE.1 (h1.one hm) 0 0 rfl rfl hi hd (kk H locs ls h1 h2 h3)
theorem v_lald (C : Bx X y cc) {f : Nat → Int64} (hm : M a = some (aJ (xg X) len f)) {i : Int32} (hi : vp_in i len) (hd : decode cc pc = .ok (.laload, 1)) (kk : V X R M k n lv (pc + 1) (.long (f i.toNatClampNeg) :: rest)) : V X R M k n lv pc (.int i :: .ref a :: rest) := by
  obtain ⟨p, l, e, s, m, args, below, meth, c, Q, g, nL, A⟩ := X
  obtain ⟨hx, hb, hml, hown, hE, hZ, hB⟩ := C
  intro H locs ls h1 h2 h3
  exact va_lald hx hb hE.1 (h1.one hm) 0 1 rfl rfl hi hd (kk H locs ls h1 h2 h3)
theorem v_zald (C : Bx X y cc) {f : Nat → Int32} (hm : M a = some (aZ (xg X) len f)) {i : Int32} (hi : vp_in i len) (hd : decode cc pc = .ok (.baload, 1)) (kk : V X R M k n lv (pc + 1) (.int (f i.toNatClampNeg) :: rest)) : V X R M k n lv pc (.int i :: .ref a :: rest) := by
  obtain ⟨p, l, e, s, m, args, below, meth, c, Q, g, nL, A⟩ := X
  obtain ⟨hx, hb, hml, hown, hE, hZ, hB⟩ := C
  intro H locs ls h1 h2 h3
  exact va_zald hx hb hE.1 (h1.one hm) 0 2 rfl rfl hi hd (kk H locs ls h1 h2 h3)
theorem v_aald (C : Bx X y cc) {t : Nat} {f : Nat → Option Nat} (ht : 3 ≤ t ∧ t ≤ 5) (hm : M a = some (aQ (xg X) t len f)) {i : Int32} (hi : vp_in i len) (hd : decode cc pc = .ok (.aaload, 1)) (kk : V X R M k n lv (pc + 1) (va_rf (f i.toNatClampNeg) :: rest)) : V X R M k n lv pc (.int i :: .ref a :: rest) := by
  obtain ⟨p, l, e, s, m, args, below, meth, c, Q, g, nL, A⟩ := X
  obtain ⟨hx, hb, hml, hown, hE, hZ, hB⟩ := C
  intro H locs ls h1 h2 h3
  have hlt : i.toNatClampNeg < len := Nat.not_le.mp fun q => hi (Or.inr q)
  have hat := (h1.at hm)
  rcases (show t = 3 ∨ t = 4 ∨ t = 5 by omega) with rfl | rfl | rfl
  · exact W.aald (v := va_rf (f i.toNatClampNeg)) (ty := .object RX5) hx hb hat ((hE.1.2 3 _ rfl).1 len (fun j => va_rf (f j))) rfl (fun q => by cases q) (by show ¬ (i < 0 ∨ (arrV _ _ _).slots.size ≤ _); rw [arrV_size]; exact hi) (by show (arrV _ _ _).slots[_]? = _; rw [arrV_read _ _ hlt]) rfl rfl hd (kk H locs ls h1 h2 h3)
  · exact W.aald (v := va_rf (f i.toNatClampNeg)) (ty := .object RX6) hx hb hat ((hE.1.2 4 _ rfl).1 len (fun j => va_rf (f j))) rfl (fun q => by cases q) (by show ¬ (i < 0 ∨ (arrV _ _ _).slots.size ≤ _); rw [arrV_size]; exact hi) (by show (arrV _ _ _).slots[_]? = _; rw [arrV_read _ _ hlt]) rfl rfl hd (kk H locs ls h1 h2 h3)
  · exact W.aald (v := va_rf (f i.toNatClampNeg)) (ty := .array .int) hx hb hat ((hE.1.2 5 _ rfl).1 len (fun j => va_rf (f j))) rfl (fun q => by cases q) (by show ¬ (i < 0 ∨ (arrV _ _ _).slots.size ≤ _); rw [arrV_size]; exact hi) (by show (arrV _ _ _).slots[_]? = _; rw [arrV_read _ _ hlt]) rfl rfl hd (kk H locs ls h1 h2 h3)
theorem v_iast (C : Bx X y cc) {f : Nat → Int32} (hm : M a = some (aI (xg X) len f)) {i x : Int32} (hi : vp_in i len) (hd : decode cc pc = .ok (.iastore, 1)) (kk : V X R (mset M a (aI (xg X) len (upd f i.toNatClampNeg x))) k n lv (pc + 1) rest) : V X R M k n lv pc (.int x :: .int i :: .ref a :: rest) := by
  obtain ⟨p, l, e, s, m, args, below, meth, c, Q, g, nL, A⟩ := X
  obtain ⟨hx, hb, hml, hown, hE, hZ, hB⟩ := C
  intro H locs ls h1 h2 h3
  refine W.iast hx hb (h1.at hm) ((hE.1.2 0 _ rfl).1 len (fun j => .int (f j))) (fun q => by cases q) (by show ¬ (i < 0 ∨ (arrV _ _ _).slots.size ≤ _); rw [arrV_size]; exact hi) rfl rfl hd fun H1 e z oq => ?_
  refine kk H1 _ ls (h1.set hm ?_ z oq) (h2.put z oq (h1.inA hm) (h1.gA hm)) h3
  show H1[a]? = some (vp_cell _ _)
  rw [e]
  rw [vp_cell_i, vp_cell_i, arrV_store]
  congr 2
  funext q
  by_cases hq : q = i.toNatClampNeg
  · subst hq
    simp [updV, upd]
  · simp [updV, upd, hq]
theorem v_last (C : Bx X y cc) {f : Nat → Int64} (hm : M a = some (aJ (xg X) len f)) {i : Int32} {x : Int64} (hi : vp_in i len) (hd : decode cc pc = .ok (.lastore, 1)) (kk : V X R (mset M a (aJ (xg X) len (vp_updL f i.toNatClampNeg x))) k n lv (pc + 1) rest) : V X R M k n lv pc (.long x :: .int i :: .ref a :: rest) := by
  obtain ⟨p, l, e, s, m, args, below, meth, c, Q, g, nL, A⟩ := X
  obtain ⟨hx, hb, hml, hown, hE, hZ, hB⟩ := C
  intro H locs ls h1 h2 h3
  refine W.last hx hb (h1.at hm) ((hE.1.2 1 _ rfl).1 len (fun j => .long (f j))) (fun q => by cases q) (by show ¬ (i < 0 ∨ (arrV _ _ _).slots.size ≤ _); rw [arrV_size]; exact hi) rfl rfl hd fun H1 e z oq => ?_
  refine kk H1 _ ls (h1.set hm ?_ z oq) (h2.put z oq (h1.inA hm) (h1.gA hm)) h3
  show H1[a]? = some (vp_cell _ _)
  rw [e]
  rw [vp_cell_l, vp_cell_l, arrV_store]
  congr 2
  funext q
  by_cases hq : q = i.toNatClampNeg
  · subst hq
    simp [updV, vp_updL]
  · simp [updV, vp_updL, hq]
theorem v_zast (C : Bx X y cc) {f : Nat → Int32} (hm : M a = some (aZ (xg X) len f)) {i x : Int32} (hi : vp_in i len) (h01 : x = 0 ∨ x = 1) (hd : decode cc pc = .ok (.bastore, 1)) (kk : V X R (mset M a (aZ (xg X) len (upd f i.toNatClampNeg x))) k n lv (pc + 1) rest) : V X R M k n lv pc (.int x :: .int i :: .ref a :: rest) := by
  obtain ⟨p, l, e, s, m, args, below, meth, c, Q, g, nL, A⟩ := X
  obtain ⟨hx, hb, hml, hown, hE, hZ, hB⟩ := C
  intro H locs ls h1 h2 h3
  have hnb := narrow_b01 h01
  refine W.zast hx hb (h1.at hm) ((hE.1.2 2 _ rfl).1 len (fun j => .int (f j))) (fun q => by cases q) (by show ¬ (i < 0 ∨ (arrV _ _ _).slots.size ≤ _); rw [arrV_size]; exact hi) rfl rfl hd fun H1 e z oq => ?_
  refine kk H1 _ ls (h1.set hm ?_ z oq) (h2.put z oq (h1.inA hm) (h1.gA hm)) h3
  show H1[a]? = some (vp_cell _ _)
  rw [e]
  rw [vp_cell_i, vp_cell_i, arrV_store]
  congr 2
  funext q
  by_cases hq : q = i.toNatClampNeg
  · subst hq
    simp [updV, upd, hnb]
  · simp [updV, upd, hq]
theorem v_aast (C : Bx X y cc) {t cj Nj : Nat} {Cj : String} {Tj : u_T} {tyj : Nat → FieldType} {f : Nat → Option Nat} {b : Nat} {vs : List Value} (K : Kc cj Cj Tj Nj tyj) (ht : (gT (xg X))[t]? = some (gC (xg X) t, .object Cj)) (hm : M a = some (aQ (xg X) t len f)) (hv : M b = some (.inr (cj, vs))) {i : Int32} (hi : vp_in i len) (hd : decode cc pc = .ok (.aastore, 1)) (kk : V X R (mset M a (aQ (xg X) t len (va_up f i.toNatClampNeg (some b)))) k n lv (pc + 1) rest) : V X R M k n lv pc (.ref b :: .int i :: .ref a :: rest) := by
  obtain ⟨p, l, e, s, m, args, below, meth, c, Q, g, nL, A⟩ := X
  obtain ⟨hx, hb, hml, hown, hE, hZ, hB⟩ := C
  intro H locs ls h1 h2 h3
  have hlt : i.toNatClampNeg < len := Nat.not_le.mp fun q => hi (Or.inr q)
  have h0 : ¬ i < 0 := fun q => hi (Or.inl q)
  obtain ⟨r', hr', cellV, g1, g2, g3, -⟩ := (h1.at hv)
  have hcls := (hE.1.1 cj _ K.1).2
  obtain ⟨kA, comp, k1, k2, k3, -⟩ := (hE.1.2 t _ ht).2
  have hcomp : comp = (gD g).1 cj := Option.some.inj (k3.symm.trans hcls.1)
  subst hcomp
  obtain ⟨kC, hkC, -⟩ := hcls.2
  refine W.aast hx hb (h1.at hm) (fun q h => by cases h) (fun h => by cases h) k1 k2 rfl hkC ⟨h0, by show _ < (arrV _ _ _).slots.size; rw [arrV_size]; exact hlt⟩ g1 (fun q h => by rw [g3] at h; cases h) (by rw [g2]; exact hkC) (by rw [g2]; exact va_assign hcls) rfl rfl hd fun H1 e z oq => ?_
  refine kk H1 _ ls (h1.set hm ?_ z oq) (h2.put z oq (h1.inA hm) (h1.gA hm)) h3
  show H1[a]? = some (vp_cell _ _)
  rw [e]
  rw [vp_cell_q, vp_cell_q, arrV_store]
  congr 2
  funext q
  by_cases hq : q = i.toNatClampNeg
  · subst hq
    simp [updV, va_up, va_rf]
  · simp [updV, va_up, hq]
theorem v_aleni (C : Bx X y cc) {f : Nat → Int32} (hm : M a = some (aI (xg X) len f)) (hd : decode cc pc = .ok (.arraylength, 1)) (kk : V X R M k n lv (pc + 1) (.int (nI len) :: rest)) : V X R M k n lv pc (.ref a :: rest) := by
  obtain ⟨p, l, e, s, m, args, below, meth, c, Q, g, nL, A⟩ := X
  obtain ⟨hx, hb, hml, hown, hE, hZ, hB⟩ := C
  intro H locs ls h1 h2 h3
  exact W.alen hx hb (h1.at hm) ((hE.1.2 0 _ rfl).1 len (fun j => .int (f j))) (by show (arrV _ _ _).slots.size.toInt32 = nI len; rw [arrV_size]; rfl) rfl rfl hd (kk H locs ls h1 h2 h3)
theorem v_new (C : Bx X y cc) (K : Kc ci Cn T N ty) (hw : Cond.classLink y.cls ix Cn ∈ tbl) (hw2 : Cond.instantiable Cn N ∈ tbl) (hw3 : Cond.initialized Cn ∈ tbl) (hfs : ∀ j, j < N → defaultValue (ty j) = vp_V fs j) (hc1 : k + 1 ≤ R.cells) (hc2 : n + N ≤ R.slots) (hd : decode cc pc = .ok (.new ix, 3)) (kk : ∀ q : Nat, M q = none → V X R (mset M q (.inr (ci, fs))) (k + 1) (n + N) lv (pc + 3) (.ref q :: rest)) : V X R M k n lv pc rest := by
  obtain ⟨p, l, e, s, m, args, below, meth, c, Q, g, nL, A⟩ := X
  obtain ⟨hx, hb, hml, hown, hE, hZ, hB⟩ := C
  intro H locs ls h1 h2 h3
  have hts := hE.use args
  have hKn := hE.1.1 ci _ K.1
  refine W.newcK hx hb hown (hts _ hw) (hts _ hw2) (hts _ hw3) rfl hd hc1 hc2 hKn.2.1 rfl fun H1 kC hkC e1 z1 o1 => ?_
  exact kk H.size (h1.fresh (Nat.le_refl _)) H1 locs ls (h1.push (hB.2.1 _ h2.1) ⟨_, K.1, (u_born ty hts K.2.2.2 hKn hkC e1 K.2.1).to hfs⟩ z1 o1) ⟨Nat.le_trans h2.1 (by omega), fun x g1 g2 => (o1 x (Nat.lt_of_lt_of_le g1 h2.1)).trans (h2.2.1 x g1 g2), h2.2.2⟩ h3
theorem v_newa (C : Bx X y cc) (t : Nat) {at0 : ArrayType} {ty0 : FieldType} {L : Nat} {z : vp_A} {v : Int32} (hty : newarray.typeOf at0 = ty0) (ht : (gT (xg X))[t]? = some (gC (xg X) t, ty0)) (hw : Cond.arrayClass ty0 ∈ tbl) (hnm : ∀ U cA, va_RA U cA ty0 → U.vm.findClass ("[" ++ ty0.toString) = some cA) (hz : ∀ cA : ClassId, vp_cell cA z = arrV cA L (fun _ => defaultValue ty0)) (hv : ¬ v < 0) (hvL : v.toNatClampNeg = L) (hby : L * componentBytes ty0 ≤ 536870912) (hc1 : k + 1 ≤ R.cells) (hc2 : n + L ≤ R.slots) (hd : decode cc pc = .ok (.newarray at0, 2)) (kk : ∀ q : Nat, M q = none → V X R (mset M q (.inl (gC (xg X) t, z))) (k + 1) (n + L) lv (pc + 2) (.ref q :: rest)) : V X R M k n lv pc (.int v :: rest) := by
  obtain ⟨p, l, e, s, m, args, below, meth, c, Q, g, nL, A⟩ := X
  obtain ⟨hx, hb, hml, hown, hE, hZ, hB⟩ := C
  intro H locs ls h1 h2 h3
  subst hty
  refine va_newaK hx hb (hE.use args _ hw) rfl hd rfl hv hvL hby hc1 hc2 rfl fun H1 cA e1 z1 o1 hAr hNm => ?_
  have hcA : cA = gC g t := Option.some.inj (hNm.symm.trans (hnm _ _ (hE.1.2 t _ ht).2))
  subst hcA
  refine kk H.size (h1.fresh (Nat.le_refl _)) H1 locs ls (h1.push (hB.2.1 _ h2.1) ?_ z1 o1) ⟨Nat.le_trans h2.1 (by omega), fun x g1 g2 => (o1 x (Nat.lt_of_lt_of_le g1 h2.1)).trans (h2.2.1 x g1 g2), h2.2.2⟩ h3
  show H1[H.size]? = some (vp_cell _ _)
  rw [hz]
  exact e1
theorem v_newq (C : Bx X y cc) (t : Nat) {Cj : String} {L : Nat} {v : Int32} (ht : (gT (xg X))[t]? = some (gC (xg X) t, .object Cj)) (hw : Cond.classLink y.cls ix Cj ∈ tbl) (hw2 : Cond.arrayOver (.object Cj) ∈ tbl) (hv : ¬ v < 0) (hvL : v.toNatClampNeg = L) (hby : L * 4 ≤ 536870912) (hc1 : k + 1 ≤ R.cells) (hc2 : n + L ≤ R.slots) (hd : decode cc pc = .ok (.anewarray ix, 3)) (kk : ∀ q : Nat, M q = none → V X R (mset M q (aQ (xg X) t L (fun _ => none))) (k + 1) (n + L) lv (pc + 3) (.ref q :: rest)) : V X R M k n lv pc (.int v :: rest) := by
  obtain ⟨p, l, e, s, m, args, below, meth, c, Q, g, nL, A⟩ := X
  obtain ⟨hx, hb, hml, hown, hE, hZ, hB⟩ := C
  intro H locs ls h1 h2 h3
  subst hvL
  refine W.anew hx hb hown (hE.use args _ hw) (hE.use args _ hw2) rfl hd rfl hv hby hc1 hc2 fun cA kA comp f1 f2 f3 f4 => ?_
  have hcA : cA = gC g t := by
    obtain ⟨kA', comp', k1, k2, k3, k4⟩ := (hE.1.2 t _ ht).2
    exact Option.some.inj (f1.symm.trans k4)
  subst hcA
  generalize hH1 : H.push ({ cls := gC g t, slots := Array.replicate v.toNatClampNeg .null, vm := .none } : Cell) = H1
  have z1 : H1.size = H.size + 1 := by rw [← hH1, Array.size_push]
  have e1 : H1[H.size]? = some (arrV (gC g t) v.toNatClampNeg (fun _ => .null)) := by rw [← hH1, Array.getElem?_push_size, ← arrV_new]
  have o1 : ∀ q : Nat, q < H.size → H1[q]? = H[q]? := fun q hq => by rw [← hH1, Array.getElem?_push, if_neg (Nat.ne_of_lt hq)]
  refine kk H.size (h1.fresh (Nat.le_refl _)) H1 locs ls (h1.push (hB.2.1 _ h2.1) ?_ z1 o1) ⟨Nat.le_trans h2.1 (by omega), fun x g1 g2 => (o1 x (Nat.lt_of_lt_of_le g1 h2.1)).trans (h2.2.1 x g1 g2), h2.2.2⟩ h3
  show H1[H.size]? = some (vp_cell _ _)
  rw [vp_cell_q]
  exact e1
theorem v_getE (C : Bx X y cc) {host : String} (hw : Cond.fieldLinkNest y.cls ix "PictureDesk" "EAST_STEP" "[I" host ∈ tbl) (hd : decode cc pc = .ok (.getstatic ix, 3)) (kk : V X R M k n lv (pc + 3) (.ref (gE (xg X)) :: rest)) : V X R M k n lv pc rest := by
  obtain ⟨p, l, e, s, m, args, below, meth, c, Q, g, nL, A⟩ := X
  obtain ⟨hx, hb, hml, hown, hE, hZ, hB⟩ := C
  intro H locs ls h1 h2 h3
  exact va_getsN hx hb hZ.1.1 (h2.S hB.2.2) hown (hE.use args _ hw) (fun _ h9 => h9) hd (kk H locs ls h1 h2 h3)
theorem v_getS (C : Bx X y cc) {host : String} (hw : Cond.fieldLinkNest y.cls ix "PictureDesk" "SOUTH_STEP" "[I" host ∈ tbl) (hd : decode cc pc = .ok (.getstatic ix, 3)) (kk : V X R M k n lv (pc + 3) (.ref (gS (xg X)) :: rest)) : V X R M k n lv pc rest := by
  obtain ⟨p, l, e, s, m, args, below, meth, c, Q, g, nL, A⟩ := X
  obtain ⟨hx, hb, hml, hown, hE, hZ, hB⟩ := C
  intro H locs ls h1 h2 h3
  exact va_getsN hx hb hZ.2.1 (h2.S hB.2.2) hown (hE.use args _ hw) (fun _ h9 => h9) hd (kk H locs ls h1 h2 h3)
theorem v_ialdE (C : Bx X y cc) {i : Int32} (hi : vp_in i 8) (hd : decode cc pc = .ok (.iaload, 1)) (kk : V X R M k n lv (pc + 1) (.int (east i.toNatClampNeg) :: rest)) : V X R M k n lv pc (.int i :: .ref (gE (xg X)) :: rest) := by
  obtain ⟨p, l, e, s, m, args, below, meth, c, Q, g, nL, A⟩ := X
  obtain ⟨hx, hb, hml, hown, hE, hZ, hB⟩ := C
  intro H locs ls h1 h2 h3
  exact va_ti hx hb hZ.1.2 (h2.S hB.2.2) hi rfl hd (kk H locs ls h1 h2 h3)
theorem v_ialdS (C : Bx X y cc) {i : Int32} (hi : vp_in i 8) (hd : decode cc pc = .ok (.iaload, 1)) (kk : V X R M k n lv (pc + 1) (.int (south i.toNatClampNeg) :: rest)) : V X R M k n lv pc (.int i :: .ref (gS (xg X)) :: rest) := by
  obtain ⟨p, l, e, s, m, args, below, meth, c, Q, g, nL, A⟩ := X
  obtain ⟨hx, hb, hml, hown, hE, hZ, hB⟩ := C
  intro H locs ls h1 h2 h3
  exact va_ti hx hb hZ.2.2 (h2.S hB.2.2) hi rfl hd (kk H locs ls h1 h2 h3)
theorem v_obj (C : Bx X y cc) (hw : Cond.methodLink y.cls ix Lib.objectInit ∈ tbl) (hw2 : Cond.instanceMethod Lib.objectInit ∈ tbl) (hw3 : Cond.code Lib.objectInit ⟨#[0xb1]⟩ 1 none ∈ tbl) (hf : 1 ≤ R.frames) (hl : (rest.map fun v => v.category).sum + 12 ≤ R.locals) (hd : decode cc pc = .ok (.invokespecial ix, 3)) (kk : V X R M k n lv (pc + 3) rest) : V X R M k n lv pc (.ref a :: rest) := by
  obtain ⟨p, l, e, s, m, args, below, meth, c, Q, g, nL, A⟩ := X
  obtain ⟨hx, hb, hml, hown, hE, hZ, hB⟩ := C
  intro H locs ls h1 h2 h3
  exact W.objInit hx hb hown (hE.use args _ hw) (hE.use args _ hw2) (hE.use args _ hw3) rfl (by rw [hml]; exact h3.1) rfl hd hf (by show 2 * 0 + _ + 12 ≤ _; omega) (kk H locs ls h1 h2 h3)
end VHeap

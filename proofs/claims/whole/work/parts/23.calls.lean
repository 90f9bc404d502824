/-! Rows of V for calls: by the contract of the callee. -/
theorem Ct.blind {g : Gm} {M : Mem} {av : List Value} : FrameBlind (va_Pc av (fun U => eW g U ∧ hW g M U.heap ∧ sW g U U.heap)) := fun a U gf mk h => ⟨h.1, eW.same (s := U) (U := U.calling gf mk a) rfl h.2.1, h.2.2.1, sW.moved (Vm.Alike.refl _) h.2.2.2⟩
theorem Ct.pre {g : Gm} {A : Nat → Prop} {M : Mem} {s : State} {H : Heap} {locs : List Loc} (hE : eW g s) (hZ : sW g s s.heap) (hA : ∀ q, A q → gA g q) (h1 : hV g A M H) (h2 : sV g A s.heap H locs) (av : List Value) (U : State) (hU : U.heap = H) (hw : s.WarmedH U.vm) : va_Pc av (fun U => eW g U ∧ hW g M U.heap ∧ sW g U U.heap) av.toArray U :=
  ⟨rfl, hE.warm hw, by rw [hU]; exact h1.1, sW.moved hw.alike (by rw [hU]; exact hZ.kept (fun a ha hn => h2.2.1 a ha (fun z => hn (hA a z))))⟩
/-- what the tables say of a method that is called with np arguments -/
def Pm (y : MethodName) (cc : ByteArray) (nL : Nat) (ret : Option FieldType) (np : Nat) : Prop := Cond.code y cc nL ret ∈ tbl ∧ Cond.initialized y.cls ∈ tbl ∧ y.cls ≠ "java/lang/invoke/MethodHandle" ∧ y.cls ≠ "java/lang/invoke/VarHandle" ∧ (parseMethodDescriptor y.desc).map (fun d => d.parameters.length) = some np
theorem Pm.good {y : MethodName} {cc : ByteArray} {nL : Nat} {ret : Option FieldType} {np : Nat} (P : Pm y cc nL ret np) : GoodIn tbl [Cond.code y cc nL ret] := fun w hw => by
  cases List.mem_singleton.mp hw
  exact ⟨P.1, Or.inl rfl⟩
section VCalls
variable {X : FC} {y y' : MethodName} {cc cc' : ByteArray} {R : Room} {M : Mem} {k n nL' d' mc' ms' ix : Nat} {ret' : Option FieldType} {lv : List (Nat × Value)} {pc : Nat} {st As rest : List Value} {post : Option Value → Mem → Prop} {b : Nat}
theorem v_back {p : Program} {l : Launch} {e : Env} {s : State} {m : MethodId} {args : Array Value} {below : List Frame} {meth : Method} {c : Code} {Q : State → Prop} {g : Gm} {nL : Nat} {A : Nat → Prop} {H : Heap} {locs : List Loc} {ls : Array Slot} {a : Array Value} (hA : ∀ q, s.heap.size ≤ q → A q) (h1 : hV g A M H) (h2 : sV g A s.heap H locs) (h3 : lv_has ls nL lv)
    (hr : va_Run p l e R s m args below meth c H locs k n mc' ms' (F0 m pc ls st) rest (qW g M post a) (gA g)) (kk : ∀ (v : Option Value) (M' : Mem), post v M' → V (p, l, e, s, m, args, below, meth, c, Q, g, nL, A) R M' (k + mc') (n + ms') lv (pc + 3) (v.toList ++ rest)) : W p l e R s m args below meth c H locs k n Q (F0 m pc ls st) := by
  intro T hT X
  obtain ⟨v, st₀, t, T', L, h0, X', hL, e1, e2, ⟨v', M', hv, hp, hH, hdom, hz, hk⟩, stp⟩ := hr T hT X
  cases hv
  rw [h0] at hz hk hdom
  have hsub : ∀ q, dA g M H.size q → A q := fun q hq => hq.2.elim (h1.2 q) (fun z => hA q (Nat.le_trans h2.1 z))
  obtain ⟨t2, a1, b1⟩ := kk v M' hp T'.heap (locs ++ L) ls ⟨by rw [e1]; exact hH, fun b hb => hsub b (hdom b hb)⟩ ⟨Nat.le_trans h2.1 (by rw [e1]; exact hz), fun q g1 g2 => by rw [e1, hk q (Nat.lt_of_lt_of_le g1 h2.1) (fun z => g2 (hsub q z))]; exact h2.2.1 q g1 g2, fun q hq => by
      rcases List.mem_append.mp hq with h | h
      · exact h2.2.2 q h
      · exact hL q h⟩ h3 T' rfl X'
  exact ⟨t2, stp t2 a1, b1⟩
theorem v_callV (C : Bx X y cc) (hc : Ct (xl X) (xg X) y' cc' nL' ret' d' mc' ms' (.ref b :: As) M post) (P : Pm y' cc' nL' ret' As.length) (hi : Cond.instanceMethod y' ∈ tbl) (hs : Cond.selects y'.cls y' y' ∈ tbl) (hw : Cond.methodLink y.cls ix y' ∈ tbl) {ci N : Nat} {T : u_T} {ty : Nat → FieldType} {fs : List Value} (K : Kc ci y'.cls T N ty) (hm : M b = some (.inr (ci, fs))) (hR : d' + 1 ≤ R.frames ∧ 8 + (nL' + 11) + 44 * d' ≤ R.locals) (hR2 : k + mc' ≤ R.cells ∧ n + ms' ≤ R.slots) (hrest : (rest.map fun v => v.category).sum ≤ 8) (hd : decode cc pc = .ok (.invokevirtual ix, 3)) (hst : st = As.reverse ++ .ref b :: rest) (kk : ∀ (v : Option Value) (M' : Mem), post v M' → V X R M' (k + mc') (n + ms') lv (pc + 3) (v.toList ++ rest)) : V X R M k n lv pc st := by
  obtain ⟨p, l, e, s, m, args, below, meth, c, Q, g, nL, A⟩ := X
  obtain ⟨hx, hb, hml, hown, hE, hZ, hB⟩ := C
  intro H locs ls h1 h2 h3
  have hts := hE.use args
  exact v_back hB.2.1 h1 h2 h3 (va_runV (As := As) (rest := rest) ⟨hx, hb, hml, hown, hts⟩ hc ⟨callB_of As.length hts P.good rfl rfl rfl (hts _ P.2.1) (hts _ hw) P.2.2 hR, hts _ hi, hts _ hs⟩ ⟨Ct.blind, va_recv hE.1 (h1.one hm) (q0 := 0) K.1 rfl, Ct.pre hE hZ hB.2.2 h1 h2 _⟩ rfl rfl h3.1 hst (lv_room hrest) hd hR2) kk
theorem v_callS (C : Bx X y cc) (hc : Ct (xl X) (xg X) y' cc' nL' ret' d' mc' ms' As M post) (P : Pm y' cc' nL' ret' As.length) (hi : Cond.static y' ∈ tbl) (hw : Cond.methodLink y.cls ix y' ∈ tbl) (hR : d' + 1 ≤ R.frames ∧ 8 + (nL' + 11) + 44 * d' ≤ R.locals) (hR2 : k + mc' ≤ R.cells ∧ n + ms' ≤ R.slots) (hrest : (rest.map fun v => v.category).sum ≤ 8) (hd : decode cc pc = .ok (.invokestatic ix, 3)) (hst : st = As.reverse ++ rest) (kk : ∀ (v : Option Value) (M' : Mem), post v M' → V X R M' (k + mc') (n + ms') lv (pc + 3) (v.toList ++ rest)) : V X R M k n lv pc st := by
  obtain ⟨p, l, e, s, m, args, below, meth, c, Q, g, nL, A⟩ := X
  obtain ⟨hx, hb, hml, hown, hE, hZ, hB⟩ := C
  intro H locs ls h1 h2 h3
  have hts := hE.use args
  exact v_back hB.2.1 h1 h2 h3 (va_runS (As := As) (rest := rest) ⟨hx, hb, hml, hown, hts⟩ hc ⟨callB_of As.length hts P.good rfl rfl rfl (hts _ P.2.1) (hts _ hw) P.2.2 hR, hts _ hi⟩ ⟨Ct.blind, Ct.pre hE hZ hB.2.2 h1 h2 _⟩ rfl rfl h3.1 hst (lv_room hrest) hd hR2) kk
theorem v_callSN (C : Bx X y cc) {host : String} (hc : Ct (xl X) (xg X) y' cc' nL' ret' d' mc' ms' As M post) (P : Pm y' cc' nL' ret' As.length) (hi : Cond.static y' ∈ tbl) (hw : Cond.methodLinkNest y.cls ix y' host ∈ tbl) (hR : d' + 1 ≤ R.frames ∧ 8 + (nL' + 11) + 44 * d' ≤ R.locals) (hR2 : k + mc' ≤ R.cells ∧ n + ms' ≤ R.slots) (hrest : (rest.map fun v => v.category).sum ≤ 8) (hd : decode cc pc = .ok (.invokestatic ix, 3)) (hst : st = As.reverse ++ rest) (kk : ∀ (v : Option Value) (M' : Mem), post v M' → V X R M' (k + mc') (n + ms') lv (pc + 3) (v.toList ++ rest)) : V X R M k n lv pc st := by
  obtain ⟨p, l, e, s, m, args, below, meth, c, Q, g, nL, A⟩ := X
  obtain ⟨hx, hb, hml, hown, hE, hZ, hB⟩ := C
  intro H locs ls h1 h2 h3
  have hts := hE.use args
  exact v_back hB.2.1 h1 h2 h3 (va_runSN (As := As) (rest := rest) ⟨hx, hb, hml, hown, hts⟩ hc ⟨va_cnB As.length hts P.good rfl rfl rfl (hts _ hw) (hts _ P.2.1) P.2.2 hR, hts _ hi, trivial⟩ ⟨Ct.blind, Ct.pre hE hZ hB.2.2 h1 h2 _⟩ rfl rfl h3.1 hst (lv_room hrest) hd hR2) kk
theorem v_callI (C : Bx X y cc) (hc : Ct (xl X) (xg X) y' cc' nL' none d' mc' ms' (.ref b :: As) M post) (P : Pm y' cc' nL' none As.length) (hi : Cond.instanceMethod y' ∈ tbl) (hyn : y'.name = "<init>") (hw : Cond.methodLink y.cls ix y' ∈ tbl) (hR : d' + 1 ≤ R.frames ∧ 8 + (nL' + 11) + 44 * d' ≤ R.locals) (hR2 : k + mc' ≤ R.cells ∧ n + ms' ≤ R.slots) (hrest : (rest.map fun v => v.category).sum ≤ 8) (hd : decode cc pc = .ok (.invokespecial ix, 3)) (hst : st = As.reverse ++ .ref b :: rest) (kk : ∀ (v : Option Value) (M' : Mem), post v M' → V X R M' (k + mc') (n + ms') lv (pc + 3) (v.toList ++ rest)) : V X R M k n lv pc st := by
  obtain ⟨p, l, e, s, m, args, below, meth, c, Q, g, nL, A⟩ := X
  obtain ⟨hx, hb, hml, hown, hE, hZ, hB⟩ := C
  intro H locs ls h1 h2 h3
  have hts := hE.use args
  exact v_back hB.2.1 h1 h2 h3 (va_runI (As := As) (rest := rest) ⟨hx, hb, hml, hown, hts⟩ hc ⟨callB_of As.length hts P.good rfl rfl rfl (hts _ P.2.1) (hts _ hw) P.2.2 hR, hyn, hts _ hi⟩ ⟨Ct.blind, Ct.pre hE hZ hB.2.2 h1 h2 _⟩ rfl rfl h3.1 hst (lv_room hrest) hd hR2) kk
theorem v_callIN (C : Bx X y cc) {host : String} (hc : Ct (xl X) (xg X) y' cc' nL' none d' mc' ms' (.ref b :: As) M post) (P : Pm y' cc' nL' none As.length) (hi : Cond.instanceMethod y' ∈ tbl) (hyn : y'.name = "<init>") (hw : Cond.methodLinkNest y.cls ix y' host ∈ tbl) (hR : d' + 1 ≤ R.frames ∧ 8 + (nL' + 11) + 44 * d' ≤ R.locals) (hR2 : k + mc' ≤ R.cells ∧ n + ms' ≤ R.slots) (hrest : (rest.map fun v => v.category).sum ≤ 8) (hd : decode cc pc = .ok (.invokespecial ix, 3)) (hst : st = As.reverse ++ .ref b :: rest) (kk : ∀ (v : Option Value) (M' : Mem), post v M' → V X R M' (k + mc') (n + ms') lv (pc + 3) (v.toList ++ rest)) : V X R M k n lv pc st := by
  obtain ⟨p, l, e, s, m, args, below, meth, c, Q, g, nL, A⟩ := X
  obtain ⟨hx, hb, hml, hown, hE, hZ, hB⟩ := C
  intro H locs ls h1 h2 h3
  have hts := hE.use args
  exact v_back hB.2.1 h1 h2 h3 (va_runIN (As := As) (rest := rest) ⟨hx, hb, hml, hown, hts⟩ hc ⟨va_cnB As.length hts P.good rfl rfl rfl (hts _ hw) (hts _ P.2.1) P.2.2 hR, hyn, hts _ hi⟩ ⟨Ct.blind, Ct.pre hE hZ hB.2.2 h1 h2 _⟩ rfl rfl h3.1 hst (lv_room hrest) hd hR2) kk
/-- a contract that names its answer and its cells, and makes none -/
abbrev Cd (l : Launch) (g : Gm) (y : MethodName) (cc : ByteArray) (nL : Nat) (ret : Option FieldType) (d : Nat) (av : List Value) (M : Mem) (v : Option Value) (M' : Mem) : Prop := Ct l g y cc nL ret d 0 0 av M (fun w N => w = v ∧ N = M')
theorem dt1 {M' : Mem} {v : Value} {P : Option Value → Mem → Prop} (h : P (some v) M') : ∀ (w : Option Value) (N : Mem), w = some v ∧ N = M' → P w N := fun _ _ q => by rw [q.1, q.2]; exact h
theorem dt0 {M' : Mem} {P : Option Value → Mem → Prop} (h : P none M') : ∀ (w : Option Value) (N : Mem), w = none ∧ N = M' → P w N := fun _ _ q => by rw [q.1, q.2]; exact h
theorem v_abs (C : Bx X y cc) {a : Int32} (hw : Cond.methodLink y.cls ix Lib.Math.abs.name ∈ tbl) (h1 : Cond.static Lib.Math.abs.name ∈ tbl) (h2 : Cond.initialized "java/lang/Math" ∈ tbl) (h3 : Cond.code Lib.Math.abs.name Lib.Math.abs.code 1 (some .int) ∈ tbl) (hf : 1 ≤ R.frames) (hl : (rest.map fun v => v.category).sum + 13 ≤ R.locals) (hk : k ≤ R.cells ∧ n ≤ R.slots) (hd : decode cc pc = .ok (.invokestatic ix, 3)) (kk : V X R M k n lv (pc + 3) (.int (if 0 ≤ a then a else 0 - a) :: rest)) : V X R M k n lv pc (.int a :: rest) := by
  obtain ⟨p, l, e, s, m, args, below, meth, c, Q, g, nL, A⟩ := X
  obtain ⟨hx, hb, hml, hown, hE, hZ, hB⟩ := C
  intro H locs ls g1 g2 g3
  exact va_mabs hx hb (by rw [hml]; exact g3.1.symm) hown (hE.use args _ hw) (hE.use args _ h1) (hE.use args _ h2) (hE.use args _ h3) hf hl hk.1 hk.2 hd (kk H locs ls g1 g2 g3)
theorem v_max (C : Bx X y cc) {a b : Int32} (hw : Cond.methodLink y.cls ix Lib.Math.max.name ∈ tbl) (h1 : Cond.static Lib.Math.max.name ∈ tbl) (h2 : Cond.initialized "java/lang/Math" ∈ tbl) (h3 : Cond.code Lib.Math.max.name Lib.Math.max.code 2 (some .int) ∈ tbl) (hf : 1 ≤ R.frames) (hl : (rest.map fun v => v.category).sum + 13 ≤ R.locals) (hk : k ≤ R.cells ∧ n ≤ R.slots) (hd : decode cc pc = .ok (.invokestatic ix, 3)) (kk : V X R M k n lv (pc + 3) (.int (if a < b then b else a) :: rest)) : V X R M k n lv pc (.int b :: .int a :: rest) := by
  obtain ⟨p, l, e, s, m, args, below, meth, c, Q, g, nL, A⟩ := X
  obtain ⟨hx, hb, hml, hown, hE, hZ, hB⟩ := C
  intro H locs ls g1 g2 g3
  exact va_mmax hx hb (by rw [hml]; exact g3.1.symm) hown (hE.use args _ hw) (hE.use args _ h1) (hE.use args _ h2) (hE.use args _ h3) hf hl hk.1 hk.2 hd (kk H locs ls g1 g2 g3)
theorem v_min (C : Bx X y cc) {a b : Int32} (hw : Cond.methodLink y.cls ix Lib.Math.min.name ∈ tbl) (h1 : Cond.static Lib.Math.min.name ∈ tbl) (h2 : Cond.initialized "java/lang/Math" ∈ tbl) (h3 : Cond.code Lib.Math.min.name Lib.Math.min.code 2 (some .int) ∈ tbl) (hf : 1 ≤ R.frames) (hl : (rest.map fun v => v.category).sum + 13 ≤ R.locals) (hk : k ≤ R.cells ∧ n ≤ R.slots) (hd : decode cc pc = .ok (.invokestatic ix, 3)) (kk : V X R M k n lv (pc + 3) (.int (if b < a then b else a) :: rest)) : V X R M k n lv pc (.int b :: .int a :: rest) := by
  obtain ⟨p, l, e, s, m, args, below, meth, c, Q, g, nL, A⟩ := X
  obtain ⟨hx, hb, hml, hown, hE, hZ, hB⟩ := C
  intro H locs ls g1 g2 g3
  exact va_mmin hx hb (by rw [hml]; exact g3.1.symm) hown (hE.use args _ hw) (hE.use args _ h1) (hE.use args _ h2) (hE.use args _ h3) hf hl hk.1 hk.2 hd (kk H locs ls g1 g2 g3)
end VCalls

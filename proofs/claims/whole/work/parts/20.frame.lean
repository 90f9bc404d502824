/-! The frame: the system's cells as a map from addresses; one judgement V for a walk over such a map; a row an instruction, a row a call. -/
abbrev Mem : Type := Nat → Option va_E
abbrev Gm : Type := va_G × (Nat → ClassId) × Nat × Nat × Nat
abbrev gD (g : Gm) : va_G := g.1
abbrev gC (g : Gm) : Nat → ClassId := g.2.1
abbrev gB (g : Gm) : Nat := g.2.2.1
abbrev gE (g : Gm) : Nat := g.2.2.2.1
abbrev gS (g : Gm) : Nat := g.2.2.2.2
/-- the classes of the arrays that the system makes -/
abbrev gT (g : Gm) : List (ClassId × FieldType) := [(gC g 0, .int), (gC g 1, .long), (gC g 2, .boolean), (gC g 3, .object RX5), (gC g 4, .object RX6), (gC g 5, .array .int)]
/-- the cells that may be written: those made since the law began -/
def gA (g : Gm) : Nat → Prop := fun q => gB g ≤ q
def east (k : Nat) : Int32 := if k = 1 ∨ k = 2 ∨ k = 3 then 1 else if k = 5 ∨ k = 6 ∨ k = 7 then -1 else 0
def south (k : Nat) : Int32 := if k = 3 ∨ k = 4 ∨ k = 5 then 1 else if k = 0 ∨ k = 1 ∨ k = 7 then -1 else 0
def eW (g : Gm) (U : State) : Prop := va_K (gD g) vwCl (gT g) U ∧ ∀ w ∈ tbl, ∀ a : Array Value, w.before a U = true
def hW (g : Gm) (M : Mem) (H : Heap) : Prop := gB g ≤ H.size ∧ ∀ (a : Nat) (e : va_E), M a = some e → gB g ≤ a ∧ va_at (gD g) vwCl (a, e) H
def sW (g : Gm) (U : State) (H : Heap) : Prop := (va_Z "PictureDesk" "EAST_STEP" "[I" (.ref (gE g)) (gA g) U H ∧ va_T .int (gE g) 8 (fun k => .int (east k)) (gA g) U H) ∧ va_Z "PictureDesk" "SOUTH_STEP" "[I" (.ref (gS g)) (gA g) U H ∧ va_T .int (gS g) 8 (fun k => .int (south k)) (gA g) U H
def mset (M : Mem) (a : Nat) (e : va_E) : Mem := fun b => if b = a then some e else M b
theorem mset_same (M : Mem) (a : Nat) (e : va_E) : mset M a e a = some e := if_pos rfl
theorem mset_ne {M : Mem} {a b : Nat} {e : va_E} (h : b ≠ a) : mset M a e b = M b := if_neg h
theorem mset_mset (M : Mem) (a : Nat) (e f : va_E) : mset (mset M a e) a f = mset M a f := by
  funext b
  by_cases h : b = a <;> simp [mset, h]
theorem mset_id {M : Mem} {a : Nat} {e : va_E} (h : M a = some e) : mset M a e = M := by
  funext b
  by_cases hb : b = a
  · subst hb; rw [mset_same, h]
  · rw [mset_ne hb]
def rmD (d mc ms : Nat) : Room := { frames := d, cells := mc, slots := ms, locals := 44 * d }
theorem aoI_spec {args : Array Value} {s : State} (h : (Cond.arrayOver (.array .int)).before args s = true) : ∃ comp c k, s.vm.findClass (FieldType.array .int).toString = some comp ∧ (s.vm.classes.findIdx? fun x => match x.kind with | .array component _ => component == comp | _ => false) = some c ∧ s.vm.classes[c]? = some k ∧ k.kind = .array comp (.array .int) ∧ s.vm.findClass ("[" ++ (FieldType.array .int).toString) = some c := by
  simp only [Cond.before, Cond.holds, Cond.value, beq_iff_eq] at h
  cases hc : s.vm.findClass (FieldType.array .int).toString with
  | none => simp [hc] at h
  | some comp =>
    simp only [hc, Option.bind_some, Option.bind_eq_some_iff, Option.map_eq_some_iff] at h
    obtain ⟨c, hi, k, hk, hb⟩ := h
    refine ⟨comp, c, k, rfl, hi, hk, ?_⟩
    cases hkk : k.kind with
    | array c2 ty =>
      rw [hkk] at hb
      have hb' : (decide (ty = FieldType.array .int) && decide (s.vm.findClass ("[" ++ (FieldType.array .int).toString) = some c)) = true := hb
      simp only [Bool.and_eq_true, decide_eq_true_eq] at hb'
      obtain ⟨rfl, h5⟩ := hb'
      have h6 := Array.findIdx?_eq_some_iff_getElem.mp hi
      obtain ⟨hlt, hp, -⟩ := h6
      have hke : s.vm.classes[c] = k := by
        have := Array.getElem?_eq_getElem hlt
        rw [this] at hk
        exact Option.some.inj hk
      rw [hke, hkk] at hp
      have : c2 = comp := by simpa using hp
      exact ⟨by rw [this], h5⟩
    | _ => rw [hkk] at hb; simp at hb
theorem aoI_moved {u U : State} (hvm : u.vm.Alike U.vm) {A B : Array Value} (h : (Cond.arrayOver (.array .int)).before A u = true) : (Cond.arrayOver (.array .int)).before B U = true := by
  obtain ⟨comp, c, k, h1, h2, h3, h4, h5⟩ := aoI_spec h
  obtain ⟨k', hk', he⟩ := hvm.2.2 _ _ h3
  have hi : (U.vm.classes.findIdx? fun (x : Class) => match x.kind with | .array component _ => component == comp | _ => false) = some c := by
    have e1 := va_idx_bare U.vm comp
    have e2 := va_idx_bare u.vm comp
    have e3 : u.vm.bare = U.vm.bare := by first | exact hvm.bare_eq | exact hvm.bare_eq.symm
    rw [e3] at e2
    exact e1.symm.trans (e2.trans h2)
  have hkind : k'.kind = .array comp (.array .int) := by rw [he]; exact h4
  have f1 : U.vm.findClass (FieldType.array .int).toString = some comp := by rw [hvm.findClass]; exact h1
  have f2 : U.vm.findClass ("[" ++ (FieldType.array .int).toString) = some c := by rw [hvm.findClass]; exact h5
  unfold Cond.before Cond.holds
  simp only [Cond.value]
  rw [f1, Option.bind_some]
  refine (congrArg (fun o : Option Nat => (o.bind (fun c => (U.vm.classes[c]?).map fun (k : Class) => match k.kind with | .array _ ty => decide (ty = FieldType.array .int) && decide (U.vm.findClass ("[" ++ (FieldType.array .int).toString) = some c) | _ => false)) == some true) hi).trans ?_
  simp [hk', hkind, f2]
theorem tb_warm {w : Cond} (h : okWord w = true) {s U : State} (hW : s.WarmedH U.vm) (hZ : ∀ a, w.before a s = true) : ∀ a, w.before a U = true := by
  intro a'
  by_cases h1 : (∃ a b c d, w = .methodLinkNest a b c d) ∨ (∃ a b c d e f, w = .fieldLinkNest a b c d e f) ∨ (∃ a, w = .arrayOver (.object a)) ∨ w = .arrayOver (.array .int)
  · rcases h1 with ⟨a, b, c, d, rfl⟩ | ⟨a, b, c, d, e, f, rfl⟩ | ⟨a, rfl⟩ | rfl
    · exact va_Nw.use rfl (va_Nw.warmM hW (hZ #[]))
    · exact va_Nw.use rfl (va_Nw.warmF hW (hZ #[]))
    · exact va_AO.use (va_AO.moved hW.alike (hZ #[]))
    · exact aoI_moved hW.alike (hZ #[])
  · have h2 : goodWord w = true := by
      unfold okWord at h
      split at h
      · exact absurd (Or.inl ⟨_, _, _, _, rfl⟩) h1
      · exact absurd (Or.inr (Or.inl ⟨_, _, _, _, _, _, rfl⟩)) h1
      · exact absurd (Or.inr (Or.inr (Or.inl ⟨_, rfl⟩))) h1
      · exact absurd (Or.inr (Or.inr (Or.inr rfl))) h1
      · exact h
    exact word_at hW (good_of_word h2) (hZ #[])
theorem eW.warm {g : Gm} {s U : State} (hw : s.WarmedH U.vm) (h : eW g s) : eW g U := ⟨va_K.moved hw.alike h.1, fun w hm => tb_warm (tb_ok hm) hw (h.2 w hm)⟩
theorem eW.same {g : Gm} {s U : State} (hv : s.vm = U.vm) (h : eW g s) : eW g U := h.warm (by rw [← hv]; exact State.WarmedH.refl s)
theorem eW.use {g : Gm} {s : State} (h : eW g s) (args : Array Value) : ∀ w ∈ tbl, w.before args s = true := fun w hm => h.2 w hm args
theorem sW.moved {g : Gm} {s U : State} {H : Heap} (hv : s.vm.Alike U.vm) (h : sW g s H) : sW g U H := ⟨⟨va_Z.moved hv h.1.1, va_T.moved hv h.1.2⟩, va_Z.moved hv h.2.1, va_T.moved hv h.2.2⟩
theorem sW.kept {g : Gm} {s : State} {H H1 : Heap} (h : sW g s H) (hq : ∀ a : Nat, a < H.size → ¬ gA g a → H1[a]? = H[a]?) : sW g s H1 := ⟨⟨va_Z.kept h.1.1 hq, va_T.kept h.1.2 hq⟩, va_Z.kept h.2.1 hq, va_T.kept h.2.2 hq⟩
theorem hW.set {g : Gm} {M : Mem} {H H1 : Heap} {a : Nat} {e0 e : va_E} (h : hW g M H) (h0 : M a = some e0) (e1 : va_at (gD g) vwCl (a, e) H1) (z : H1.size = H.size) (oq : ∀ q : Nat, q ≠ a → H1[q]? = H[q]?) : hW g (mset M a e) H1 := by
  refine ⟨by rw [z]; exact h.1, fun b f hb => ?_⟩
  by_cases hba : b = a
  · subst hba
    rw [mset_same] at hb
    cases hb
    exact ⟨(h.2 b e0 h0).1, e1⟩
  · rw [mset_ne hba] at hb
    exact ⟨(h.2 b f hb).1, (h.2 b f hb).2.kept (oq b hba)⟩
theorem hW.fresh {g : Gm} {M : Mem} {H : Heap} (h : hW g M H) {a : Nat} (ha : H.size ≤ a) : M a = none := by
  cases hm : M a with
  | none => rfl
  | some e =>
    have h1 := (h.2 a e hm).2.lt
    exact absurd h1 (Nat.not_lt.mpr ha)
theorem hW.push {g : Gm} {M : Mem} {H H1 : Heap} {e : va_E} (h : hW g M H) (e1 : va_at (gD g) vwCl (H.size, e) H1) (z : H1.size = H.size + 1) (oq : ∀ q : Nat, q < H.size → H1[q]? = H[q]?) : hW g (mset M H.size e) H1 := by
  refine ⟨by rw [z]; exact Nat.le_succ_of_le h.1, fun b f hb => ?_⟩
  by_cases hba : b = H.size
  · subst hba
    rw [mset_same] at hb
    cases hb
    exact ⟨h.1, e1⟩
  · rw [mset_ne hba] at hb
    exact ⟨(h.2 b f hb).1, (h.2 b f hb).2.kept (oq b (h.2 b f hb).2.lt)⟩
theorem hW.one {g : Gm} {M : Mem} {H : Heap} {a : Nat} {e : va_E} (h : hW g M H) (h0 : M a = some e) : va_P (gD g) vwCl [(a, e)] H := fun k q hk => by
  have hz : k < 1 := (List.getElem?_eq_some_iff.mp hk).1
  rw [show k = 0 by omega] at hk
  cases hk
  exact (h.2 a e h0).2
/-- the cells that a method called over M may write: those of M, and new ones -/
def dA (g : Gm) (M : Mem) (sz : Nat) : Nat → Prop := fun q => gB g ≤ q ∧ (M q ≠ none ∨ sz ≤ q)
/-- what a contract says at its end -/
def qW (g : Gm) (M0 : Mem) (post : Option Value → Mem → Prop) : Array Value → State → Outcome → State → Prop := fun _ st o t => ∃ (v : Option Value) (M' : Mem), o = .returned v ∧ post v M' ∧ hW g M' t.heap ∧ (∀ a, M' a ≠ none → dA g M0 st.heap.size a) ∧ va_F (dA g M0 st.heap.size) st t
/-- A CONTRACT: called with av over the cells M, the method y answers v and leaves the cells M', as post says; at most mc cells of ms slots are new; d frames stand above it -/
def Ct (l : Launch) (g : Gm) (y : MethodName) (cc : ByteArray) (nL : Nat) (ret : Option FieldType) (d mc ms : Nat) (av : List Value) (M : Mem) (post : Option Value → Mem → Prop) : Prop :=
  Met l y [.code y cc nL ret] (rmD d mc ms) (va_Pc av (fun U => eW g U ∧ hW g M U.heap ∧ sW g U U.heap)) (qW g M post) mc ms (gA g)
abbrev FC : Type := Program × Launch × Env × State × MethodId × Array Value × List Frame × Method × Code × (State → Prop) × Gm × Nat × (Nat → Prop)
abbrev xl (X : FC) : Launch := X.2.1
abbrev xg (X : FC) : Gm := X.2.2.2.2.2.2.2.2.2.2.1
abbrev xn (X : FC) : Nat := X.2.2.2.2.2.2.2.2.2.2.2.1
/-- what holds all along a walk of y's code cc -/
def Bx (X : FC) (y : MethodName) (cc : ByteArray) : Prop := match X with
  | (p, _, _, s, m, _, _, _, c, _, g, nL, A) => p.tables.exec = Jvm.exec ∧ c.code = cc ∧ c.maxLocals = nL ∧ s.vm.findClass y.cls = some m.cls ∧ eW g s ∧ sW g s s.heap ∧ gB g ≤ s.heap.size ∧ (∀ q, s.heap.size ≤ q → A q) ∧ ∀ q, A q → gA g q
/-- what holds for a walk that is to end by a return -/
def Rx (X : FC) (y : MethodName) (ret : Option FieldType) (mc ms : Nat) (post : Option Value → Mem → Prop) : Prop := match X with
  | (_, _, _, s, _, args, below, meth, _, Q, g, _, A) => meth.sig.returnType = ret ∧ meth.locks = false ∧ meth.name = y.name ∧ ∃ M0 : Mem, A = dA g M0 s.heap.size ∧ Q = MQ below (qW g M0 post) args s mc ms (gA g)
/-- the cells M stand in the heap, and may be written -/
def hV (g : Gm) (A : Nat → Prop) (M : Mem) (H : Heap) : Prop := hW g M H ∧ ∀ a, M a ≠ none → A a
/-- since the walk began nothing but cells of A has changed -/
def sV (g : Gm) (A : Nat → Prop) (H0 H : Heap) (locs : List Loc) : Prop := H0.size ≤ H.size ∧ (∀ q : Nat, q < H0.size → ¬ A q → H[q]? = H0[q]?) ∧ ∀ l ∈ locs, gA g l.base
theorem sV.S {g : Gm} {A : Nat → Prop} {H0 H : Heap} {locs : List Loc} (h : sV g A H0 H locs) (hA : ∀ q, A q → gA g q) : va_S (gA g) H0 H locs := ⟨h.1, fun q h1 h2 => h.2.1 q h1 (fun z => h2 (hA q z)), h.2.2⟩
theorem sV.F {g : Gm} {A : Nat → Prop} {s t : State} {H : Heap} {locs : List Loc} (h : sV g A s.heap H locs) (ht : t.heap = H) : va_F A s t := ⟨by rw [ht]; exact h.1, fun q h1 h2 => by rw [ht]; exact h.2.1 q h1 h2⟩
theorem sV.put {g : Gm} {A : Nat → Prop} {H0 H H1 : Heap} {locs : List Loc} {a k : Nat} (h : sV g A H0 H locs) (z : H1.size = H.size) (oq : ∀ q : Nat, q ≠ a → H1[q]? = H[q]?) (ha : A a) (hg : gA g a) : sV g A H0 H1 (locs ++ [⟨a, k⟩]) := by
  refine ⟨by rw [z]; exact h.1, fun q h1 h2 => ?_, fun q hq => ?_⟩
  · rw [oq q (fun e => h2 (by rw [e]; exact ha))]
    exact h.2.1 q h1 h2
  · rcases List.mem_append.mp hq with h1 | h1
    · exact h.2.2 q h1
    · rw [List.mem_singleton.mp h1]
      exact hg
theorem hV.one {g : Gm} {A : Nat → Prop} {M : Mem} {H : Heap} {a : Nat} {e : va_E} (h : hV g A M H) (h0 : M a = some e) : va_P (gD g) vwCl [(a, e)] H := h.1.one h0
theorem hV.at {g : Gm} {A : Nat → Prop} {M : Mem} {H : Heap} {a : Nat} {e : va_E} (h : hV g A M H) (h0 : M a = some e) : va_at (gD g) vwCl (a, e) H := (h.1.2 a e h0).2
theorem hV.gA {g : Gm} {A : Nat → Prop} {M : Mem} {H : Heap} {a : Nat} {e : va_E} (h : hV g A M H) (h0 : M a = some e) : gA g a := (h.1.2 a e h0).1
theorem hV.inA {g : Gm} {A : Nat → Prop} {M : Mem} {H : Heap} {a : Nat} {e : va_E} (h : hV g A M H) (h0 : M a = some e) : A a := h.2 a (by rw [h0]; simp)
theorem hV.set {g : Gm} {A : Nat → Prop} {M : Mem} {H H1 : Heap} {a : Nat} {e0 e : va_E} (h : hV g A M H) (h0 : M a = some e0) (e1 : va_at (gD g) vwCl (a, e) H1) (z : H1.size = H.size) (oq : ∀ q : Nat, q ≠ a → H1[q]? = H[q]?) : hV g A (mset M a e) H1 := ⟨h.1.set h0 e1 z oq, fun b hb => by
  by_cases q : b = a
  · rw [q]; exact h.inA h0
  · rw [mset_ne q] at hb; exact h.2 b hb⟩
theorem hV.fresh {g : Gm} {A : Nat → Prop} {M : Mem} {H : Heap} (h : hV g A M H) {a : Nat} (ha : H.size ≤ a) : M a = none := h.1.fresh ha
theorem hV.push {g : Gm} {A : Nat → Prop} {M : Mem} {H H1 : Heap} {e : va_E} (h : hV g A M H) (hA : A H.size) (e1 : va_at (gD g) vwCl (H.size, e) H1) (z : H1.size = H.size + 1) (oq : ∀ q : Nat, q < H.size → H1[q]? = H[q]?) : hV g A (mset M H.size e) H1 := ⟨h.1.push e1 z oq, fun b hb => by
  by_cases q : b = H.size
  · rw [q]; exact hA
  · rw [mset_ne q] at hb; exact h.2 b hb⟩
/-- THE WALK: at pc, with the locals lv and the operands st, over the cells M, k cells of n slots made so far -/
def V (X : FC) (R : Room) (M : Mem) (k n : Nat) (lv : List (Nat × Value)) (pc : Nat) (st : List Value) : Prop := match X with
  | (p, l, e, s, m, args, below, meth, c, Q, g, nL, A) => ∀ (H : Heap) (locs : List Loc) (ls : Array Slot), hV g A M H → sV g A s.heap H locs → lv_has ls nL lv → W p l e R s m args below meth c H locs k n Q (F0 m pc ls st)
theorem Ct.of {l : Launch} {g : Gm} {y : MethodName} {cc : ByteArray} {nL : Nat} {ret : Option FieldType} {d mc ms : Nat} {av : List Value} {M : Mem} {post : Option Value → Mem → Prop} (hy : plainName y.cls = true) (hlen : (lg_sl av).length ≤ nL)
    (body : ∀ X : FC, xl X = l → xg X = g → xn X = nL → Bx X y cc → Rx X y ret mc ms post → V X (rmD d mc ms) M 0 0 (lv_args 0 av) 0 []) : Ct l g y cc nL ret d mc ms av M post := by
  refine Met.ofW (cc := cc) (maxL := nL) (ret := ret) hy rfl ?_
  intro p e s m args below meth c s₁ B hml hv
  obtain ⟨rfl, hE, hH, hZ⟩ := hv
  have hown : s.vm.findClass y.cls = some m.cls := findClass_of_methodNamed B.named
  have hl := lv_entry av (n := nL) hlen
  rw [lg_entry_eq]
  generalize (lg_sl av ++ List.replicate (nL - (lg_sl av).length) Slot.unset).toArray = ls at hl ⊢
  exact body (p, l, e, s, m, av.toArray, below, meth, c, MQ below (qW g M post) av.toArray s mc ms (gA g), g, nL, dA g M s.heap.size) rfl rfl rfl ⟨B.exec, B.bytes, hml, hown, hE, hZ, hH.1, fun q hq => ⟨Nat.le_trans hH.1 hq, Or.inr hq⟩, fun q hq => hq.1⟩ ⟨B.returns, B.notSynchronized, (name_of_methodNamed B.named B.method).1, M, rfl, rfl⟩ s.heap [] ls ⟨hH, fun a ha => by
    cases hm : M a with
    | none => exact absurd hm ha
    | some z => exact ⟨(hH.2 a z hm).1, Or.inl ha⟩⟩ ⟨Nat.le_refl _, fun _ _ _ => rfl, fun _ h => by cases h⟩ hl
def bI (b : Bool) : Int32 := if b then 1 else 0
theorem bI_t : bI true = 1 := rfl
theorem bI_f : bI false = 0 := rfl
theorem bI_01 (b : Bool) : bI b = 0 ∨ bI b = 1 := by cases b <;> simp [bI]
theorem bI_eq0 (b : Bool) : bI b = 0 ↔ b = false := by cases b <;> decide
theorem narrow_b01 {v : Int32} (h : v = 0 ∨ v = 1) : narrow .boolean (.int v) = .int v := by rcases h with rfl | rfl <;> decide +kernel

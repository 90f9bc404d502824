/-! new int[5][40]: a row of rows. -/
def msetN (M : Mem) (r : Nat → Nat) (n : Nat) (e : va_E) : Mem := fun a => if a ∈ (List.range n).map r then some e else M a
theorem msetN_in {M : Mem} {r : Nat → Nat} {n i : Nat} {e : va_E} (hi : i < n) : msetN M r n e (r i) = some e := if_pos (List.mem_map.mpr ⟨i, List.mem_range.mpr hi, rfl⟩)
theorem msetN_ne {M : Mem} {r : Nat → Nat} {n a : Nat} {e : va_E} (h : ∀ i, i < n → a ≠ r i) : msetN M r n e a = M a := if_neg (fun q => by
  obtain ⟨i, hi, hq⟩ := List.mem_map.mp q
  exact h i (List.mem_range.mp hi) hq.symm)
theorem fresh_ne {M : Mem} {a b : Nat} {e : va_E} (h1 : M a = some e) (h2 : M b = none) : a ≠ b := fun q => by rw [q, h2] at h1; cases h1
/-- the row of rows at h when i of its five rows are made, and one of its rows -/
def mnO (c : ClassId) (h i : Nat) : Cell := arrV c 5 (fun j => va_rf (if j < i then some (h + 1 + j) else none))
def mnR (c : ClassId) : Cell := arrV c 40 (fun _ => .int 0)
theorem mnO_0 (c : ClassId) (h : Nat) : ({ cls := c, slots := Array.replicate 5 .null, vm := .none } : Cell) = mnO c h 0 := by
  rw [arrV_new]
  exact congrArg (arrV c 5) (funext fun j => by simp [va_rf])
theorem mnO_s (c : ClassId) (h i : Nat) : (mnO c h i).setSlot i (.ref (h + 1 + i)) = mnO c h (i + 1) := by
  show (arrV c 5 _).setSlot i _ = arrV c 5 _
  rw [arrV_store]
  refine congrArg (arrV c 5) (funext fun j => ?_)
  by_cases e : j = i
  · subst e
    simp [updV, va_rf]
  · by_cases h : j < i
    · simp [updV, e, h, Nat.lt_succ_of_lt h]
    · simp [updV, e, h, show ¬ j < i + 1 by omega]
/-- what has become of T when i rows are made -/
def mnS (T : State) (cA cB : ClassId) (i : Nat) (S : State) : Prop := S.vm = T.vm ∧ S.heap.size = T.heap.size + 1 + i ∧ S.slotsUsed = T.slotsUsed + 5 + i * 40 ∧ (∀ x : Nat, x < T.heap.size → S.heap[x]? = T.heap[x]?) ∧ S.heap[T.heap.size]? = some (mnO cA T.heap.size i) ∧ ∀ j : Nat, j < i → S.heap[T.heap.size + 1 + j]? = some (mnR cB)
theorem mnS_0 (T : State) (cA cB : ClassId) : mnS T cA cB 0 (T.pushCell (mnO cA T.heap.size 0)) := ⟨rfl, by simp, by simp [mnO, arrV_size], fun x hx => State.heap_pushCell_of_lt _ _ hx, State.heap_pushCell_size _ _, fun j hj => absurd hj (Nat.not_lt_zero j)⟩
theorem mnS_at {T S : State} {cA cB : ClassId} {i : Nat} (h : mnS T cA cB i S) : (S.pushCell (mnR cB)).heap[T.heap.size]? = some (mnO cA T.heap.size i) := by
  rw [State.heap_pushCell_of_lt _ _ (show T.heap.size < S.heap.size by rw [h.2.1]; omega)]
  exact h.2.2.2.2.1
theorem mnS_s {T S : State} {cA cB : ClassId} {i : Nat} (h : mnS T cA cB i S) : mnS T cA cB (i + 1) ((S.pushCell (mnR cB)).setCell T.heap.size ((mnO cA T.heap.size i).setSlot i (.ref S.heap.size))) := by
  have h0 := mnS_at h
  obtain ⟨a, b, u, o, q, r⟩ := h
  refine ⟨a, ?_, ?_, fun x hx => ?_, ?_, fun j hj => ?_⟩
  · simp [State.setCell, b]; omega
  · simp [u, mnR, arrV_size]; omega
  · rw [State.heap_setCell_other (Nat.ne_of_gt hx), State.heap_pushCell_of_lt _ _ (show x < S.heap.size by rw [b]; omega)]
    exact o x hx
  · rw [State.heap_setCell_self h0, b, mnO_s]
  · rw [State.heap_setCell_other (show T.heap.size ≠ T.heap.size + 1 + j by omega)]
    by_cases e : j < i
    · rw [State.heap_pushCell_of_lt _ _ (show T.heap.size + 1 + j < S.heap.size by rw [b]; omega)]
      exact r j e
    · have e2 : T.heap.size + 1 + j = S.heap.size := by rw [b]; omega
      rw [e2]
      exact State.heap_pushCell_size _ _
/-- that state: the row of rows, then a row more, and its address stored, five times -/
def mnZ (T : State) (cA cB : ClassId) : Nat → State
  | 0 => T.pushCell (mnO cA T.heap.size 0)
  | i + 1 => ((mnZ T cA cB i).pushCell (mnR cB)).setCell T.heap.size ((mnO cA T.heap.size i).setSlot i (.ref (mnZ T cA cB i).heap.size))
theorem mnZ_S (T : State) (cA cB : ClassId) : ∀ i : Nat, mnS T cA cB i (mnZ T cA cB i)
  | 0 => mnS_0 T cA cB
  | i + 1 => mnS_s (mnZ_S T cA cB i)
section
variable {p : Program} {l : Launch} {e : Env} {R : Room} {s : State} {m : MethodId} {args : Array Value} {below : List Frame} {meth : Method} {c : Code} {locs : List Loc} {k n : Nat} {T : State} {cA cB cI : ClassId}
theorem mnZ_X (X : Stand p l e R s m args below meth c T locs k n) : ∀ i : Nat, Stand p l e R s m args below meth c (mnZ T cA cB i) locs (k + 1 + i) (n + 5 + i * 40)
  | 0 => by
    have h := X.pushed (mnO cA T.heap.size 0)
    rw [show (mnO cA T.heap.size 0).slots.size = 5 from arrV_size _ _ _] at h
    exact h
  | i + 1 => by
    have Y := (((mnZ_X X i).pushed (mnR cB)).stored (mnS_at (mnZ_S T cA cB i)) i (.ref (mnZ T cA cB i).heap.size)).dropFresh (fun x hx => by
      rw [List.mem_singleton.mp hx]
      exact X.heapGrown)
    rw [show (mnR cB).slots.size = 40 from arrV_size _ _ _] at Y
    rw [show n + 5 + (i + 1) * 40 = n + 5 + i * 40 + 40 by omega]
    exact Y
/-- the model's make of five rows of forty -/
theorem mn_make {E : CtlPost} {d : Bool} {acts : List Action} {f : JFrame} {kA kB : Class} {Q : Addr → Pre} (hA : T.vm.classes[cA]? = some kA) (hA2 : kA.kind = .array cB (.array .int)) (hB : T.vm.classes[cB]? = some kB) (hB2 : kB.kind = .array cI .int) (lim : 40 ≤ e.platform.arrayLengthLimit) (byt : 160 ≤ e.platform.maxHeapBytes) (r1 : T.heap.size + 6 ≤ e.platform.maxCells) (r2 : T.slotsUsed + 205 ≤ e.platform.maxSlots)
    (hq : ∀ (d' : Bool) (acts' : List Action), Q T.heap.size d' acts' ((mnZ T cA cB 5).setTop f)) : wp (multianewarray.make cA [5, 40]) Q E e d acts (T.setTop f) := by
  have c5 : ¬ ((5 : Int32) < 0) := by decide
  have c40 : ¬ ((40 : Int32) < 0) := by decide
  have t5 : (5 : Int32).toNatClampNeg = 5 := by decide
  have t40 : (40 : Int32).toNatClampNeg = 40 := by decide
  have nf : ([(40 : Int32)].find? (· < 0)) = none := by decide
  rw [multianewarray.make]
  simp only [wp_bind', Jvm.W.ite, c5, if_false, wp_pure', Jvm.W.theClass, State.vm_setTop, hA, hA2, Option.some.injEq, exists_eq_left', t5]
  refine Jvm.W.newArray_of (s := T.setTop f) hA hA2 (by omega) (by show ¬ 5 * 4 > _; omega) (by show T.heap.size < _; omega) (by show T.slotsUsed + 5 ≤ _; omega) rfl fun acts1 => ?_
  rw [mnO_0 cA T.heap.size, State.pushCell_setTop]
  simp only [nf]
  rw [ite_self, wp_bind', Std.Legacy.Range.forIn_eq_forIn_range', show ([:5] : Std.Legacy.Range).size = 5 from rfl]
  refine wp_forIn_inv (fun rest U => ∃ i : Nat, rest = List.range' i (5 - i) ∧ i ≤ 5 ∧ U = (mnZ T cA cB i).setTop f) _ _ ⟨0, rfl, by omega, rfl⟩ ?_ ?_
  · rintro x rest U d1 acts2 Q1 ⟨i, hr, hi, rfl⟩ next
    have hi5 : i < 5 ∧ x = i ∧ rest = List.range' (i + 1) (5 - (i + 1)) := by
      cases hj : 5 - i with
      | zero => rw [hj] at hr; cases hr
      | succ j =>
        rw [hj, List.range'_succ] at hr
        rw [show 5 - (i + 1) = j by omega]
        exact ⟨by omega, (List.cons.inj hr).1, (List.cons.inj hr).2⟩
    obtain ⟨hi5, rfl, hr2⟩ := hi5
    have hZ := mnZ_S T cA cB x
    have hB' : (mnZ T cA cB x).vm.classes[cB]? = some kB := by rw [hZ.1]; exact hB
    have hA' : (mnZ T cA cB x).vm.classes[cA]? = some kA := by rw [hZ.1]; exact hA
    have z1 := hZ.2.1
    have z2 := hZ.2.2.1
    rw [wp_bind', multianewarray.make]
    simp only [wp_bind', Jvm.W.ite, c40, if_false, wp_pure', Jvm.W.theClass, State.vm_setTop, hB', hB2, Option.some.injEq, exists_eq_left', t40]
    refine Jvm.W.newArray_of (s := (mnZ T cA cB x).setTop f) hB' hB2 (by omega) (by show ¬ 40 * 4 > _; omega) (by show (mnZ T cA cB x).heap.size < _; omega) (by show (mnZ T cA cB x).slotsUsed + 40 ≤ _; omega) rfl fun acts3 => ?_
    rw [arrV_new, State.pushCell_setTop]
    simp only [wp_bind', Jvm.W.writeLoc, wp_pure']
    refine ⟨mnO cA T.heap.size x, mnS_at hZ, ?_, ?_, ?_, next _ _ _ ⟨x + 1, hr2, hi5, rfl⟩⟩
    · exact fun h => by cases h
    · rw [show (mnO cA T.heap.size x).slots.size = 5 from arrV_size _ _ _]; exact hi5
    · simp [State.fitsSlot, State.slotType?, mnO, arrV, hA', hA2, fits]
  · rintro U d1 acts2 ⟨i, hr, hi, rfl⟩
    have hi5 : i = 5 := by
      cases hj : 5 - i with
      | zero => omega
      | succ j => rw [hj, List.range'_succ] at hr; cases hr
    subst hi5
    simp only [wp_pure']
    exact hq d1 acts2
/-- the instruction, at five and forty -/
theorem mn_step (X : Stand p l e R s m args below meth c T locs k n) (hexec : p.tables.exec = Jvm.exec) {own : String} {ix : Nat} (hown : s.vm.findClass own = some m.cls) (hw : (Cond.classLink own ix ("[" ++ (FieldType.array .int).toString)).before args s = true) (hw2 : (Cond.arrayOver (.array .int)).before args s = true) (hw3 : (Cond.arrayClass .int).before args s = true) {g : JFrame} (hg : g.method = m) (hd : decode c.code g.pc = .ok (.multianewarray ix 2, 4)) {rest : List Value} (hst : g.stack = .int 40 :: .int 5 :: rest) (hk : k + 6 ≤ R.cells) (hn : n + 205 ≤ R.slots) :
    ∃ (vm1 : Vm) (cA cB : ClassId), s.vm.findClass ("[" ++ (FieldType.array .int).toString) = some cA ∧ s.vm.findClass (FieldType.array .int).toString = some cB ∧ Stand p l e R s m args below meth c (mnZ (T.setVm vm1) cA cB 5) locs (k + 1 + 5) (n + 5 + 5 * 40) ∧
      ∀ t : State, Steps p.tables e below ((mnZ (T.setVm vm1) cA cB 5).setTop { g with pc := g.pc + 4, stack := .ref T.heap.size :: rest }) t → Steps p.tables e below (T.setTop g) t := by
  subst hg
  obtain ⟨cB, cA, kA, fB, -, hA, hA2, fA⟩ := arrayOverA_spec hw2
  obtain ⟨cB', kB, cI, fB', hB, hB2⟩ := Cond.arrayClass_spec hw3
  cases Option.some.inj (fB'.symm.trans fB)
  obtain ⟨cA', fA', hl⟩ := Cond.classLink_spec hown hw e.platform (by rw [X.admits.platform])
  cases Option.some.inj (fA'.symm.trans fA)
  obtain ⟨gives, warm, -⟩ := State.classEntry (e := e) X.warmed hl
  refine ⟨_, cA, cB, fA, fB, mnZ_X (X.noted warm) 5, fun t hrest => ?_⟩
  obtain ⟨kA1, hA1, eA⟩ := warm.alike.2.2 _ _ hA
  obtain ⟨kB1, hB1, eB⟩ := warm.alike.2.2 _ _ hB
  obtain ⟨r1, r2⟩ := X.roomAbove hk hn
  have lim := Launch.admits_arrayLengthLimit X.admits
  have byt := Launch.admits_maxHeapBytes X.admits
  have Y := mnZ_X (cA := cA) (cB := cB) (X.noted warm) 5
  generalize T.vm.noted g.method.cls ix (.cls cA) = vm1 at gives warm hA1 hB1 hrest Y
  jvm_step X.here [hexec, hd]
  simp only [multianewarray.sem, wp_bind', Jvm.W.resolveClassAt_links (State.method?_setTop g X.here.top) gives]
  rw [Jvm.W.popN, if_neg (by decide)]
  refine ⟨g, State.topJava?_setTop' (s := T.setVm vm1) g X.here.top, [.int 5, .int 40], rest, rfl, hst, ?_⟩
  simp only [List.mapM_cons, List.mapM_nil, wp_bind', wp_pure']
  have same : ((T.setTop g).setVm vm1).setTop { g with stack := rest } = (T.setVm vm1).setTop { g with stack := rest } := State.setTop_setTop (T.setVm vm1) g _
  rw [same]
  refine mn_make (T := T.setVm vm1) hA1 (by rw [eA]; exact hA2) hB1 (by rw [eB]; exact hB2) (by omega) (by omega) r1 r2 fun d1 acts1 => ?_
  simp only [wp_bind', Jvm.W.mark, Jvm.W.pushRef, State.topJava?_setTop' _ Y.here.top, Option.some.injEq, exists_eq_left', State.setTop_setTop]
  intro acts2
  simp [jvm, Y.here.top]
  exact hrest
end
theorem v_mna {X : FC} {y : MethodName} {cc : ByteArray} {R : Room} {M : Mem} {k n : Nat} {lv : List (Nat × Value)} {pc ix : Nat} {rest : List Value} (C : Bx X y cc) (hw : Cond.classLink y.cls ix ("[" ++ (FieldType.array .int).toString) ∈ tbl) (hw2 : Cond.arrayOver (.array .int) ∈ tbl) (hw3 : Cond.arrayClass .int ∈ tbl) (hc1 : k + (1 + 5) ≤ R.cells) (hc2 : n + (5 + 5 * 40) ≤ R.slots) (hd : decode cc pc = .ok (.multianewarray ix 2, 4))
    (kk : ∀ (q : Nat) (r : Nat → Nat), (∀ i j : Nat, i < 5 → j < 5 → r i = r j → i = j) → (∀ i : Nat, i < 5 → M (r i) = none ∧ r i ≠ q) → M q = none → V X R (msetN (mset M q (aQ (xg X) 5 5 (fun i => if i < 5 then some (r i) else none))) r 5 (aI (xg X) 40 (fun _ => 0))) (k + 1 + 5) (n + 5 + 5 * 40) lv (pc + 4) (.ref q :: rest)) : V X R M k n lv pc (.int 40 :: .int 5 :: rest) := by
  obtain ⟨p, l, e, s, m, args, below, meth, c, Q, g, nL, A⟩ := X
  obtain ⟨hx, hb, hml, hown, hE, hZ, hB⟩ := C
  intro H locs ls h1 h2 h3
  have hcI : s.vm.findClass (FieldType.array .int).toString = some (gC g 0) := (hE.1.2 0 _ rfl).2
  intro T hT Xs
  subst hT
  obtain ⟨vm1, cA, cB, fA, fB, X', step⟩ := mn_step Xs hx hown (hE.use args _ hw) (hE.use args _ hw2) (hE.use args _ hw3) (g := F0 m pc ls (.int 40 :: .int 5 :: rest)) rfl (by rw [hb]; exact hd) rfl hc1 hc2
  have ec := Option.some.inj (hcI.symm.trans fB)
  subst ec
  have ea := Option.some.inj (((hE.1.2 5 _ rfl).2).symm.trans fA)
  subst ea
  obtain ⟨-, f1, -, hold, f2, f3⟩ := mnZ_S (T.setVm vm1) (gC g 5) (gC g 0) 5
  generalize mnZ (T.setVm vm1) (gC g 5) (gC g 0) 5 = F at X' step f1 hold f2 f3
  have hrow : ∀ j : Nat, j < 5 → F.heap[T.heap.size + 1 + j]? = some (vp_cell (gC g 0) (40, .inl (fun _ => 0))) := f3
  have hout : F.heap[T.heap.size]? = some (vp_cell (gC g 5) (5, .inr (.inr (.inr (.inr (fun i => if i < 5 then some (T.heap.size + 1 + i) else none)))))) := f2
  have f1 : F.heap.size = T.heap.size + 1 + 5 := f1
  have hold : ∀ x : Nat, x < T.heap.size → F.heap[x]? = T.heap[x]? := hold
  have hmem0 : hW g (msetN (mset M T.heap.size (aQ g 5 5 (fun i => if i < 5 then some (T.heap.size + 1 + i) else none))) (fun i => T.heap.size + 1 + i) 5 (aI g 40 (fun _ => 0))) F.heap := by
    have hsz : T.heap.size ≤ F.heap.size := by rw [f1]; omega
    refine ⟨Nat.le_trans h1.1.1 hsz, fun b f hb => ?_⟩
    by_cases q1 : ∃ i, i < 5 ∧ b = T.heap.size + 1 + i
    · obtain ⟨i, hi, rfl⟩ := q1
      rw [msetN_in (r := fun i => T.heap.size + 1 + i) hi] at hb
      cases hb
      exact ⟨Nat.le_trans h1.1.1 (by omega), hrow i hi⟩
    · rw [msetN_ne (fun i hi z => q1 ⟨i, hi, z⟩)] at hb
      by_cases q2 : b = T.heap.size
      · subst q2
        rw [mset_same] at hb
        cases hb
        exact ⟨h1.1.1, hout⟩
      · rw [mset_ne q2] at hb
        exact ⟨(h1.1.2 b f hb).1, (h1.1.2 b f hb).2.kept (hold b (h1.1.2 b f hb).2.lt)⟩
  have hmem := (⟨hmem0, fun b hb => by
    by_cases q1 : ∃ i, i < 5 ∧ b = T.heap.size + 1 + i
    · obtain ⟨i, hi, rfl⟩ := q1
      exact hB.2.1 _ (Nat.le_trans h2.1 (by omega))
    · rw [msetN_ne (fun i hi z => q1 ⟨i, hi, z⟩)] at hb
      by_cases q2 : b = T.heap.size
      · rw [q2]; exact hB.2.1 _ h2.1
      · rw [mset_ne q2] at hb; exact h1.2 b hb⟩ : hV g A _ F.heap)
  obtain ⟨t, a1, b1⟩ := kk T.heap.size (fun i => T.heap.size + 1 + i) (fun i j _ _ h => by have h9 : T.heap.size + 1 + i = T.heap.size + 1 + j := h; omega) (fun i hi => ⟨h1.fresh (by omega), by show T.heap.size + 1 + i ≠ T.heap.size; omega⟩) (h1.fresh (Nat.le_refl _)) F.heap locs ls hmem
    ⟨by rw [f1]; have := h2.1; omega, fun x g1 g2 => (hold x (Nat.lt_of_lt_of_le g1 h2.1)).trans (h2.2.1 x g1 g2), h2.2.2⟩ h3 F rfl X'
  exact ⟨t, step t a1, b1⟩

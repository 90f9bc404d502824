/-! new int[5][40]: a row of rows. -/
def msetN (M : Mem) (r : Nat → Nat) (n : Nat) (e : va_E) : Mem := fun a => if a ∈ (List.range n).map r then some e else M a
theorem msetN_in {M : Mem} {r : Nat → Nat} {n i : Nat} {e : va_E} (hi : i < n) : msetN M r n e (r i) = some e := if_pos (List.mem_map.mpr ⟨i, List.mem_range.mpr hi, rfl⟩)
theorem msetN_ne {M : Mem} {r : Nat → Nat} {n a : Nat} {e : va_E} (h : ∀ i, i < n → a ≠ r i) : msetN M r n e a = M a := if_neg (fun q => by
  obtain ⟨i, hi, hq⟩ := List.mem_map.mp q
  exact h i (List.mem_range.mp hi) hq.symm)
theorem fresh_ne {M : Mem} {a b : Nat} {e : va_E} (h1 : M a = some e) (h2 : M b = none) : a ≠ b := fun q => by rw [q, h2] at h1; cases h1
theorem outer_eq (c : ClassId) (N h0 : Nat) : ∀ i : Nat, Jvm.Free.Multi.outerC c N h0 i = arrV c N (fun j => va_rf (if j < i then some (h0 + 1 + j) else none))
  | 0 => by
    show ({ cls := c, slots := Array.replicate N .null, vm := .none } : Cell) = _
    rw [arrV_new]
    refine congrArg (arrV c N) (funext fun j => ?_)
    simp [va_rf]
  | i + 1 => by
    show (Jvm.Free.Multi.outerC c N h0 i).setSlot i (.ref (h0 + 1 + i)) = _
    rw [outer_eq c N h0 i, arrV_store]
    refine congrArg (arrV c N) (funext fun j => ?_)
    by_cases e : j = i
    · subst e
      simp [updV, va_rf]
    · by_cases h : j < i
      · simp [updV, e, h, Nat.lt_succ_of_lt h]
      · simp [updV, e, h, show ¬ j < i + 1 by omega]
theorem v_mna {X : FC} {y : MethodName} {cc : ByteArray} {R : Room} {M : Mem} {k n : Nat} {lv : List (Nat × Value)} {pc ix : Nat} {rest : List Value} (C : Bx X y cc) (hw : Cond.classLink y.cls ix ("[" ++ (FieldType.array .int).toString) ∈ tbl) (hw2 : Cond.arrayOver (.array .int) ∈ tbl) (hw3 : Cond.arrayClass .int ∈ tbl) (hc1 : k + (1 + 5) ≤ R.cells) (hc2 : n + (5 + 5 * 40) ≤ R.slots) (hd : decode cc pc = .ok (.multianewarray ix 2, 4))
    (kk : ∀ (q : Nat) (r : Nat → Nat), (∀ i j : Nat, i < 5 → j < 5 → r i = r j → i = j) → (∀ i : Nat, i < 5 → M (r i) = none ∧ r i ≠ q) → M q = none → V X R (msetN (mset M q (aQ (xg X) 5 5 (fun i => if i < 5 then some (r i) else none))) r 5 (aI (xg X) 40 (fun _ => 0))) (k + 1 + 5) (n + 5 + 5 * 40) lv (pc + 4) (.ref q :: rest)) : V X R M k n lv pc (.int 40 :: .int 5 :: rest) := by
  obtain ⟨p, l, e, s, m, args, below, meth, c, Q, g, nL, A⟩ := X
  obtain ⟨hx, hb, hml, hown, hE, hZ, hB⟩ := C
  intro H locs ls h1 h2 h3
  have hcI : s.vm.findClass (FieldType.array .int).toString = some (gC g 0) := (hE.1.2 0 _ rfl).2
  intro T hT Xs
  obtain ⟨vm₁, cA, comp, -, fA, fC, hO, -, X', step⟩ := Xs.multianewarray2F hx hown (hE.use args _ hw) (hE.use args _ hw2) (hE.use args _ hw3) (g := F0 m pc ls (.int 40 :: .int 5 :: rest)) rfl (by rw [hb]; exact hd) rfl (by decide) (by decide) (by decide) (by decide) (by decide) (by decide) (by decide) hc1 hc2
  have ec : some (gC g 0) = some comp := hcI.symm.trans fC
  have ec := Option.some.inj ec
  subst ec
  have ea : some (gC g 5) = some cA := ((hE.1.2 5 _ rfl).2).symm.trans fA
  have ea := Option.some.inj ea
  subst ea
  generalize hF : Jvm.Free.Multi.fill (T.setVm vm₁) (gC g 5) (gC g 0) (5 : Int32).toNatClampNeg (40 : Int32).toNatClampNeg (defaultValue .int) (5 : Int32).toNatClampNeg = F at X' step
  have hTh : (T.setVm vm₁).heap = H := hT
  obtain ⟨f1, f2, -, -⟩ := Jvm.Free.Multi.fill_facts (T.setVm vm₁) (gC g 5) (gC g 0) (5 : Int32).toNatClampNeg (40 : Int32).toNatClampNeg (defaultValue .int) (5 : Int32).toNatClampNeg
  rw [hF, hTh] at f1 f2
  have hold : ∀ x : Nat, x < H.size → F.heap[x]? = H[x]? := fun x hx => by
    have := Jvm.Free.Multi.fill_old (T.setVm vm₁) (gC g 5) (gC g 0) (5 : Int32).toNatClampNeg (40 : Int32).toNatClampNeg (defaultValue .int) (a := x) (by rw [hTh]; exact hx) (5 : Int32).toNatClampNeg
    rw [hF, hTh] at this
    exact this
  have hrow : ∀ j : Nat, j < 5 → F.heap[H.size + 1 + j]? = some (vp_cell (gC g 0) (40, .inl (fun _ => 0))) := fun j hj => by
    have := Jvm.Free.Multi.fill_inner (T.setVm vm₁) (gC g 5) (gC g 0) (5 : Int32).toNatClampNeg (40 : Int32).toNatClampNeg (defaultValue .int) (5 : Int32).toNatClampNeg j hj
    rw [hF, hTh] at this
    rw [this, vp_cell_i]
    show some ({ cls := gC g 0, slots := Array.replicate 40 (.int 0), vm := .none } : Cell) = _
    rw [arrV_new]
  have hout : F.heap[H.size]? = some (vp_cell (gC g 5) (5, .inr (.inr (.inr (.inr (fun i => if i < 5 then some (H.size + 1 + i) else none)))))) := by
    rw [f2, vp_cell_q]
    exact congrArg some (outer_eq (gC g 5) 5 H.size 5)
  have hmem0 : hW g (msetN (mset M H.size (aQ g 5 5 (fun i => if i < 5 then some (H.size + 1 + i) else none))) (fun i => H.size + 1 + i) 5 (aI g 40 (fun _ => 0))) F.heap := by
    have hsz : H.size ≤ F.heap.size := by rw [f1]; omega
    refine ⟨Nat.le_trans h1.1.1 hsz, fun b f hb => ?_⟩
    by_cases q1 : ∃ i, i < 5 ∧ b = H.size + 1 + i
    · obtain ⟨i, hi, rfl⟩ := q1
      rw [msetN_in (r := fun i => H.size + 1 + i) hi] at hb
      cases hb
      exact ⟨Nat.le_trans h1.1.1 (by omega), hrow i hi⟩
    · rw [msetN_ne (fun i hi z => q1 ⟨i, hi, z⟩)] at hb
      by_cases q2 : b = H.size
      · subst q2
        rw [mset_same] at hb
        cases hb
        exact ⟨h1.1.1, hout⟩
      · rw [mset_ne q2] at hb
        exact ⟨(h1.1.2 b f hb).1, (h1.1.2 b f hb).2.kept (hold b (h1.1.2 b f hb).2.lt)⟩
  have hmem := (⟨hmem0, fun b hb => by
    by_cases q1 : ∃ i, i < 5 ∧ b = H.size + 1 + i
    · obtain ⟨i, hi, rfl⟩ := q1
      exact hB.2.1 _ (Nat.le_trans h2.1 (by omega))
    · rw [msetN_ne (fun i hi z => q1 ⟨i, hi, z⟩)] at hb
      by_cases q2 : b = H.size
      · rw [q2]; exact hB.2.1 _ h2.1
      · rw [mset_ne q2] at hb; exact h1.2 b hb⟩ : hV g A _ F.heap)
  obtain ⟨t, a1, b1⟩ := kk H.size (fun i => H.size + 1 + i) (fun i j _ _ h => by have h9 : H.size + 1 + i = H.size + 1 + j := h; omega) (fun i hi => ⟨h1.fresh (by omega), by show H.size + 1 + i ≠ H.size; omega⟩) (h1.fresh (Nat.le_refl _)) F.heap locs ls hmem
    ⟨by rw [f1]; have := h2.1; omega, fun x g1 g2 => (hold x (Nat.lt_of_lt_of_le g1 h2.1)).trans (h2.2.1 x g1 g2), h2.2.2⟩ h3 F rfl X'
  refine ⟨t, step t ?_, b1⟩
  have e : T.heap.size = H.size := by rw [hT]
  rw [e]
  exact a1

/-! The album in the cells. -/
def AlbW (g : Gm) (M : Mem) (al pt : Nat) (pa ca ka ra : Nat → Nat) (nP : Nat) (pf : Nat → Nat → Nat) (pl ph : Nat → Int64) (cn lk : Nat → Nat → Int32) : Prop :=
  nP ≤ 10 ∧ M al = some (.inr (0, [.ref pt, .int (nI nP)])) ∧ M pt = some (aQ g 3 10 (fun i => if i < nP then some (pa i) else none)) ∧ (∀ i, i < nP → PicW g M (pa i) (ca i) (ka i) (ra i) (pf i) (pl i) (ph i) (cn i) (lk i)) ∧ ∀ i, i < nP → ∀ j, j < nP → (i ≠ j → ka i ≠ ka j ∧ ra i ≠ ra j ∧ ca i ≠ ca j) ∧ ka i ≠ ra j
theorem LandW.frame {g : Gm} {M N : Mem} {la ta : Nat} {th mk dn : Nat → Nat} {nT : Nat} {m : Nat → Nat → Nat} {lo hi : Nat → Int64} (hL : LandW g M la ta th mk dn nT m lo hi) {S : Nat → Prop} (hS : ∀ a, S a → ∃ f, M a = some (aI g 96 f)) (hN : ∀ a, ¬ S a → N a = M a) : LandW g N la ta th mk dn nT m lo hi := by
  obtain ⟨h1, h2, h3, h4⟩ := hL
  have hk : ∀ a e, M a = some e → (∀ f, e ≠ aI g 96 f) → N a = some e := fun a e he hf => by
    rw [hN a (fun q => by obtain ⟨f, q⟩ := hS a q; exact hf f (Option.some.inj (he.symm.trans q)))]
    exact he
  refine ⟨h1, hk _ _ h2 (by simp), hk _ _ h3 (by simp), fun i hi => ?_⟩
  obtain ⟨q1, q2, q3, q4⟩ := h4 i hi
  exact ⟨hk _ _ q1 (by simp), hk _ _ q2 (by simp), hk _ _ q3 (by simp), q4⟩
theorem PicW.frame {g : Gm} {M N : Mem} {pa ca ka ra : Nat} {pf : Nat → Nat} {lo hi : Int64} {cn lk : Nat → Int32} (h : PicW g M pa ca ka ra pf lo hi cn lk) (h1 : N pa = M pa) (h2 : N ca = M ca) (h3 : N ka = M ka) (h4 : N ra = M ra) : PicW g N pa ca ka ra pf lo hi cn lk :=
  ⟨h.1, h.2.1, h1.trans h.2.2.1, h2.trans h.2.2.2.1, h3.trans h.2.2.2.2.1, h4.trans h.2.2.2.2.2⟩
theorem AlbW.dev {g : Gm} {M : Mem} {al pt : Nat} {pa ca ka ra : Nat → Nat} {nP : Nat} {pf : Nat → Nat → Nat} {pl ph : Nat → Int64} {cn lk : Nat → Nat → Int32} (hA : AlbW g M al pt pa ca ka ra nP pf pl ph cn lk) {i : Nat} (hi : i < nP) (f1 f2 : Nat → Int32) : AlbW g (mset (mset M (ka i) (aI g 96 f1)) (ra i) (aI g 96 f2)) al pt pa ca ka ra nP pf pl ph (fun j => if j = i then f1 else cn j) (fun j => if j = i then f2 else lk j) := by
  have ⟨a1, a2, a3, a4, a5⟩ := hA
  have hp := a4 i hi
  have e5 := hp.2.2.2.2.1
  have e6 := hp.2.2.2.2.2
  have ne : ∀ {a : Nat} {e : va_E}, M a = some e → (∀ f, e ≠ aI g 96 f) → mset (mset M (ka i) (aI g 96 f1)) (ra i) (aI g 96 f2) a = M a := fun he hf => by
    rw [mset_ne (cell_ne he e6 (hf _)), mset_ne (cell_ne he e5 (hf _))]
  refine ⟨a1, (ne a2 (by simp)).trans a2, (ne a3 (by simp)).trans a3, fun j hj => ?_, a5⟩
  by_cases q : j = i
  · subst q
    simp only [if_true]
    have h1 := (hp.setK f1).setR f2
    exact h1
  · simp only [q, if_false]
    have hq := a4 j hj
    refine hq.frame (ne hq.2.2.1 (by simp)) (ne hq.2.2.2.1 (by simp)) ?_ ?_
    · rw [mset_ne ((a5 j hj i hi).2), mset_ne (((a5 j hj i hi).1 q).1)]
    · rw [mset_ne (((a5 j hj i hi).1 q).2.1), mset_ne (Ne.symm (a5 i hi j hj).2)]

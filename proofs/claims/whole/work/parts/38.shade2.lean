/-! What develop makes of a PICTURE's rows. -/
theorem px_first {s c : Nat} (hs : s < 4) : nI (c % 12) + east (2 * s) = Int32.ofInt (px s c 1) := by
  rw [east_N s hs, nI_ofInt, ← Int32.ofInt_add]
  congr 1
  unfold px
  omega
theorem py_first {s c : Nat} (hs : s < 4) : nI (c / 12) + south (2 * s) = Int32.ofInt (py s c 1) := by
  rw [south_N s hs, nI_ofInt, ← Int32.ofInt_add]
  congr 1
  unfold py
  omega
theorem px_step {s c k : Nat} (hs : s < 4) : Int32.ofInt (px s c k) + east (2 * s) = Int32.ofInt (px s c (k + 1)) := by
  rw [east_N s hs, ← Int32.ofInt_add, px_next]
theorem py_step {s c k : Nat} (hs : s < 4) : Int32.ofInt (py s c k) + south (2 * s) = Int32.ofInt (py s c (k + 1)) := by
  rw [south_N s hs, ← Int32.ofInt_add, py_next]
theorem PicW.setR {g : Gm} {M : Mem} {pa ca ka ra : Nat} {pf : Nat → Nat} {lo hi : Int64} {cn lk : Nat → Int32} (h : PicW g M pa ca ka ra pf lo hi cn lk) (f : Nat → Int32) : PicW g (mset M ra (aI g 96 f)) pa ca ka ra pf lo hi cn f := by
  obtain ⟨h1, h2, h3, h4, h5, h6⟩ := h
  exact ⟨h1, h2, (mset_ne (cell_ne h3 h6 (by simp))).trans h3, (mset_ne (cell_ne h4 h6 (by simp))).trans h4, (mset_ne h2).trans h5, mset_same _ _ _⟩
theorem PicW.setK {g : Gm} {M : Mem} {pa ca ka ra : Nat} {pf : Nat → Nat} {lo hi : Int64} {cn lk : Nat → Int32} (h : PicW g M pa ca ka ra pf lo hi cn lk) (f : Nat → Int32) : PicW g (mset M ka (aI g 96 f)) pa ca ka ra pf lo hi f lk := by
  obtain ⟨h1, h2, h3, h4, h5, h6⟩ := h
  exact ⟨h1, h2, (mset_ne (cell_ne h3 h5 (by simp))).trans h3, (mset_ne (cell_ne h4 h5 (by simp))).trans h4, mset_same _ _ _, (mset_ne (Ne.symm h2)).trans h6⟩
/-- c' lies in the shadow of the THING that counts at c -/
def cast (m : Nat → Nat → Nat) (nT : Nat) (pf : Nat → Nat) (c c' : Nat) : Bool := match bst m (c % 12) (c / 12) (pf 2) nT with
  | none => false
  | some t => hitK (pf 3) c (m t 4 * pf 4 / 10) c'
/-- some THING's CELL lies s steps from c against the way that shadows fall, and its shadow reaches so far -/
def shS (m : Nat → Nat → Nat) (nT : Nat) (pf : Nat → Nat) (c s : Nat) : Bool := match mv (opp (pf 3)) c s with
  | none => false
  | some c0 => match bst m (c0 % 12) (c0 / 12) (pf 2) nT with
    | none => false
    | some t => decide (s ≤ m t 4 * pf 4 / 10)
def shade (m : Nat → Nat → Nat) (nT : Nat) (pf : Nat → Nat) (c : Nat) : Bool := anyB (fun s => shS m nT pf c (s + 1)) 11
theorem cast_all {m : Nat → Nat → Nat} {nT : Nat} {pf : Nat → Nat} (h : okP pf) {c' : Nat} (hc' : c' < 96) : anyB (fun c => cast m nT pf c c') 96 = shade m nT pf c' := by
  have hs : pf 3 < 4 := by unfold okP at h; omega
  unfold shade
  rw [Bool.eq_iff_iff, anyB_iff, anyB_iff]
  constructor
  · rintro ⟨c, hc, hq⟩
    unfold cast at hq
    split at hq
    · cases hq
    · next t ht =>
      unfold hitK at hq
      rw [anyB_iff] at hq
      obtain ⟨j, hj, hm⟩ := hq
      have hm : mv (pf 3) c (j + 1) = some c' := by simpa using hm
      have hj2 : j < 11 := by
        rcases Nat.lt_or_ge j 11 with q | q
        · exact q
        · rw [mv_far hc hs (show 12 ≤ j + 1 by omega)] at hm; cases hm
      refine ⟨j, hj2, ?_⟩
      unfold shS
      rw [mv_inv hs hc hm]
      simp only [ht, decide_eq_true_eq]
      omega
  · rintro ⟨s, hs1, hq⟩
    unfold shS at hq
    split at hq
    · cases hq
    · next c0 hm =>
      have hc0 := mv_lt hm
      have hi := mv_inv (opp_opp hs).2 hc' hm
      rw [(opp_opp hs).1] at hi
      split at hq
      · cases hq
      · next t ht =>
        refine ⟨c0, hc0, ?_⟩
        unfold cast
        simp only [ht]
        unfold hitK
        rw [anyB_iff]
        have hq : s + 1 ≤ m t 4 * pf 4 / 10 := by simpa using hq
        exact ⟨s, by omega, by simpa using hi⟩
/-- what a CELL of a PICTURE would show if it were covered -/
def lookN (m : Nat → Nat → Nat) (nT : Nat) (pf : Nat → Nat) (c : Nat) : Nat := match bst m (c % 12) (c / 12) (pf 2) nT with
  | none => if shade m nT pf c then 1 else 0
  | some t => if m t 9 = 0 then 10 + m t 5 else if shade m nT pf c then 1 else 0

/-! Facts, in plain numbers. -/
def distN (m : Nat → Nat) (c : Nat) : Nat := ((c % 12 - m 0) + (m 0 - c % 12)) + ((c / 12 - m 1) + (m 1 - c / 12))
theorem iabs_N {a b : Nat} (ha : a < 1000) (hb : b < 1000) : iabs (nI a - nI b) = nI ((a - b) + (b - a)) := by
  have e := i32_toInt_sub (a := a) (b := b) (by omega) (by omega)
  unfold iabs
  by_cases h : b ≤ a
  · rw [if_pos (by rw [Int32.le_iff_toInt_le, e, show (0 : Int32).toInt = 0 from rfl]; omega), pk_sub h, show b - a = 0 by omega, Nat.add_zero]
  · rw [if_neg (by rw [Int32.le_iff_toInt_le, e, show (0 : Int32).toInt = 0 from rfl]; omega)]
    rw [show (0 : Int32) - (nI a - nI b) = nI b - nI a by rw [Int32.zero_sub, Int32.neg_sub], pk_sub (by omega), show a - b = 0 by omega, Nat.zero_add]
theorem dist_N {m : Nat → Nat} (h : okM m) {c : Nat} (hc : c < 96) : iabs (nI (c % 12) - nI (m 0)) + iabs (nI (c / 12) - nI (m 1)) = nI (distN m c) := by
  unfold okM at h
  rw [iabs_N (by omega) (by omega), iabs_N (by omega) (by omega), nI_add]
  rfl
theorem dist_le {m : Nat → Nat} (h : okM m) {c : Nat} (hc : c < 96) : distN m c ≤ 18 := by
  unfold okM at h
  unfold distN
  omega
def minO (o : Option Nat) (d : Nat) : Option Nat := match o with
  | none => some d
  | some b => if d < b then some d else some b
theorem minO_twice (o : Option Nat) (d : Nat) : minO (minO o d) d = minO o d := by
  cases o with
  | none => simp [minO]
  | some b => unfold minO; by_cases h : d < b <;> simp [h]
theorem mset_comm {M : Mem} {a b : Nat} {e f : va_E} (h : a ≠ b) : mset (mset M a e) b f = mset (mset M b f) a e := by
  funext c
  by_cases h1 : c = a
  · subst h1; simp [mset, h]
  · by_cases h2 : c = b
    · subst h2; simp [mset, h1]
    · simp [mset, h1, h2]
theorem AlbW.setI {g : Gm} {M : Mem} {al pt : Nat} {pa ca ka ra : Nat → Nat} {nP : Nat} {pf : Nat → Nat → Nat} {pl ph : Nat → Int64} {cn lk : Nat → Nat → Int32} (hA : AlbW g M al pt pa ca ka ra nP pf pl ph cn lk) {a len : Nat} {f : Nat → Int32} (hR : M a = some (aI g len f)) (hl : len ≠ 96) (e : va_E) : AlbW g (mset M a e) al pt pa ca ka ra nP pf pl ph cn lk := by
  obtain ⟨a1, a2, a3, a4, a5⟩ := hA
  refine ⟨a1, (mset_ne (cell_ne a2 hR (by simp))).trans a2, (mset_ne (cell_ne a3 hR (by simp))).trans a3, fun j hj => ?_, a5⟩
  have hq := a4 j hj
  have ne : ∀ {b : Nat} {f' : Nat → Int32}, M b = some (aI g 96 f') → b ≠ a := fun hb => cell_ne hb hR (fun q => hl (by simp at q; exact q.1.symm))
  exact hq.frame (mset_ne (cell_ne hq.2.2.1 hR (by simp))) (mset_ne (cell_ne hq.2.2.2.1 hR (by simp))) (mset_ne (ne hq.2.2.2.2.1)) (mset_ne (ne hq.2.2.2.2.2))
theorem AlbW.setO {g : Gm} {M : Mem} {al pt : Nat} {pa ca ka ra : Nat → Nat} {nP : Nat} {pf : Nat → Nat → Nat} {pl ph : Nat → Int64} {cn lk : Nat → Nat → Int32} (hA : AlbW g M al pt pa ca ka ra nP pf pl ph cn lk) {a ci : Nat} {fs : List Value} (hR : M a = some (.inr (ci, fs))) (hc : ci ≠ 0 ∧ ci ≠ 5 ∧ ci ≠ 7) (e : va_E) : AlbW g (mset M a e) al pt pa ca ka ra nP pf pl ph cn lk := by
  obtain ⟨a1, a2, a3, a4, a5⟩ := hA
  refine ⟨a1, (mset_ne (cell_ne a2 hR (fun q => hc.1 (by simp at q; exact q.1.symm)))).trans a2, (mset_ne (cell_ne a3 hR (by simp))).trans a3, fun j hj => ?_, a5⟩
  have hq := a4 j hj
  exact hq.frame (mset_ne (cell_ne hq.2.2.1 hR (fun q => hc.2.1 (by simp at q; exact q.1.symm)))) (mset_ne (cell_ne hq.2.2.2.1 hR (fun q => hc.2.2 (by simp at q; exact q.1.symm)))) (mset_ne (cell_ne hq.2.2.2.2.1 hR (by simp))) (mset_ne (cell_ne hq.2.2.2.2.2 hR (by simp)))
/-- by the DAY d some PICTURE covers c; shows a THING there; shows the THING t there; shows another one of KIND q there. cn, lk: the rows of the PICTURES -/
def covA (nP : Nat) (pf : Nat → Nat → Nat) (B : Nat → Nat → Bool) (d c : Nat) : Bool := anyB (fun p => decide (pf p 2 ≤ d) && covN (pf p) (B p) c) nP
def visA (pf : Nat → Nat → Nat) (B : Nat → Nat → Bool) (L : Nat → Nat → Nat) (d c p : Nat) : Bool := (decide (pf p 2 ≤ d) && covN (pf p) (B p) c) && decide (10 ≤ L p c)
def seenA (nP : Nat) (pf : Nat → Nat → Nat) (B : Nat → Nat → Bool) (L : Nat → Nat → Nat) (K : Nat → Nat → Option Nat) (t d c : Nat) : Bool := anyB (fun p => visA pf B L d c p && decide (K p c = some t)) nP
def nearA (nP : Nat) (pf : Nat → Nat → Nat) (B : Nat → Nat → Bool) (L : Nat → Nat → Nat) (K : Nat → Nat → Option Nat) (t d q c : Nat) : Bool := anyB (fun p => (visA pf B L d c p && decide (L p c = 10 + q)) && !decide (K p c = some t)) nP
/-- the least distance of the CELLS below n that P tells -/
def nearD (P : Nat → Bool) (D : Nat → Nat) : Nat → Option Nat
  | 0 => none
  | n + 1 => if P n then minO (nearD P D n) (D n) else nearD P D n
/-- a CELL near by that no PICTURE covers -/
def gapA (nP : Nat) (pf : Nat → Nat → Nat) (B : Nat → Nat → Bool) (m : Nat → Nat) (d n : Nat) : Bool := anyB (fun c => !covA nP pf B d c && decide (distN m c ≤ 5)) n
/-- the facts of the THING t with the marks m by the DAY d -/
def factN (nP : Nat) (pf : Nat → Nat → Nat) (B : Nat → Nat → Bool) (L : Nat → Nat → Nat) (K : Nat → Nat → Option Nat) (m : Nat → Nat) (t d w : Nat) : Option Nat :=
  if w = 0 then some (cntB (seenA nP pf B L K t d) 96)
  else if w = 1 then (if 0 < cntB (seenA nP pf B L K t d) 96 then some (m 5) else none)
  else if w = 2 then (if 0 < cntB (seenA nP pf B L K t d) 96 then some (m 4) else none)
  else match nearD (nearA nP pf B L K t d (w - 3)) (distN m) 96 with
    | some b => some b
    | none => if gapA nP pf B m d 96 then none else some 99

/-! Shadows: where a step from a CELL leads; what a CELL of a PICTURE would show. -/
def anyB (p : Nat → Bool) : Nat → Bool
  | 0 => false
  | n + 1 => anyB p n || p n
theorem anyB_iff {p : Nat → Bool} : ∀ {n : Nat}, anyB p n = true ↔ ∃ i, i < n ∧ p i = true
  | 0 => by simp [anyB]
  | n + 1 => by
    unfold anyB
    rw [Bool.or_eq_true, anyB_iff]
    constructor
    · rintro (⟨i, h1, h2⟩ | h)
      · exact ⟨i, by omega, h2⟩
      · exact ⟨n, by omega, h⟩
    · rintro ⟨i, h1, h2⟩
      by_cases q : i = n
      · subst q; exact Or.inr h2
      · exact Or.inl ⟨i, by omega, h2⟩
theorem anyB_congr {p q : Nat → Bool} {n : Nat} (h : ∀ i, i < n → p i = q i) : anyB p n = anyB q n := by
  rw [Bool.eq_iff_iff, anyB_iff, anyB_iff]
  constructor
  · rintro ⟨i, h1, h2⟩; exact ⟨i, h1, (h i h1) ▸ h2⟩
  · rintro ⟨i, h1, h2⟩; exact ⟨i, h1, (h i h1).symm ▸ h2⟩
def dxI (s : Nat) : Int := if s = 1 then 1 else if s = 3 then -1 else 0
def dyI (s : Nat) : Int := if s = 2 then 1 else if s = 0 then -1 else 0
def px (s c k : Nat) : Int := (c % 12 : Nat) + (k : Int) * dxI s
def py (s c k : Nat) : Int := (c / 12 : Nat) + (k : Int) * dyI s
/-- the CELL that lies k steps from c the way that shadows fall by the SUN s; none: beside THE LAND -/
def mv (s c k : Nat) : Option Nat := if 0 ≤ px s c k ∧ px s c k ≤ 11 ∧ 0 ≤ py s c k ∧ py s c k ≤ 7 then some (12 * py s c k + px s c k).toNat else none
theorem dxI_1 (s : Nat) : -1 ≤ dxI s ∧ dxI s ≤ 1 := by unfold dxI; (repeat' split) <;> omega
theorem dyI_1 (s : Nat) : -1 ≤ dyI s ∧ dyI s ≤ 1 := by unfold dyI; (repeat' split) <;> omega
theorem mulB {k d : Int} {n : Nat} (h0 : 0 ≤ k) (h : k ≤ n) (hd : -1 ≤ d ∧ d ≤ 1) : -(n : Int) ≤ k * d ∧ k * d ≤ n := by
  rcases (show d = -1 ∨ d = 0 ∨ d = 1 by omega) with rfl | rfl | rfl <;> omega
theorem px_b {s c k : Nat} (hk : k ≤ 100) : -100 ≤ px s c k ∧ px s c k ≤ 111 := by
  have h := mulB (k := (k : Int)) (n := 100) (by omega) (by omega) (dxI_1 s)
  unfold px
  omega
theorem py_b {s c k : Nat} (hc : c < 96) (hk : k ≤ 100) : -100 ≤ py s c k ∧ py s c k ≤ 111 := by
  have h := mulB (k := (k : Int)) (n := 100) (by omega) (by omega) (dyI_1 s)
  unfold py
  omega
theorem px_next (s c k : Nat) : px s c k + dxI s = px s c (k + 1) := by
  unfold px
  rw [show ((k + 1 : Nat) : Int) = (k : Int) + 1 from rfl, Int.add_mul, Int.one_mul, Int.add_assoc]
theorem py_next (s c k : Nat) : py s c k + dyI s = py s c (k + 1) := by
  unfold py
  rw [show ((k + 1 : Nat) : Int) = (k : Int) + 1 from rfl, Int.add_mul, Int.one_mul, Int.add_assoc]
theorem east_N : ∀ s, s < 4 → east (2 * s) = Int32.ofInt (dxI s) := by decide +kernel
theorem south_N : ∀ s, s < 4 → south (2 * s) = Int32.ofInt (dyI s) := by decide +kernel
theorem nI_ofInt (n : Nat) : nI n = Int32.ofInt (n : Int) := by
  show Int32.ofNat n = _
  rw [Int32.ofInt_eq_ofNat]
theorem ofI_toInt {a : Int} (h : -1000000 ≤ a ∧ a ≤ 1000000) : (Int32.ofInt a).toInt = a := Int32.toInt_ofInt_of_le (by omega) (by omega)
theorem qin_I {a : Int} {n : Nat} (h : -1000000 ≤ a ∧ a ≤ 1000000) (hn : n < 1000000) : qin (Int32.ofInt a) 0 (nI n) = (decide (0 ≤ a) && decide (a ≤ n)) := by
  unfold qin
  congr 1
  · apply decide_eq_decide.mpr
    rw [Int32.le_iff_toInt_le, ofI_toInt h, show (0 : Int32).toInt = 0 from rfl]
  · apply decide_eq_decide.mpr
    rw [Int32.le_iff_toInt_le, ofI_toInt h, nI_toInt (by omega)]
theorem mv_on {s c k : Nat} (hc : c < 96) (hk : k ≤ 100) (h : (qin (Int32.ofInt (px s c k)) 0 11 && qin (Int32.ofInt (py s c k)) 0 7) = true) : ∃ c', c' < 96 ∧ mv s c k = some c' ∧ 12 * Int32.ofInt (py s c k) + Int32.ofInt (px s c k) = nI c' := by
  have b1 := px_b (s := s) (c := c) hk
  have b2 := py_b (s := s) hc hk
  rw [show (11 : Int32) = nI 11 from rfl, show (7 : Int32) = nI 7 from rfl, qin_I (by omega) (by decide), qin_I (by omega) (by decide)] at h
  simp only [Bool.and_eq_true, decide_eq_true_eq] at h
  unfold mv
  generalize px s c k = a at *
  generalize py s c k = b at *
  refine ⟨(12 * b + a).toNat, by omega, if_pos (by omega), ?_⟩
  rw [nI_ofInt, show (12 : Int32) = Int32.ofInt 12 from rfl, ← Int32.ofInt_mul, ← Int32.ofInt_add]
  congr 1
  omega
theorem mv_off {s c k : Nat} (hc : c < 96) (hk : k ≤ 100) (h : (qin (Int32.ofInt (px s c k)) 0 11 && qin (Int32.ofInt (py s c k)) 0 7) = false) : mv s c k = none := by
  have b1 := px_b (s := s) (c := c) hk
  have b2 := py_b (s := s) hc hk
  rw [show (11 : Int32) = nI 11 from rfl, show (7 : Int32) = nI 7 from rfl, qin_I (by omega) (by decide), qin_I (by omega) (by decide)] at h
  unfold mv
  refine if_neg (fun q => ?_)
  obtain ⟨q1, q2, q3, q4⟩ := q
  simp [q1, q2, q3, q4] at h
theorem mv_lt {s c k c' : Nat} (h : mv s c k = some c') : c' < 96 := by
  unfold mv at h
  split at h
  · next q => cases h; omega
  · cases h
theorem mv_xy {s c k c' : Nat} (h : mv s c k = some c') : (c' % 12 : Nat) = px s c k ∧ (c' / 12 : Nat) = py s c k := by
  unfold mv at h
  split at h
  · next q =>
    cases h
    generalize px s c k = a at *
    generalize py s c k = b at *
    omega
  · cases h
theorem mv_of {s c k c' : Nat} (hc : c' < 96) (h1 : (c' % 12 : Nat) = px s c k) (h2 : (c' / 12 : Nat) = py s c k) : mv s c k = some c' := by
  unfold mv
  rw [← h1, ← h2, if_pos (by omega)]
  congr 1
  omega
def opp (s : Nat) : Nat := (s + 2) % 4
theorem opp_d {s : Nat} (hs : s < 4) : dxI (opp s) = - dxI s ∧ dyI (opp s) = - dyI s := by
  rcases (show s = 0 ∨ s = 1 ∨ s = 2 ∨ s = 3 by omega) with rfl | rfl | rfl | rfl <;> decide
/-- a step there and a step back -/
theorem mv_inv {s c k c' : Nat} (hs : s < 4) (hc : c < 96) (h : mv s c k = some c') : mv (opp s) c' k = some c := by
  obtain ⟨h1, h2⟩ := mv_xy h
  obtain ⟨o1, o2⟩ := opp_d hs
  apply mv_of hc
  · unfold px at h1 ⊢
    rw [o1, Int.mul_neg]
    omega
  · unfold py at h2 ⊢
    rw [o2, Int.mul_neg]
    omega
theorem opp_opp {s : Nat} (hs : s < 4) : opp (opp s) = s ∧ opp s < 4 := by unfold opp; omega
/-- beside THE LAND once, beside it for good -/
theorem mv_end {s c k j : Nat} (hc : c < 96) (h : mv s c k = none) (hj : k ≤ j) : mv s c j = none := by
  cases hm : mv s c j with
  | none => rfl
  | some c' =>
    exfalso
    unfold mv at hm h
    split at hm
    · next q =>
      rw [if_pos] at h
      · cases h
      · have hx : (px s c k, py s c k) = (px s c k, py s c k) := rfl
        unfold px py at q ⊢
        have hd := dxI_1 s
        have he := dyI_1 s
        generalize dxI s = a at *
        generalize dyI s = b at *
        rcases (show a = -1 ∨ a = 0 ∨ a = 1 by omega) with rfl | rfl | rfl <;> rcases (show b = -1 ∨ b = 0 ∨ b = 1 by omega) with rfl | rfl | rfl <;> omega
    · cases hm
theorem mv_far {s c k : Nat} (hc : c < 96) (hs : s < 4) (hk : 12 ≤ k) : mv s c k = none := by
  unfold mv
  refine if_neg (fun q => ?_)
  unfold px py at q
  rcases (show s = 0 ∨ s = 1 ∨ s = 2 ∨ s = 3 by omega) with rfl | rfl | rfl | rfl <;> simp [dxI, dyI] at q <;> omega
/-- c' is one of the first k CELLS on the way from c -/
def hitK (s c k c' : Nat) : Bool := anyB (fun j => decide (mv s c (j + 1) = some c')) k
theorem hitK_far {s c k r c' : Nat} (hc : c < 96) (hk : k ≤ r) (h : mv s c (k + 1) = none) : hitK s c k c' = hitK s c r c' := by
  unfold hitK
  rw [Bool.eq_iff_iff, anyB_iff, anyB_iff]
  constructor
  · rintro ⟨i, h1, h2⟩; exact ⟨i, by omega, h2⟩
  · rintro ⟨i, h1, h2⟩
    by_cases q : i < k
    · exact ⟨i, q, h2⟩
    · rw [mv_end hc h (show k + 1 ≤ i + 1 by omega)] at h2
      simp at h2
theorem hitK_step {s c k c1 : Nat} (h : mv s c (k + 1) = some c1) (c' : Nat) : hitK s c (k + 1) c' = (hitK s c k c' || decide (c1 = c')) := by
  show (hitK s c k c' || decide (mv s c (k + 1) = some c')) = _
  rw [h]
  congr 1
  exact decide_eq_decide.mpr (by simp)

/-! Lines of facing, in plain numbers. -/
def dx8 (w : Nat) : Int := if w = 1 ∨ w = 2 ∨ w = 3 then 1 else if w = 5 ∨ w = 6 ∨ w = 7 then -1 else 0
def dy8 (w : Nat) : Int := if w = 3 ∨ w = 4 ∨ w = 5 then 1 else if w = 0 ∨ w = 1 ∨ w = 7 then -1 else 0
def lx (m : Nat → Nat) (w k : Nat) : Int := (m 0 : Int) + (k : Int) * dx8 w
def ly (m : Nat → Nat) (w k : Nat) : Int := (m 1 : Int) + (k : Int) * dy8 w
def lmv (m : Nat → Nat) (w k : Nat) : Option Nat := if 0 ≤ lx m w k ∧ lx m w k ≤ 11 ∧ 0 ≤ ly m w k ∧ ly m w k ≤ 7 then some (12 * ly m w k + lx m w k).toNat else none
theorem east8_N : ∀ w, w < 8 → east w = Int32.ofInt (dx8 w) := by decide +kernel
theorem south8_N : ∀ w, w < 8 → south w = Int32.ofInt (dy8 w) := by decide +kernel
theorem dx8_1 (w : Nat) : -1 ≤ dx8 w ∧ dx8 w ≤ 1 := by unfold dx8; (repeat' split) <;> omega
theorem dy8_1 (w : Nat) : -1 ≤ dy8 w ∧ dy8 w ≤ 1 := by unfold dy8; (repeat' split) <;> omega
theorem d8_ne {w : Nat} (h : w < 8) : dx8 w ≠ 0 ∨ dy8 w ≠ 0 := by
  have : ∀ w, w < 8 → dx8 w ≠ 0 ∨ dy8 w ≠ 0 := by decide
  exact this w h
theorem lx_b {m : Nat → Nat} (h : okM m) {w k : Nat} (hk : k ≤ 100) : -100 ≤ lx m w k ∧ lx m w k ≤ 111 := by
  have q := mulB (k := (k : Int)) (n := 100) (by omega) (by omega) (dx8_1 w)
  unfold okM at h
  unfold lx
  omega
theorem ly_b {m : Nat → Nat} (h : okM m) {w k : Nat} (hk : k ≤ 100) : -100 ≤ ly m w k ∧ ly m w k ≤ 111 := by
  have q := mulB (k := (k : Int)) (n := 100) (by omega) (by omega) (dy8_1 w)
  unfold okM at h
  unfold ly
  omega
theorem lx_0 (m : Nat → Nat) (w : Nat) : nI (m 0) = Int32.ofInt (lx m w 0) := by rw [nI_ofInt]; congr 1; unfold lx; omega
theorem ly_0 (m : Nat → Nat) (w : Nat) : nI (m 1) = Int32.ofInt (ly m w 0) := by rw [nI_ofInt]; congr 1; unfold ly; omega
theorem lx_step {m : Nat → Nat} {w k : Nat} (hw : w < 8) : Int32.ofInt (lx m w k) + east w = Int32.ofInt (lx m w (k + 1)) := by
  rw [east8_N w hw, ← Int32.ofInt_add]
  congr 1
  unfold lx
  rw [show ((k + 1 : Nat) : Int) = (k : Int) + 1 from rfl, Int.add_mul, Int.one_mul, Int.add_assoc]
theorem ly_step {m : Nat → Nat} {w k : Nat} (hw : w < 8) : Int32.ofInt (ly m w k) + south w = Int32.ofInt (ly m w (k + 1)) := by
  rw [south8_N w hw, ← Int32.ofInt_add]
  congr 1
  unfold ly
  rw [show ((k + 1 : Nat) : Int) = (k : Int) + 1 from rfl, Int.add_mul, Int.one_mul, Int.add_assoc]
theorem lmv_on {m : Nat → Nat} (hm : okM m) {w k : Nat} (hk : k ≤ 100) (h : (qin (Int32.ofInt (lx m w k)) 0 11 && qin (Int32.ofInt (ly m w k)) 0 7) = true) : ∃ c, c < 96 ∧ lmv m w k = some c ∧ 12 * Int32.ofInt (ly m w k) + Int32.ofInt (lx m w k) = nI c ∧ Int32.ofInt (lx m w k) = nI (c % 12) ∧ Int32.ofInt (ly m w k) = nI (c / 12) := by
  have b1 := lx_b hm (w := w) hk
  have b2 := ly_b hm (w := w) hk
  rw [show (11 : Int32) = nI 11 from rfl, show (7 : Int32) = nI 7 from rfl, qin_I (by omega) (by decide), qin_I (by omega) (by decide)] at h
  simp only [Bool.and_eq_true, decide_eq_true_eq] at h
  unfold lmv
  generalize lx m w k = a at *
  generalize ly m w k = b at *
  refine ⟨(12 * b + a).toNat, by omega, if_pos (by omega), ?_, ?_, ?_⟩
  · rw [nI_ofInt, show (12 : Int32) = Int32.ofInt 12 from rfl, ← Int32.ofInt_mul, ← Int32.ofInt_add]
    congr 1
    omega
  · rw [nI_ofInt]; congr 1; omega
  · rw [nI_ofInt]; congr 1; omega
theorem lmv_off {m : Nat → Nat} (hm : okM m) {w k : Nat} (hk : k ≤ 100) (h : (qin (Int32.ofInt (lx m w k)) 0 11 && qin (Int32.ofInt (ly m w k)) 0 7) = false) : lmv m w k = none := by
  have b1 := lx_b hm (w := w) hk
  have b2 := ly_b hm (w := w) hk
  rw [show (11 : Int32) = nI 11 from rfl, show (7 : Int32) = nI 7 from rfl, qin_I (by omega) (by decide), qin_I (by omega) (by decide)] at h
  unfold lmv
  refine if_neg (fun q => ?_)
  obtain ⟨q1, q2, q3, q4⟩ := q
  simp [q1, q2, q3, q4] at h
theorem lmv_xy {m : Nat → Nat} {w k c : Nat} (h : lmv m w k = some c) : (c % 12 : Nat) = lx m w k ∧ (c / 12 : Nat) = ly m w k ∧ c < 96 := by
  unfold lmv at h
  split at h
  · next q =>
    cases h
    generalize lx m w k = a at *
    generalize ly m w k = b at *
    omega
  · cases h
theorem lmv_of {m : Nat → Nat} {w k c : Nat} (hc : c < 96) (h1 : (c % 12 : Nat) = lx m w k) (h2 : (c / 12 : Nat) = ly m w k) : lmv m w k = some c := by
  unfold lmv
  rw [← h1, ← h2, if_pos (by omega)]
  congr 1
  omega
theorem lmv_inj {m : Nat → Nat} {w j k c : Nat} (hw : w < 8) (h1 : lmv m w j = some c) (h2 : lmv m w k = some c) : j = k := by
  obtain ⟨a1, a2, -⟩ := lmv_xy h1
  obtain ⟨b1, b2, -⟩ := lmv_xy h2
  unfold lx at a1 b1
  unfold ly at a2 b2
  have hx := dx8_1 w
  have hy := dy8_1 w
  have hn := d8_ne hw
  generalize dx8 w = a at *
  generalize dy8 w = b at *
  rcases (show a = -1 ∨ a = 0 ∨ a = 1 by omega) with rfl | rfl | rfl <;> rcases (show b = -1 ∨ b = 0 ∨ b = 1 by omega) with rfl | rfl | rfl <;> omega
theorem lmv_end {m : Nat → Nat} (hm : okM m) {w k j : Nat} (h : lmv m w k = none) (hj : k ≤ j) : lmv m w j = none := by
  unfold okM at hm
  cases hq : lmv m w j with
  | none => rfl
  | some c =>
    exfalso
    unfold lmv at hq h
    split at hq
    · next q =>
      rw [if_pos] at h
      · cases h
      · unfold lx ly at q ⊢
        have hd := dx8_1 w
        have he := dy8_1 w
        generalize dx8 w = a at *
        generalize dy8 w = b at *
        rcases (show a = -1 ∨ a = 0 ∨ a = 1 by omega) with rfl | rfl | rfl <;> rcases (show b = -1 ∨ b = 0 ∨ b = 1 by omega) with rfl | rfl | rfl <;> omega
    · cases hq
/-- c is one of the first k CELLS straight on, and not one that the THING lies on -/
def onK (m : Nat → Nat) (w k c : Nat) : Bool := anyB (fun j => decide (lmv m w j = some c)) k && !liesN m (c % 12) (c / 12)
def onN (m : Nat → Nat) (w c : Nat) : Bool := onK m w 12 c
theorem onK_far {m : Nat → Nat} (hm : okM m) {w k c : Nat} (hk : k ≤ 12) (h : lmv m w k = none) : onK m w k c = onN m w c := by
  unfold onN onK
  congr 1
  rw [Bool.eq_iff_iff, anyB_iff, anyB_iff]
  constructor
  · rintro ⟨i, h1, h2⟩; exact ⟨i, by omega, h2⟩
  · rintro ⟨i, h1, h2⟩
    by_cases q : i < k
    · exact ⟨i, q, h2⟩
    · rw [lmv_end hm h (show k ≤ i by omega)] at h2
      simp at h2
theorem onK_step {m : Nat → Nat} {w k c1 : Nat} (hw : w < 8) (h : lmv m w k = some c1) (c : Nat) : onK m w (k + 1) c = if c = c1 then !liesN m (c % 12) (c / 12) else onK m w k c := by
  show ((anyB (fun j => decide (lmv m w j = some c)) k || decide (lmv m w k = some c)) && !liesN m (c % 12) (c / 12)) = _
  rw [h]
  by_cases q : c = c1
  · subst q; simp
  · rw [if_neg q, decide_eq_false (fun z => q (Option.some.inj z).symm), Bool.or_false]; rfl
theorem onK_new {m : Nat → Nat} {w k c : Nat} (hw : w < 8) (h : lmv m w k = some c) : onK m w k c = false := by
  unfold onK
  rw [Bool.and_eq_false_iff]
  refine Or.inl (Bool.eq_false_iff.mpr (fun q => ?_))
  rw [anyB_iff] at q
  obtain ⟨i, h1, h2⟩ := q
  have := lmv_inj hw (show lmv m w i = some c by simpa using h2) h
  omega
def faceN (m : Nat → Nat) (d : Nat) : Bool := !decide (m 8 = 8) && there m d
/-- how many LINES go through c, among the first n THINGS -/
def crossN (m : Nat → Nat → Nat) (d c n : Nat) : Nat := cntB (fun t => faceN (m t) d && onN (m t) (m t 8) c) n
theorem crossN_le (m : Nat → Nat → Nat) (d c n : Nat) : crossN m d c n ≤ n := cntB_le _ n
/-- the first greatest one of f below n, and how great -/
def mxc (f : Nat → Nat) : Nat → Option Nat × Nat
  | 0 => (none, 0)
  | n + 1 => if (mxc f n).2 < f n then (some n, f n) else mxc f n
/-- some way of the 8 leads from the THING to c -/
def mayN (m : Nat → Nat) (c : Nat) : Bool := anyB (fun w => onN m w c) 8

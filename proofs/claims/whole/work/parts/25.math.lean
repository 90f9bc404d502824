/-! Plain facts: ticks as bits of two longs. -/
def tk (lo hi : Int64) (j : Nat) : Bool := if j < 64 then lo.toBitVec.getLsbD j else hi.toBitVec.getLsbD (j - 64)
theorem tk_amt : ∀ k, k < 64 → (((nI k).toInt64.toUInt64 &&& Int64.toUInt64 63)).toNat = k := by decide +kernel
theorem tk_pow : ∀ k, k < 64 → ((1 : Int64) <<< ((nI k).toInt64 &&& 63)).toBitVec = BitVec.twoPow 64 k := by decide +kernel
theorem tk_and {j : Nat} (hj : j < 128) : nI j &&& 63 = nI (j % 64) := pk_andN (by omega) 6 rfl
theorem tk_get (w : Int64) {j : Nat} (hj : j < 128) : ((Int64.toUInt64 w >>> ((nI j &&& 63 : Int32).toInt64.toUInt64 &&& Int64.toUInt64 63)).toInt64 &&& 1 = 1) ↔ w.toBitVec.getLsbD (j % 64) = true := by
  rw [tk_and hj]
  have hk : j % 64 < 64 := Nat.mod_lt _ (by decide)
  have hs := tk_amt (j % 64) hk
  generalize ((nI (j % 64)).toInt64.toUInt64 &&& Int64.toUInt64 63) = s at hs
  generalize j % 64 = i at hk hs
  have e : (w.toUInt64 >>> s).toInt64.toBitVec = w.toBitVec >>> i := by
    apply BitVec.eq_of_toNat_eq
    show (w.toUInt64 >>> s).toNat = _
    rw [UInt64.toNat_shiftRight, hs, Nat.mod_eq_of_lt hk, BitVec.toNat_ushiftRight]
    rfl
  rw [← Int64.toBitVec_inj, Int64.toBitVec_and, e]
  show w.toBitVec >>> i &&& 1#64 = 1#64 ↔ _
  constructor
  · intro h
    have t := congrArg (fun x => x.getLsbD 0) h
    simpa using t
  · intro h
    apply BitVec.eq_of_getLsbD_eq
    intro q hq
    cases q with
    | zero => simp [h]
    | succ q => simp
theorem tk_flip (w : Int64) {j : Nat} (hj : j < 128) (i : Nat) (hi : i < 64) : (w ^^^ ((1 : Int64) <<< ((nI j &&& 63 : Int32).toInt64 &&& 63))).toBitVec.getLsbD i = (w.toBitVec.getLsbD i ^^ decide (i = j % 64)) := by
  rw [tk_and hj, Int64.toBitVec_xor, tk_pow _ (Nat.mod_lt _ (by decide)), BitVec.getLsbD_xor, BitVec.getLsbD_twoPow]
  congr 1
  by_cases h : i = j % 64
  · subst h; simp [hi]
  · simp [h, show ¬ j % 64 = i from fun q => h q.symm]
theorem tk_lo {lo hi : Int64} {j : Nat} (hj : j < 128) (h : ¬ (64 : Int32) ≤ nI j) : ((Int64.toUInt64 lo >>> ((nI j &&& 63 : Int32).toInt64.toUInt64 &&& Int64.toUInt64 63)).toInt64 &&& 1 = 1) ↔ tk lo hi j = true := by
  have h1 : j < 64 := by
    rcases Nat.lt_or_ge j 64 with q | q
    · exact q
    · exact absurd (nI_le q (by omega)) h
  rw [tk_get lo hj, Nat.mod_eq_of_lt h1, tk, if_pos h1]
theorem tk_hi {lo hi : Int64} {j : Nat} (hj : j < 128) (h : (64 : Int32) ≤ nI j) : ((Int64.toUInt64 hi >>> ((nI j &&& 63 : Int32).toInt64.toUInt64 &&& Int64.toUInt64 63)).toInt64 &&& 1 = 1) ↔ tk lo hi j = true := by
  have h1 : ¬ j < 64 := fun q => absurd h (nI_ge (b := 64) q (by decide))
  rw [tk_get hi hj, tk, if_neg h1, show j % 64 = j - 64 by omega]
theorem tk_setlo {lo hi : Int64} {j : Nat} (hj : j < 128) (h : ¬ (64 : Int32) ≤ nI j) {b : Bool} (hb : ¬ tk lo hi j = b) : ∀ i, i < 128 → tk (lo ^^^ ((1 : Int64) <<< ((nI j &&& 63 : Int32).toInt64 &&& 63))) hi i = if i = j then b else tk lo hi i := by
  intro i hi'
  have h1 : j < 64 := by
    rcases Nat.lt_or_ge j 64 with q | q
    · exact q
    · exact absurd (nI_le q (by omega)) h
  unfold tk at hb ⊢
  rw [if_pos h1] at hb
  by_cases h2 : i < 64
  · rw [if_pos h2, if_pos h2, tk_flip lo hj i h2, Nat.mod_eq_of_lt h1]
    by_cases h3 : i = j
    · subst h3
      rw [if_pos rfl]
      cases hq : lo.toBitVec.getLsbD i <;> cases b <;> simp_all
    · simp [h3]
  · rw [if_neg h2, if_neg h2, if_neg (by omega)]
theorem tk_sethi {lo hi : Int64} {j : Nat} (hj : j < 128) (h : (64 : Int32) ≤ nI j) {b : Bool} (hb : ¬ tk lo hi j = b) : ∀ i, i < 128 → tk lo (hi ^^^ ((1 : Int64) <<< ((nI j &&& 63 : Int32).toInt64 &&& 63))) i = if i = j then b else tk lo hi i := by
  intro i hi'
  have h1 : ¬ j < 64 := fun q => absurd h (nI_ge (b := 64) q (by decide))
  unfold tk at hb ⊢
  rw [if_neg h1] at hb
  by_cases h2 : i < 64
  · rw [if_pos h2, if_pos h2, if_neg (by omega)]
  · rw [if_neg h2, if_neg h2, tk_flip hi hj (i - 64) (by omega), show j % 64 = j - 64 by omega]
    by_cases h3 : i = j
    · subst h3
      rw [if_pos rfl]
      cases hq : hi.toBitVec.getLsbD (i - 64) <;> cases b <;> simp_all
    · simp [h3, show ¬ i - 64 = j - 64 by omega]
theorem bI_inj {a b : Bool} : bI a = bI b ↔ a = b := by cases a <;> cases b <;> decide
/-- how many of the days from a on, n of them, have no tick -/
def cntNo (B : Nat → Bool) (a : Nat) : Nat → Nat
  | 0 => 0
  | n + 1 => cntNo B a n + (if B (a + n) then 0 else 1)
theorem cntNo_le (B : Nat → Bool) (a : Nat) : ∀ n, cntNo B a n ≤ n
  | 0 => Nat.le_refl _
  | n + 1 => by
    have h := cntNo_le B a n
    unfold cntNo
    split <;> omega
theorem cntNo_cong {B B' : Nat → Bool} {a : Nat} : ∀ {n : Nat}, (∀ i, i < n → B (a + i) = B' (a + i)) → cntNo B a n = cntNo B' a n
  | 0, _ => rfl
  | n + 1, h => by
    unfold cntNo
    rw [cntNo_cong (fun i hi => h i (by omega)), h n (by omega)]
theorem nI_ltN {a b : Nat} (ha : a < 2 ^ 31) (hb : b < 2 ^ 31) (h : nI a < nI b) : a < b := (nI_ltI ha hb).mp h
theorem nI_nltN {a b : Nat} (ha : a < 2 ^ 31) (hb : b < 2 ^ 31) (h : ¬ nI a < nI b) : b ≤ a := Nat.not_lt.mp (fun q => h ((nI_ltI ha hb).mpr q))
theorem nI_leN {a b : Nat} (ha : a < 2 ^ 31) (hb : b < 2 ^ 31) (h : nI a ≤ nI b) : a ≤ b := (nI_leI ha hb).mp h
theorem nI_nleN {a b : Nat} (ha : a < 2 ^ 31) (hb : b < 2 ^ 31) (h : ¬ nI a ≤ nI b) : b < a := Nat.not_le.mp (fun q => h ((nI_leI ha hb).mpr q))
theorem nI_eqN {a b : Nat} (ha : a < 2 ^ 31) (hb : b < 2 ^ 31) (h : nI a = nI b) : a = b := (nI_eq ha hb).mp h
theorem nI_neN {a b : Nat} (ha : a < 2 ^ 31) (hb : b < 2 ^ 31) (h : ¬ nI a = nI b) : a ≠ b := fun q => h ((nI_eq ha hb).mpr q)
/-- a number within bounds is a plain one -/
theorem qin_nI {x : Int32} {N : Nat} (hN : N < 2 ^ 31) (h : (decide ((0 : Int32) ≤ x) && decide (x ≤ nI N)) = true) : ∃ j : Nat, j ≤ N ∧ x = nI j := by
  simp only [Bool.and_eq_true, decide_eq_true_eq] at h
  exact nI_of2 (M := nI N) (nI_toInt hN) (Int32.not_lt.mpr h.1) h.2

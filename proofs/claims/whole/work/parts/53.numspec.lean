/-! Fractions and choices, in plain numbers. -/
def fibN : Nat → Nat
  | 0 => 0
  | 1 => 1
  | n + 2 => fibN (n + 1) + fibN n
theorem fib100 : 9223372036854775808 ≤ fibN 100 := by
  have h : ∀ n, (fibN n, fibN (n + 1)) = (List.range n).foldl (fun q _ => (q.2, q.1 + q.2)) (0, 1) := by
    intro n
    induction n with
    | zero => rfl
    | succ n ih =>
      rw [List.range_succ, List.foldl_append, ← ih]
      show (fibN (n + 1), fibN (n + 1) + fibN n) = (fibN (n + 1), fibN n + fibN (n + 1))
      rw [Nat.add_comm (fibN (n + 1)) (fibN n)]
  have h2 := congrArg Prod.fst (h 100)
  have h3 : ((List.range 100).foldl (fun q _ => (q.2, q.1 + q.2)) ((0 : Nat), (1 : Nat))).1 = 354224848179261915075 := by decide +kernel
  rw [show fibN 100 = _ from h2, h3]
  decide
/-- where the divisions of p by q stand after i of them -/
def euI (p q i a b : Nat) : Prop := ((i = 0 ∧ a = p ∧ b = q) ∨ (1 ≤ i ∧ b < a ∧ fibN i * a + fibN (i - 1) * b ≤ q)) ∧ Nat.gcd a b = Nat.gcd p q ∧ a < 2 ^ 63 ∧ b < 2 ^ 63
theorem euI_step {p q i a b : Nat} (h : euI p q i a b) (hb : b ≠ 0) : euI p q (i + 1) b (a % b) := by
  obtain ⟨h1, h2, h3, h4⟩ := h
  have hr : a % b < b := Nat.mod_lt _ (by omega)
  refine ⟨Or.inr ⟨by omega, hr, ?_⟩, ?_, h4, by omega⟩
  · rcases h1 with ⟨rfl, rfl, rfl⟩ | ⟨h5, h6, h7⟩
    · simp [fibN]
    · obtain ⟨j, rfl⟩ : ∃ j, i = j + 1 := ⟨i - 1, by omega⟩
      have h8 : b + a % b ≤ a := by
        have e := Nat.div_add_mod a b
        have : 1 ≤ a / b := (Nat.one_le_div_iff (by omega)).mpr (by omega)
        have h9 : b * 1 ≤ b * (a / b) := Nat.mul_le_mul_left b this
        omega
      simp only [Nat.add_sub_cancel] at h7 ⊢
      show (fibN (j + 1) + fibN j) * b + fibN (j + 1) * (a % b) ≤ q
      have h10 := Nat.mul_le_mul_left (fibN (j + 1)) h8
      rw [Nat.mul_add] at h10
      rw [Nat.add_mul]
      omega
  · rw [← h2, Nat.gcd_comm a b, Nat.gcd_rec b a, Nat.gcd_comm]
theorem euI_end {p q a b : Nat} (hq : q < 2 ^ 63) (h : euI p q 100 a b) : b = 0 := by
  obtain ⟨h1, -⟩ := h
  rcases h1 with ⟨h1, -⟩ | ⟨-, h6, h7⟩
  · cases h1
  · exfalso
    have := fib100
    have h8 : fibN 100 * 1 ≤ fibN 100 * a := Nat.mul_le_mul_left _ (by omega)
    omega
theorem euI_0 {p q : Nat} (hp : p < 2 ^ 63) (hq : q < 2 ^ 63) : euI p q 0 p q := ⟨Or.inl ⟨rfl, rfl, rfl⟩, rfl, hp, hq⟩
theorem euI_done {p q i a : Nat} (h : euI p q i a 0) : a = Nat.gcd p q := by rw [← h.2.1, Nat.gcd_zero_right]
/-- a fraction's part in lowest terms -/
def frN (p q part : Nat) : Nat := (if part = 0 then p else q) / Nat.gcd p q
/-- choices as the class counts them, i of them done; as the reference does -/
def chA (n k : Nat) : Nat → Nat
  | 0 => 1
  | i + 1 => chA n k i * (n - k + (i + 1)) / (i + 1)
def chB (n : Nat) : Nat → Nat
  | 0 => 1
  | i + 1 => chB n i * (n - i) / (i + 1)
theorem ch_ok : ∀ n, n < 41 → ∀ k, k ≤ n → chA n k k = chB n k ∧ 0 < chB n k ∧ chB n k < 1000000000000 ∧ ∀ i, i < k → chA n k i < 1000000000000 := by decide +kernel
def choN (n k : Nat) : Nat := if k ≤ n then chB n k else 0

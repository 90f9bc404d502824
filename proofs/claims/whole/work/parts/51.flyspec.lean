/-! Flights, in plain numbers: fl i 0, 1 the columns, fl i 2 the WEATHER, fl i 3 the RISK of FLIGHT i. -/
def okFl (fl : Nat → Nat → Nat) : Prop := ∀ i, i < 8 → fl i 0 ≤ fl i 1 ∧ fl i 1 ≤ 11 ∧ fl i 2 ≤ 10 ∧ fl i 3 ≤ 100
def tmN (fl : Nat → Nat → Nat) (i x : Nat) : Nat := if fl i 0 ≤ x ∧ x ≤ fl i 1 then 10 - fl i 2 else 10
theorem tmN_le (fl : Nat → Nat → Nat) (i x : Nat) : tmN fl i x ≤ 10 := by unfold tmN; split <;> omega
def rskN (fl : Nat → Nat → Nat) (s : Nat) : Nat → Nat
  | 0 => 0
  | n + 1 => rskN fl s n + s / 2 ^ n % 2 * fl n 3
theorem rskN_le {fl : Nat → Nat → Nat} (h : okFl fl) {s : Nat} : ∀ {n : Nat}, n ≤ 8 → rskN fl s n ≤ n * 100
  | 0, _ => Nat.zero_le _
  | n + 1, hn => by
    have h1 := rskN_le h (s := s) (show n ≤ 8 by omega)
    have h2 := (h n (by omega)).2.2.2
    unfold rskN
    have h3 : s / 2 ^ n % 2 < 2 := Nat.mod_lt _ (by decide)
    rcases (show s / 2 ^ n % 2 = 0 ∨ s / 2 ^ n % 2 = 1 by omega) with q | q <;> rw [q] <;> omega
def misN (fl : Nat → Nat → Nat) (x s : Nat) : Nat → Nat
  | 0 => 1
  | n + 1 => misN fl x s n * (if s / 2 ^ n % 2 = 1 then tmN fl n x else 10)
theorem misN_le (fl : Nat → Nat → Nat) (x s : Nat) : ∀ n, misN fl x s n ≤ 10 ^ n
  | 0 => Nat.le_refl _
  | n + 1 => by
    unfold misN
    rw [Nat.pow_succ]
    refine Nat.mul_le_mul (misN_le fl x s n) ?_
    split
    · exact tmN_le _ _ _
    · exact Nat.le_refl _
theorem misN_up {fl : Nat → Nat → Nat} {x s n : Nat} (hs : s < 2 ^ n) : ∀ j, misN fl x s (n + j) = misN fl x s n * 10 ^ j
  | 0 => by simp
  | j + 1 => by
    show misN fl x s (n + j) * (if s / 2 ^ (n + j) % 2 = 1 then tmN fl (n + j) x else 10) = _
    have h1 : s / 2 ^ (n + j) = 0 := Nat.div_eq_of_lt (Nat.lt_of_lt_of_le hs (Nat.pow_le_pow_right (by decide) (by omega)))
    rw [misN_up hs j, h1, if_neg (by decide), Nat.pow_succ, Nat.mul_assoc]
theorem misN_low {fl : Nat → Nat → Nat} {x r n : Nat} : ∀ {i : Nat}, i ≤ n → misN fl x (2 ^ n + r) i = misN fl x r i
  | 0, _ => rfl
  | i + 1, hi => by
    unfold misN
    rw [misN_low (show i ≤ n by omega)]
    have h1 : (2 ^ n + r) / 2 ^ i % 2 = r / 2 ^ i % 2 := by
      rw [show 2 ^ n = 2 ^ i * 2 ^ (n - i) by rw [← Nat.pow_add]; congr 1; omega, Nat.mul_add_div (Nat.two_pow_pos i), show n - i = (n - i - 1) + 1 by omega, Nat.pow_succ]
      omega
    rw [h1]
theorem misN_new {fl : Nat → Nat → Nat} {x r n : Nat} (hn : n < 8) (hr : r < 2 ^ n) : misN fl x (2 ^ n + r) 8 = misN fl x r 8 / 10 * tmN fl n x := by
  have hs : 2 ^ n + r < 2 ^ (n + 1) := by rw [Nat.pow_succ]; omega
  have e1 := misN_up (fl := fl) (x := x) hs (7 - n)
  have e2 := misN_up (fl := fl) (x := x) hr (8 - n)
  rw [show n + 1 + (7 - n) = 8 by omega] at e1
  rw [show n + (8 - n) = 8 by omega, show 8 - n = (7 - n) + 1 by omega, Nat.pow_succ, ← Nat.mul_assoc] at e2
  rw [e1, e2, Nat.mul_div_cancel _ (by decide)]
  show misN fl x (2 ^ n + r) n * _ * _ = _
  have h1 : (2 ^ n + r) / 2 ^ n % 2 = 1 := by
    rw [show (2 ^ n + r) / 2 ^ n = 1 from Nat.div_eq_of_lt_le (by omega) (by omega)]
  rw [misN_low (Nat.le_refl n), if_pos h1, Nat.mul_assoc, Nat.mul_comm (tmN fl n x), ← Nat.mul_assoc]
theorem misN_0 (fl : Nat → Nat → Nat) (x : Nat) : misN fl x 0 8 = 100000000 := by
  have := misN_up (fl := fl) (x := x) (s := 0) (n := 0) (by decide) 8
  rw [Nat.zero_add] at this
  rw [this, show misN fl x 0 0 = 1 from rfl, Nat.one_mul]
/-- WORTH of the set s, in hundred millionths -/
def worN (fl : Nat → Nat → Nat) (m : Nat → Nat → Nat) (s : Nat) : Nat → Nat
  | 0 => 0
  | n + 1 => worN fl m s n + if m n 10 = 1 then 100000000 - misN fl (m n 0) s 8 else 0
theorem worN_le (fl : Nat → Nat → Nat) (m : Nat → Nat → Nat) (s : Nat) : ∀ n, worN fl m s n ≤ n * 100000000
  | 0 => Nat.zero_le _
  | n + 1 => by
    have h1 := worN_le fl m s n
    have h2 : (if m n 10 = 1 then 100000000 - misN fl (m n 0) s 8 else 0) ≤ 100000000 := by
      split
      · exact Nat.sub_le _ _
      · exact Nat.zero_le _
    rw [Nat.add_mul, Nat.one_mul]
    exact Nat.add_le_add h1 h2
/-- BEST among the sets 0 to n -/
def chsN (W R : Nat → Nat) (p : Nat) : Nat → Nat
  | 0 => 0
  | n + 1 => if R (n + 1) ≤ p ∧ (W (chsN W R p n) < W (n + 1) ∨ (W (n + 1) = W (chsN W R p n) ∧ R (n + 1) < R (chsN W R p n))) then n + 1 else chsN W R p n
theorem chsN_le (W R : Nat → Nat) (p : Nat) : ∀ n, chsN W R p n ≤ n
  | 0 => Nat.le_refl _
  | n + 1 => by
    have := chsN_le W R p n
    unfold chsN
    split <;> omega
theorem shl1 : ∀ n, n < 12 → (1 : Int32) <<< (nI n &&& 31) = nI (2 ^ n) := by decide +kernel
theorem bitI {s i : Nat} (hs : s < 256) (hi : i < 8) : (nI s >>> (nI i &&& 31)) &&& 1 = nI (s / 2 ^ i % 2) := by
  have e : nI i &&& 31 = nI i := by
    have := pk_andN (n := i) (by omega) (m := 31) 5 rfl
    rw [this, Nat.mod_eq_of_lt (by omega)]
  have h : ∀ i, i < 8 → ((nI i).toBitVec.smod 32).toNat = i := by decide +kernel
  rw [e, pk_shrN (by omega) (nI i) i (h i hi)]
  exact pk_andN (m := 1) (Nat.lt_of_le_of_lt (Nat.div_le_self _ _) (by omega)) 1 rfl
/-- the FLIGHTS in the cells -/
def FlyW (g : Gm) (M : Mem) (fy f0 f1 f2 f3 ja jb : Nat) (fl : Nat → Nat → Nat) (ga gb : Nat → Int64) : Prop :=
  M fy = some (.inr (2, [.ref f0, .ref f1, .ref f2, .ref f3, .ref ja, .ref jb])) ∧ M f0 = some (aI g 8 (fun i => nI (fl i 0))) ∧ M f1 = some (aI g 8 (fun i => nI (fl i 1))) ∧ M f2 = some (aI g 8 (fun i => nI (fl i 2))) ∧ M f3 = some (aI g 8 (fun i => nI (fl i 3))) ∧ M ja = some (aJ g 256 ga) ∧ M jb = some (aJ g 256 gb) ∧ okFl fl ∧ (f0 ≠ f1 ∧ f0 ≠ f2 ∧ f0 ≠ f3 ∧ f1 ≠ f2 ∧ f1 ≠ f3 ∧ f2 ≠ f3 ∧ ja ≠ jb)
theorem FlyW.setJ {g : Gm} {M : Mem} {fy f0 f1 f2 f3 ja jb : Nat} {fl : Nat → Nat → Nat} {ga gb : Nat → Int64} (h : FlyW g M fy f0 f1 f2 f3 ja jb fl ga gb) (a b : Nat → Int64) : FlyW g (mset (mset M ja (aJ g 256 a)) jb (aJ g 256 b)) fy f0 f1 f2 f3 ja jb fl a b := by
  obtain ⟨h1, h2, h3, h4, h5, h6, h7, h8, h9⟩ := h
  have ne : ∀ {q : Nat} {e : va_E}, M q = some e → (∀ z, e ≠ aJ g 256 z) → mset (mset M ja (aJ g 256 a)) jb (aJ g 256 b) q = some e := fun hq he => by
    rw [mset_ne (cell_ne hq h7 (he _)), mset_ne (cell_ne hq h6 (he _))]; exact hq
  exact ⟨ne h1 (by simp), ne h2 (by simp), ne h3 (by simp), ne h4 (by simp), ne h5 (by simp), (mset_ne h9.2.2.2.2.2.2).trans (mset_same _ _ _), mset_same _ _ _, h8, h9⟩

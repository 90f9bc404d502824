/-! A PICTURE in the cells; counting and finding over rows. -/
def okP (pf : Nat → Nat) : Prop := pf 0 ≤ pf 1 ∧ pf 1 ≤ 11 ∧ pf 2 ≤ 99 ∧ pf 3 ≤ 3 ∧ pf 4 ≤ 20
/-- a PICTURE at pa: its clouds at ca, what counts at ka, what shows at ra -/
def PicW (g : Gm) (M : Mem) (pa ca ka ra : Nat) (pf : Nat → Nat) (lo hi : Int64) (cn lk : Nat → Int32) : Prop :=
  okP pf ∧ ka ≠ ra ∧ M pa = some (.inr (5, [.int (nI (pf 0)), .int (nI (pf 1)), .int (nI (pf 2)), .int (nI (pf 3)), .int (nI (pf 4)), .ref ca, .ref ka, .ref ra])) ∧ M ca = some (.inr (7, [.long lo, .long hi])) ∧ M ka = some (aI g 96 cn) ∧ M ra = some (aI g 96 lk)
def covN (pf : Nat → Nat) (B : Nat → Bool) (c : Nat) : Bool := (decide (pf 0 ≤ c % 12) && decide (c % 12 ≤ pf 1)) && !B c
def lookI (pf : Nat → Nat) (B : Nat → Bool) (lk : Nat → Int32) (c : Nat) : Int32 := if covN pf B c then lk c else -6
def sortI (x : Int32) : Int32 := if x = -6 then 0 else if x = 0 then 1 else if x = 1 then 2 else 3
def cntB (p : Nat → Bool) : Nat → Nat
  | 0 => 0
  | n + 1 => cntB p n + if p n then 1 else 0
theorem cntB_le (p : Nat → Bool) : ∀ n, cntB p n ≤ n
  | 0 => Nat.le_refl _
  | n + 1 => by
    have h := cntB_le p n
    unfold cntB
    split <;> omega
theorem cntB_congr {p q : Nat → Bool} : ∀ {n : Nat}, (∀ i, i < n → p i = q i) → cntB p n = cntB q n
  | 0, _ => rfl
  | n + 1, h => by
    unfold cntB
    rw [cntB_congr (fun i hi => h i (by omega)), h n (by omega)]
def fstB (p : Nat → Bool) : Nat → Option Nat
  | 0 => none
  | n + 1 => match fstB p n with
    | some k => some k
    | none => if p n then some n else none
theorem fstB_hit {p : Nat → Bool} {i : Nat} (h0 : fstB p i = none) (h : p i = true) : ∀ {n : Nat}, i < n → fstB p n = some i
  | 0, hn => absurd hn (Nat.not_lt_zero _)
  | n + 1, hn => by
    unfold fstB
    by_cases q : i = n
    · subst q; rw [h0]; simp [h]
    · rw [fstB_hit h0 h (show i < n by omega)]
theorem fstB_step {p : Nat → Bool} {i : Nat} (h0 : fstB p i = none) (h : p i = false) : fstB p (i + 1) = none := by
  unfold fstB
  rw [h0]
  simp [h]
theorem fstB_congr {p q : Nat → Bool} : ∀ {n : Nat}, (∀ i, i < n → p i = q i) → fstB p n = fstB q n
  | 0, _ => rfl
  | n + 1, h => by
    unfold fstB
    rw [fstB_congr (fun i hi => h i (by omega)), h n (by omega)]
def lstB (p : Nat → Bool) : Nat → Option Nat
  | 0 => none
  | n + 1 => if p n then some n else lstB p n
theorem lstB_congr {p q : Nat → Bool} : ∀ {n : Nat}, (∀ i, i < n → p i = q i) → lstB p n = lstB q n
  | 0, _ => rfl
  | n + 1, h => by
    unfold lstB
    rw [lstB_congr (fun i hi => h i (by omega)), h n (by omega)]
def sucI (o : Option Nat) : Int32 := match o with
  | none => -6
  | some k => nI (k + 1)
theorem cov_N {pf : Nat → Nat} (h : okP pf) {B : Nat → Bool} {c : Nat} (hc : c < 96) : qin (nI (c % 12)) (nI (pf 0)) (nI (pf 1)) = (decide (pf 0 ≤ c % 12) && decide (c % 12 ≤ pf 1)) := by
  unfold okP at h
  exact qin_N (by omega) (by omega) (by omega)
theorem qin_c {c : Nat} (hc : c < 96) : qin (nI c) 0 95 = true := by
  rw [show qin (nI c) 0 95 = qin (nI c) (nI 0) (nI 95) from rfl, qin_N (by omega) (by decide) (by decide)]
  simp
  omega
theorem reach_N {pf : Nat → Nat} (h : okP pf) {k : Nat} (hk : k ≤ 20) : nI k * nI (pf 4) / 10 = nI (k * pf 4 / 10) ∧ k * pf 4 / 10 ≤ 40 := by
  unfold okP at h
  have h1 : k * pf 4 ≤ 400 := Nat.le_trans (Nat.mul_le_mul hk h.2.2.2.2) (by decide)
  rw [pk_mul]
  exact ⟨pk_div (d := 10) (by omega) (by decide) (by decide), by omega⟩

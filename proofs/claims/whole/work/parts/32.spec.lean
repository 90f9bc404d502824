/-! What the land is, in plain numbers: the marks of a THING are numbers m 0 .. m 10. -/
def there (m : Nat → Nat) (d : Nat) : Bool := decide (m 6 ≤ d) && decide (d ≤ m 7)
def liesN (m : Nat → Nat) (x y : Nat) : Bool := (decide (m 0 ≤ x) && decide (x < m 0 + m 2)) && (decide (m 1 ≤ y) && decide (y < m 1 + m 3))
/-- the marks are as the document has them -/
def okM (m : Nat → Nat) : Prop := m 0 ≤ 11 ∧ m 1 ≤ 7 ∧ 1 ≤ m 2 ∧ m 2 ≤ 4 ∧ 1 ≤ m 3 ∧ m 3 ≤ 4 ∧ m 0 + m 2 ≤ 12 ∧ m 1 + m 3 ≤ 8 ∧ 1 ≤ m 4 ∧ m 4 ≤ 20 ∧ m 5 ≤ 5 ∧ m 6 ≤ m 7 ∧ m 7 ≤ 99 ∧ m 8 ≤ 8 ∧ m 9 ≤ 1 ∧ m 10 ≤ 1
def abv (m : Nat → Nat → Nat) (o : Option Nat) (n : Nat) : Bool := match o with
  | none => true
  | some b => decide (m b 4 < m n 4)
/-- the THING that counts at x y on the DAY d, among the first n -/
def bst (m : Nat → Nat → Nat) (x y d : Nat) : Nat → Option Nat
  | 0 => none
  | n + 1 => if (there (m n) d && liesN (m n) x y) && abv m (bst m x y d n) n then some n else bst m x y d n
theorem bst_lt {m : Nat → Nat → Nat} {x y d : Nat} : ∀ {n b : Nat}, bst m x y d n = some b → b < n
  | 0, b, h => by simp [bst] at h
  | n + 1, b, h => by
    unfold bst at h
    split at h
    · cases h; omega
    · have := bst_lt h; omega
theorem bst_here {m : Nat → Nat → Nat} {x y d : Nat} : ∀ {n b : Nat}, bst m x y d n = some b → there (m b) d = true ∧ liesN (m b) x y = true
  | 0, b, h => by simp [bst] at h
  | n + 1, b, h => by
    unfold bst at h
    split at h
    · next q => cases h; simp only [Bool.and_eq_true] at q; exact q.1
    · exact bst_here h
/-- an answer that may be NONE -/
def oI (o : Option Nat) : Int32 := match o with
  | none => -6
  | some k => nI k
theorem qin_N {a b c : Nat} (ha : a < 2 ^ 31) (hb : b < 2 ^ 31) (hc : c < 2 ^ 31) : qin (nI a) (nI b) (nI c) = (decide (b ≤ a) && decide (a ≤ c)) := by
  unfold qin
  rw [decide_eq_decide.mpr (nI_leI hb ha), decide_eq_decide.mpr (nI_leI ha hc)]
theorem i32_toInt_sub {a b : Nat} (ha : a < 2 ^ 30) (hb : b < 2 ^ 30) : (nI a - nI b).toInt = (a : Int) - b := pk_sub_toInt ha hb
theorem qin_sub {x X W : Nat} (hx : x < 2 ^ 30) (hX : X < 2 ^ 30) (hW : 1 ≤ W) (hW2 : W < 2 ^ 30) : qin (nI x - nI X) 0 (nI W - 1) = (decide (X ≤ x) && decide (x < X + W)) := by
  have e1 := i32_toInt_sub hx hX
  have e2 : (nI W - 1).toInt = (W : Int) - 1 := by
    have := i32_toInt_sub (a := W) (b := 1) hW2 (by decide)
    exact this
  unfold qin
  congr 1
  · apply decide_eq_decide.mpr
    rw [Int32.le_iff_toInt_le, e1, show (0 : Int32).toInt = 0 from rfl]
    omega
  · apply decide_eq_decide.mpr
    rw [Int32.le_iff_toInt_le, e1, e2]
    omega
theorem lies_N {m : Nat → Nat} (h : okM m) {x y : Nat} (hx : x < 2 ^ 30) (hy : y < 2 ^ 30) : lies (fun w => nI (m w)) (nI x) (nI y) = liesN m x y := by
  unfold okM at h
  unfold lies liesN
  rw [qin_sub hx (by omega) (by omega) (by omega), qin_sub hy (by omega) (by omega) (by omega)]
theorem there_N {m : Nat → Nat} (h : okM m) {d : Nat} (hd : d < 2 ^ 31) : qin (nI d) (nI (m 6)) (nI (m 7)) = there m d := by
  unfold okM at h
  exact qin_N hd (by omega) (by omega)
theorem above_N {m m' : Nat → Nat} (h : okM m) (h' : okM m') : decide (nI (m' 4) < nI (m 4)) = decide (m' 4 < m 4) := by
  unfold okM at h h'
  exact decide_eq_decide.mpr (nI_ltI (by omega) (by omega))
theorem cell_mod {c : Nat} (hc : c < 2 ^ 31) : nI c - nI c / 12 * 12 = nI (c % 12) := pk_rem (d := 12) hc (by decide) (by decide)
theorem cell_div {c : Nat} (hc : c < 2 ^ 31) : nI c / 12 = nI (c / 12) := pk_div (d := 12) hc (by decide) (by decide)
/-- THE LAND in the cells M: at la; its row at ta; THING i at th i, its marks at mk i, its ticks at dn i -/
def LandW (g : Gm) (M : Mem) (la ta : Nat) (th mk dn : Nat → Nat) (nT : Nat) (m : Nat → Nat → Nat) (lo hi : Nat → Int64) : Prop :=
  nT ≤ 12 ∧ M la = some (.inr (3, [.ref ta, .int (nI nT)])) ∧ M ta = some (aQ g 4 12 (fun i => if i < nT then some (th i) else none)) ∧ ∀ i, i < nT → M (th i) = some (.inr (6, [.int (nI i), .ref (mk i), .ref (dn i)])) ∧ M (mk i) = some (aI g 11 (fun w => nI (m i w))) ∧ M (dn i) = some (.inr (7, [.long (lo i), .long (hi i)])) ∧ okM (m i)

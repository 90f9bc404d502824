/-! Uses: texts, in plain numbers. -/
/-- what may come behind a sign: 0 a fact, 1 the KIND of n, 2 a relation, 3 a digit, 4 a digit more or a joint, 5 a joint; 6: a FAULT -/
def stp (st : Nat) (s : Int32) : Nat :=
  if st = 0 then (if s = 110 then 1 else if s = 115 ∨ s = 107 ∨ s = 104 then 2 else 6)
  else if st = 1 then (if qin s 48 53 then 2 else 6)
  else if st = 2 then (if s = 60 ∨ s = 62 ∨ s = 61 then 3 else 6)
  else if st = 3 then (if qin s 48 57 then 4 else 6)
  else if st = 4 then (if qin s 48 57 then 5 else if s = 38 ∨ s = 124 then 0 else 6)
  else if st = 5 then (if s = 38 ∨ s = 124 then 0 else 6)
  else 6
theorem stp_le (st : Nat) (s : Int32) : stp st s ≤ 6 := by
  unfold stp
  (repeat' split) <;> omega
def aut (sg : Nat → Int32) : Nat → Nat
  | 0 => 0
  | k + 1 => stp (aut sg k) (sg k)
theorem aut_le (sg : Nat → Int32) : ∀ k, aut sg k ≤ 6
  | 0 => Nat.zero_le _
  | k + 1 => stp_le _ _
/-- THE FAULT of the first n signs -/
def faultN (sg : Nat → Int32) (n : Nat) : Option Nat := match fstB (fun i => decide (aut sg (i + 1) = 6)) n with
  | some i => some i
  | none => if aut sg n = 4 ∨ aut sg n = 5 then none else some n
def jtest (kn re nu : Int32) : Int32 := if kn = -6 then 1 else if re = 60 then (if kn < nu then 2 else 0) else if re = 62 then (if nu < kn then 2 else 0) else if kn = nu then 2 else 0
abbrev J5 : Type := Int32 × Int32 × Int32 × Int32 × Int32
/-- a text judged sign by sign: the whole, the BOTH so far, the fact, the relation, the number -/
def jst (kf : Int32 → Int32) (q : J5) (s : Int32) : J5 :=
  if s = 38 ∨ s = 124 then
    (if s = 124 then ((if q.1 < (if jtest (kf q.2.2.1) q.2.2.2.1 q.2.2.2.2 < q.2.1 then jtest (kf q.2.2.1) q.2.2.2.1 q.2.2.2.2 else q.2.1) then (if jtest (kf q.2.2.1) q.2.2.2.1 q.2.2.2.2 < q.2.1 then jtest (kf q.2.2.1) q.2.2.2.1 q.2.2.2.2 else q.2.1) else q.1), 2, q.2.2.1, 0, 0)
      else (q.1, (if jtest (kf q.2.2.1) q.2.2.2.1 q.2.2.2.2 < q.2.1 then jtest (kf q.2.2.1) q.2.2.2.1 q.2.2.2.2 else q.2.1), q.2.2.1, 0, 0))
  else if qin s 48 57 then
    (if q.2.2.2.1 = 0 then (q.1, q.2.1, 3 + s - 48, q.2.2.2.1, q.2.2.2.2) else (q.1, q.2.1, q.2.2.1, q.2.2.2.1, 10 * q.2.2.2.2 + s - 48))
  else if s = 60 ∨ s = 62 ∨ s = 61 then (q.1, q.2.1, q.2.2.1, s, q.2.2.2.2)
  else (q.1, q.2.1, (if s = 115 then 0 else if s = 107 then 1 else 2), q.2.2.2.1, q.2.2.2.2)
def jrun (kf : Int32 → Int32) (tx : Nat → Int32) : Nat → J5
  | 0 => (0, 2, 0, 0, 0)
  | k + 1 => jst kf (jrun kf tx k) (tx k)
def txE (tx : Nat → Int32) (n k : Nat) : Int32 := if k < n then tx k else 124
def jud (kf : Int32 → Int32) (tx : Nat → Int32) (n : Nat) : Int32 := (jrun kf (txE tx n) (n + 1)).1
def knI (vf : Nat → Int32) (x : Int32) : Int32 := if 0 ≤ x ∧ x < 9 then vf x.toNatClampNeg else -6
def orB (p : Nat → Bool) : Nat → Int32
  | 0 => 0
  | n + 1 => if p n then orB p n ||| ((1 : Int32) <<< (nI n &&& 31)) else orB p n
/-- the USES in the cells: signs at sa, texts at xa, their rows at ta u, their lengths at na -/
def UseW (g : Gm) (M : Mem) (ua sa xa na : Nat) (ta : Nat → Nat) (nS : Nat) (sg : Nat → Int32) (ln : Nat → Nat) (tx : Nat → Nat → Int32) : Prop :=
  nS ≤ 40 ∧ M ua = some (.inr (8, [.ref sa, .int (nI nS), .ref xa, .ref na])) ∧ M sa = some (aI g 40 sg) ∧ M xa = some (aQ g 5 5 (fun u => if u < 5 then some (ta u) else none)) ∧ M na = some (aI g 5 (fun u => nI (ln u))) ∧ ∀ u, u < 5 → M (ta u) = some (aI g 40 (tx u)) ∧ ln u ≤ 40 ∧ sa ≠ ta u ∧ ∀ v, v < 5 → u ≠ v → ta u ≠ ta v

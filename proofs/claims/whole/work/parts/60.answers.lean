/-! The answers, in plain numbers, and how the desk's world goes on. -/
def idx (n : Nat) (x : Int32) : Option Nat := if 0 ≤ x ∧ x < nI n then some x.toNatClampNeg else none
theorem idx_nI {n i : Nat} (hn : n < 2 ^ 31) (hi : i < n) : idx n (nI i) = some i := by
  unfold idx
  rw [if_pos ⟨Int32.not_lt.mp (nI_pos (by omega)), (nI_ltI (by omega) hn).mpr hi⟩, nI_clamp (by omega)]
theorem idx_cases (n : Nat) (hn : n < 2 ^ 31) (x : Int32) : (∃ i, i < n ∧ x = nI i ∧ idx n x = some i) ∨ ((∀ i, i < n → ¬ x = nI i) ∧ idx n x = none) := by
  by_cases h : 0 ≤ x ∧ x < nI n
  · obtain ⟨j, hj, rfl⟩ := nI_of2 (M := nI n) (nI_toInt hn) (Int32.not_lt.mpr h.1) (Int32.le_of_lt h.2)
    have hj2 := (nI_ltI (by omega) hn).mp h.2
    exact Or.inl ⟨j, hj2, rfl, idx_nI hn hj2⟩
  · refine Or.inr ⟨fun i hi q => h ?_, if_neg h⟩
    rw [q]
    exact ⟨Int32.not_lt.mp (nI_pos (by omega)), (nI_ltI (by omega) hn).mpr hi⟩
/-- a number within bounds is a plain one -/
theorem qin_nJ {x : Int32} {L N : Nat} (hN : N < 2 ^ 31) (hL : L < 2 ^ 31) (h : qin x (nI L) (nI N) = true) : ∃ j : Nat, L ≤ j ∧ j ≤ N ∧ x = nI j := by
  unfold qin at h
  simp only [Bool.and_eq_true, decide_eq_true_eq] at h
  have h0 : ¬ x < 0 := Int32.not_lt.mpr (Int32.le_trans (Int32.not_lt.mp (nI_pos hL)) h.1)
  obtain ⟨j, hj, rfl⟩ := nI_of2 (M := nI N) (nI_toInt hN) h0 h.2
  exact ⟨j, (nI_leI hL (by omega)).mp h.1, hj, rfl⟩
abbrev St : Type := Nat × (Nat → Nat → Nat) × (Nat → Nat → Bool) × Nat × (Nat → Nat → Nat) × (Nat → Nat → Bool) × Nat × (Nat → Int32) × (Nat → Nat) × (Nat → Nat → Int32) × (Nat → Nat → Nat)
/-- THE DESK stands for this state; of a text nothing counts behind its end -/
def DeskS (g : Gm) (M : Mem) (dk : Nat) (σ : St) : Prop := match σ with
  | (nT, m, dB, nP, pf, cB, nS, sg, ln, tx, fl) => ∃ ty, (∀ u, u < 5 → ∀ k, k < ln u → ty u k = tx u k) ∧ DeskW g M dk nT m dB nP pf cB nS sg ln ty fl
theorem there_congr {m m' : Nat → Nat} (h : ∀ w, w < 8 → m w = m' w) (d : Nat) : there m d = there m' d := by
  unfold there
  rw [h 6 (by decide), h 7 (by decide)]
theorem lies_congr {m m' : Nat → Nat} (h : ∀ w, w < 8 → m w = m' w) (x y : Nat) : liesN m x y = liesN m' x y := by
  unfold liesN
  rw [h 0 (by decide), h 1 (by decide), h 2 (by decide), h 3 (by decide)]
theorem bst_congr {m m' : Nat → Nat → Nat} {x y d : Nat} : ∀ {n : Nat}, (∀ t, t < n → ∀ w, w < 8 → m t w = m' t w) → bst m x y d n = bst m' x y d n
  | 0, _ => rfl
  | n + 1, h => by
    unfold bst
    have ih := bst_congr (x := x) (y := y) (d := d) (n := n) (fun t ht => h t (by omega))
    have ha : abv m (bst m x y d n) n = abv m' (bst m' x y d n) n := by
      rw [← ih]
      cases hb : bst m x y d n with
      | none => rfl
      | some b =>
        show decide (m b 4 < m n 4) = decide (m' b 4 < m' n 4)
        rw [h b (Nat.lt_succ_of_lt (bst_lt hb)) 4 (by decide), h n (by omega) 4 (by decide)]
    rw [there_congr (h n (by omega)), lies_congr (h n (by omega)), ha, ih]
theorem shade_congr {m m' : Nat → Nat → Nat} {nT : Nat} (h : ∀ t, t < nT → ∀ w, w < 8 → m t w = m' t w) (qf : Nat → Nat) (c : Nat) : shade m nT qf c = shade m' nT qf c := by
  unfold shade
  refine anyB_congr (fun s _ => ?_)
  unfold shS
  cases mv (opp (qf 3)) c (s + 1) with
  | none => rfl
  | some c0 =>
    simp only
    rw [bst_congr h]
    cases hb : bst m' (c0 % 12) (c0 / 12) (qf 2) nT with
    | none => rfl
    | some t => simp only [h t (bst_lt hb) 4 (by decide)]
theorem lookN_congr {m m' : Nat → Nat → Nat} {nT : Nat} (h : ∀ t, t < nT → ∀ w, w < 8 → m t w = m' t w) (h9 : ∀ t, t < nT → m t 9 = m' t 9) (qf : Nat → Nat) (c : Nat) : lookN m nT qf c = lookN m' nT qf c := by
  unfold lookN
  rw [bst_congr h, shade_congr h]
  cases hb : bst m' (c % 12) (c / 12) (qf 2) nT with
  | none => rfl
  | some t => simp only [h t (bst_lt hb) 5 (by decide), h9 t (bst_lt hb)]
theorem look_le {m : Nat → Nat → Nat} {nT : Nat} (h : ∀ t, t < nT → okM (m t)) (qf : Nat → Nat) (c : Nat) : lookN m nT qf c ≤ 15 := by
  unfold lookN
  cases hb : bst m (c % 12) (c / 12) (qf 2) nT with
  | none => simp only; split <;> omega
  | some t =>
    have := h t (bst_lt hb)
    unfold okM at this
    simp only
    (repeat' split) <;> omega
/-- what a PICTURE shows, what counts there -/
abbrev Lk (m : Nat → Nat → Nat) (nT : Nat) (pf : Nat → Nat → Nat) (p c : Nat) : Nat := lookN m nT (pf p) c
abbrev Kk (m : Nat → Nat → Nat) (nT : Nat) (pf : Nat → Nat → Nat) (p c : Nat) : Option Nat := bst m (c % 12) (c / 12) (pf p 2) nT
def seeI (m : Nat → Nat → Nat) (nT : Nat) (qf : Nat → Nat) (B : Nat → Bool) (c : Nat) : Int32 := if covN qf B c then nI (lookN m nT qf c) else -6
def useI (ln : Nat → Nat) (x : Int32) : Option Nat := match idx 5 x with
  | none => none
  | some u => if 0 < ln u then some u else none
def mU (m : Nat → Nat → Nat) (i w v : Nat) : Nat → Nat → Nat := fun j q => if j = i ∧ q = w then v else m j q
def bU (B : Nat → Nat → Bool) (i w : Nat) (b : Bool) : Nat → Nat → Bool := fun j q => if j = i ∧ q = w then b else B j q
def nw (x y a b h k s t : Nat) : Nat → Nat := fun w => if w = 0 then x else if w = 1 then y else if w = 2 then a else if w = 3 then b else if w = 4 then h else if w = 5 then k else if w = 6 then s else if w = 7 then t else if w = 8 then 8 else 0
def np (a b d s e : Nat) : Nat → Nat := fun w => if w = 0 then a else if w = 1 then b else if w = 2 then d else if w = 3 then s else e
def okT (x y a b h k s t : Int32) : Bool := (((qin x 0 11 && qin y 0 7) && (qin a 1 4 && qin b 1 4)) && (decide (x + a ≤ 12) && decide (y + b ≤ 8))) && ((qin h 1 20 && qin k 0 5) && ((qin s 0 99 && qin t 0 99) && decide (s ≤ t)))
def okPc (a b d s e : Int32) : Bool := (((qin a 0 11 && qin b 0 11) && decide (a ≤ b)) && qin d 0 99) && (qin s 0 3 && qin e 0 20)
def okF (a b w r : Int32) : Bool := ((qin a 0 11 && qin b 0 11) && decide (a ≤ b)) && (qin w 0 10 && qin r 0 100)
def aThing (nT : Nat) (x y a b h k s t : Int32) : Int32 := if okT x y a b h k s t then (if nT = 12 then -4 else nI nT) else -2
def aOf (nT : Nat) (m : Nat → Nat → Nat) (t w : Int32) : Int32 := match idx nT t with
  | none => -1
  | some i => if qin w 0 10 then nI (m i w.toNatClampNeg) else -2
def okSet (w v : Int32) : Bool := qin w 8 10 && qin v 0 (if w = 8 then 8 else 1)
def aSet (nT : Nat) (m : Nat → Nat → Nat) (t w v : Int32) : Int32 := match idx nT t with
  | none => -1
  | some i => if okSet w v then nI (m i w.toNatClampNeg) else -2
def sSet (nT : Nat) (m : Nat → Nat → Nat) (t w v : Int32) : Nat → Nat → Nat := match idx nT t with
  | none => m
  | some i => if okSet w v then mU m i w.toNatClampNeg v.toNatClampNeg else m
def aAt (nT : Nat) (m : Nat → Nat → Nat) (c d : Int32) : Int32 := if qin c 0 95 && qin d 0 99 then oI (bst m (c.toNatClampNeg % 12) (c.toNatClampNeg / 12) d.toNatClampNeg nT) else -2
def aPicture (nP : Nat) (a b d s e : Int32) : Int32 := if okPc a b d s e then (if nP = 10 then -4 else nI nP) else -2
def aCloud (nP : Nat) (cB : Nat → Nat → Bool) (p c : Int32) : Int32 := match idx nP p with
  | none => -1
  | some i => if qin c 0 95 then bI (cB i c.toNatClampNeg) else -2
def sCloud (nP : Nat) (cB : Nat → Nat → Bool) (p c : Int32) (b : Bool) : Nat → Nat → Bool := match idx nP p with
  | none => cB
  | some i => if qin c 0 95 then bU cB i c.toNatClampNeg b else cB
def aShows (nT : Nat) (m : Nat → Nat → Nat) (nP : Nat) (pf : Nat → Nat → Nat) (cB : Nat → Nat → Bool) (p c : Int32) : Int32 := match idx nP p with
  | none => -1
  | some i => if qin c 0 95 then seeI m nT (pf i) (cB i) c.toNatClampNeg else -2
def aCount (nT : Nat) (m : Nat → Nat → Nat) (nP : Nat) (pf : Nat → Nat → Nat) (cB : Nat → Nat → Bool) (p z : Int32) : Int32 := match idx nP p with
  | none => -1
  | some i => if qin z 0 3 then nI (cntB (fun c => decide (sortI (seeI m nT (pf i) (cB i) c) = z)) 96) else -2
def aSpan (nP : Nat) (pf : Nat → Nat → Nat) (p z e : Int32) : Int32 := match idx nP p with
  | none => -1
  | some i => if qin z 0 11 && qin e 0 1 then (if e = 0 then sucI (fstB (fun k => decide (nI ((k + 1) * pf i 4 / 10) = z)) 20) else sucI (lstB (fun k => decide (nI ((k + 1) * pf i 4 / 10) = z)) 20)) else -2
def unS (m : Nat → Nat → Nat) (nT : Nat) (pf : Nat → Nat → Nat) (cB : Nat → Nat → Bool) (i j c : Nat) : Bool := (covN (pf i) (cB i) c && covN (pf j) (cB j) c) && !decide (seeI m nT (pf i) (cB i) c = seeI m nT (pf j) (cB j) c)
def aChanged (nT : Nat) (m : Nat → Nat → Nat) (nP : Nat) (pf : Nat → Nat → Nat) (cB : Nat → Nat → Bool) (a b z : Int32) : Int32 := match idx nP a, idx nP b with
  | some i, some j => if i = j then -1 else if qin z 0 2 then (if z = 2 then oI (fstB (unS m nT pf cB i j) 96) else if z = 0 then nI (cntB (unS m nT pf cB i j) 96) else nI (cntB (fun c => (decide (seeI m nT (pf i) (cB i) c < 10) && decide (seeI m nT (pf j) (cB j) c < 10)) && unS m nT pf cB i j c) 96)) else -2
  | _, _ => -1
def aSay (nS : Nat) (s : Int32) : Int32 := if qin s 33 126 then (if nS = 40 then -4 else nI (nS + 1)) else -2
def okUse (nS : Nat) (sg : Nat → Int32) (u : Int32) : Option Nat := match idx 5 u with
  | none => none
  | some k => if faultN sg nS = none then some k else none
def aUse (nS : Nat) (sg : Nat → Int32) (ln : Nat → Nat) (u : Int32) : Int32 := match idx 5 u with
  | none => -1
  | some k => if faultN sg nS = none then (if 0 < ln k then 0 else 1) else -5
def aFact (nT : Nat) (m : Nat → Nat → Nat) (nP : Nat) (pf : Nat → Nat → Nat) (cB : Nat → Nat → Bool) (t d w : Int32) : Int32 := match idx nT t with
  | none => -1
  | some i => if qin d 0 99 && qin w 0 8 then oI (factN nP pf cB (Lk m nT pf) (Kk m nT pf) (m i) i d.toNatClampNeg w.toNatClampNeg) else -2
/-- whether the USE fits the THING i by the DAY d -/
def fitI (nT : Nat) (m : Nat → Nat → Nat) (nP : Nat) (pf : Nat → Nat → Nat) (cB : Nat → Nat → Bool) (ln : Nat → Nat) (tx : Nat → Nat → Int32) (u i d : Nat) : Int32 := jud (knI (fun w => oI (factN nP pf cB (Lk m nT pf) (Kk m nT pf) (m i) i d w))) (tx u) (ln u)
def aFit (nT : Nat) (m : Nat → Nat → Nat) (nP : Nat) (pf : Nat → Nat → Nat) (cB : Nat → Nat → Bool) (ln : Nat → Nat) (tx : Nat → Nat → Int32) (u t d : Int32) : Int32 := match useI ln u, idx nT t with
  | some k, some i => if qin d 0 99 then fitI nT m nP pf cB ln tx k i d.toNatClampNeg else -2
  | _, _ => -1
def aCould (nT : Nat) (m : Nat → Nat → Nat) (nP : Nat) (pf : Nat → Nat → Nat) (cB : Nat → Nat → Bool) (ln : Nat → Nat) (tx : Nat → Nat → Int32) (u t : Int32) : Int32 := match useI ln u, idx nT t with
  | some k, some i => oI (fstB (fun d => (decide (d = 0) || anyB (fun p => decide (pf p 2 = d)) nP) && decide (fitI nT m nP pf cB ln tx k i d = 2)) 100)
  | _, _ => -1
def aAll (nT : Nat) (m : Nat → Nat → Nat) (nP : Nat) (pf : Nat → Nat → Nat) (cB : Nat → Nat → Bool) (ln : Nat → Nat) (tx : Nat → Nat → Int32) (u d z : Int32) : Int32 := match useI ln u with
  | some k => if qin d 0 99 && qin z 0 2 then orB (fun i => decide (fitI nT m nP pf cB ln tx k i d.toNatClampNeg = z)) nT else -2
  | none => -1
def metN (nT : Nat) (m : Nat → Nat → Nat) (d : Nat) : Option Nat × Nat := mxc (fun c => crossN m d c nT) 96
def aMeet (nT : Nat) (m : Nat → Nat → Nat) (d z : Int32) : Int32 := if qin d 0 99 && qin z 0 1 then (if z = 0 then oI (metN nT m d.toNatClampNeg).1 else nI (metN nT m d.toNatClampNeg).2) else -2
def aChance (nT : Nat) (m : Nat → Nat → Nat) (d z : Int32) : Int64 := if qin d 0 99 && qin z 0 1 then (match (metN nT m d.toNatClampNeg).1 with
    | none => -1000000000000000003
    | some c => lN (frN (if anyB (fun t => faceN (m t) d.toNatClampNeg && !mayN (m t) c) nT then 0 else 1) (8 ^ cntB (fun t => faceN (m t) d.toNatClampNeg) nT) z.toNatClampNeg)) else -1000000000000000002
def aDid (nT : Nat) (dB : Nat → Nat → Bool) (t d : Int32) : Int32 := match idx nT t with
  | none => -1
  | some i => if qin d 0 99 then bI (dB i d.toNatClampNeg) else -2
def sDid (nT : Nat) (dB : Nat → Nat → Bool) (t d : Int32) (b : Bool) : Nat → Nat → Bool := match idx nT t with
  | none => dB
  | some i => if qin d 0 99 then bU dB i d.toNatClampNeg b else dB
def aDecoy (nT : Nat) (dB : Nat → Nat → Bool) (t a b q z : Int32) : Int64 := match idx nT t with
  | none => -1000000000000000001
  | some i => if (((qin a 0 99 && qin b 0 99) && decide (a ≤ b)) && (qin q 1 19 && qin z 0 1)) && decide (cntNo (dB i) a.toNatClampNeg (b.toNatClampNeg + 1 - a.toNatClampNeg) ≤ 12) then lN (frN ((20 - q.toNatClampNeg) ^ cntNo (dB i) a.toNatClampNeg (b.toNatClampNeg + 1 - a.toNatClampNeg)) (20 ^ cntNo (dB i) a.toNatClampNeg (b.toNatClampNeg + 1 - a.toNatClampNeg)) z.toNatClampNeg) else -1000000000000000002
def aSure (q s : Int32) : Int32 := if qin q 1 19 && qin s 0 100 then oI (fstB (fun n => decide ((20 - q.toNatClampNeg) ^ n * 100 ≤ 20 ^ n * s.toNatClampNeg)) 13) else -2
def aFlight (f a b w r : Int32) : Int32 := match idx 8 f with
  | none => -1
  | some _ => if okF a b w r then 1 else -2
def sFlight (fl : Nat → Nat → Nat) (f a b w r : Int32) : Nat → Nat → Nat := match idx 8 f with
  | none => fl
  | some i => if okF a b w r then flU fl i a.toNatClampNeg b.toNatClampNeg w.toNatClampNeg r.toNatClampNeg else fl
def aWorth (nT : Nat) (m : Nat → Nat → Nat) (fl : Nat → Nat → Nat) (s z : Int32) : Int64 := if qin s 0 255 && qin z 0 1 then lN (frN (worN fl m s.toNatClampNeg nT) 100000000 z.toNatClampNeg) else -1000000000000000002
def bestN (nT : Nat) (m : Nat → Nat → Nat) (fl : Nat → Nat → Nat) (p : Nat) : Nat := chsN (fun s => worN fl m s nT) (fun s => rskN fl s 8) p 255
def aBest (nT : Nat) (m : Nat → Nat → Nat) (fl : Nat → Nat → Nat) (p z : Int32) : Int32 := if qin p 0 800 && qin z 0 1 then (if z = 0 then nI (bestN nT m fl p.toNatClampNeg) else nI (rskN fl (bestN nT m fl p.toNatClampNeg) 8)) else -2
/-- the ways in which, of a + b among n + k, a or more lie among the n: j of the terms -/
def leaN (n k a b : Nat) : Nat → Nat
  | 0 => 0
  | j + 1 => leaN n k a b j + choN n (a + j) * (if j ≤ b then choN k (b - j) else 0)
def aLean (a n b k z : Int32) : Int64 := if ((qin n 1 20 && qin a 0 n) && (qin k 1 20 && qin b 0 k)) && qin z 0 1 then lN (frN (leaN n.toNatClampNeg k.toNatClampNeg a.toNatClampNeg b.toNatClampNeg (n.toNatClampNeg + 1 - a.toNatClampNeg)) (choN (n.toNatClampNeg + k.toNatClampNeg) (a.toNatClampNeg + b.toNatClampNeg)) z.toNatClampNeg) else -1000000000000000002
def aTold (nT nP nS : Nat) (ln : Nat → Nat) (w : Int32) : Int32 := if w = 0 then nI nT else if w = 1 then nI nP else if w = 2 then nI nS else if w = 3 then orB (fun u => decide (0 < ln u)) 5 else -2
theorem keep2 {M : Mem} {a b : Nat} {ea eb : va_E} (ha : M a = some ea) (hb : M b = some eb) (hne : b ≠ a) {ks : List Nat} (k1 : kd ea ∉ ks) (k2 : kd eb ∉ ks) (x y : va_E) : Keep M (mset (mset M a x) b y) ks := (Keep.set ha k1 x).tr (Keep.set ((mset_ne hne).trans hb) k2 y)
theorem AlbW.setX {g : Gm} {M : Mem} {al pt : Nat} {pa ca ka ra : Nat → Nat} {nP : Nat} {pf : Nat → Nat → Nat} {pl ph : Nat → Int64} {cn lk : Nat → Nat → Int32} (hA : AlbW g M al pt pa ca ka ra nP pf pl ph cn lk) {xr : Nat} {f : Nat → Int32} (hX : M xr = some (aI g 96 f)) (hx : ∀ p, p < nP → xr ≠ ka p ∧ xr ≠ ra p) (e : va_E) : AlbW g (mset M xr e) al pt pa ca ka ra nP pf pl ph cn lk := by
  obtain ⟨a1, a2, a3, a4, a5⟩ := hA
  refine ⟨a1, (mset_ne (cell_ne a2 hX (by simp))).trans a2, (mset_ne (cell_ne a3 hX (by simp))).trans a3, fun j hj => ?_, a5⟩
  have hq := a4 j hj
  exact hq.frame (mset_ne (cell_ne hq.2.2.1 hX (by simp))) (mset_ne (cell_ne hq.2.2.2.1 hX (by simp))) (mset_ne (Ne.symm (hx j hj).1)) (mset_ne (Ne.symm (hx j hj).2))
theorem DeskA.facts {g : Gm} {M : Mem} {dk : Nat} {la ta : Nat} {th mk dn : Nat → Nat} {al pt : Nat} {pa ca ka ra : Nat → Nat} {fa va : Nat} {ua sa xa na : Nat} {tA : Nat → Nat} {li xr : Nat} {fy f0 f1 f2 f3 ja jb : Nat} {lo hi pl ph : Nat → Int64} {cn lk : Nat → Nat → Int32} {bc bs : Bool} {vf : Nat → Int32} {cv mv : Int32} {xf : Nat → Int32} {ga gb : Nat → Int64} {nT : Nat} {m : Nat → Nat → Nat} {dB : Nat → Nat → Bool} {nP : Nat} {pf : Nat → Nat → Nat} {cB : Nat → Nat → Bool} {nS : Nat} {sg : Nat → Int32} {ln : Nat → Nat} {tx : Nat → Nat → Int32} {fl : Nat → Nat → Nat} (hD : DeskA g M dk la ta th mk dn al pt pa ca ka ra fa va ua sa xa na tA li xr fy f0 f1 f2 f3 ja jb lo hi pl ph cn lk bc bs vf cv mv xf ga gb nT m dB nP pf cB nS sg ln tx fl) (f' : Nat → Int32) (b1 b2 : Bool) : DeskA g (mset (mset M va (aI g 9 f')) fa (.inr (1, [.ref va, .int (bI b1), .int (bI b2)]))) dk la ta th mk dn al pt pa ca ka ra fa va ua sa xa na tA li xr fy f0 f1 f2 f3 ja jb lo hi pl ph cn lk b1 b2 f' cv mv xf ga gb nT m dB nP pf cB nS sg ln tx fl := by
  obtain ⟨hD1, hL, hA, ⟨hF, hV⟩, hU, ⟨hI, hX⟩, hY, hdB, hcB, hrw, hinj, hxr, hct⟩ := id hD
  have K : ∀ {ks : List Nat}, (109 ∉ ks ∧ 1 ∉ ks) → Keep M (mset (mset M va (aI g 9 f')) fa (.inr (1, [.ref va, .int (bI b1), .int (bI b2)]))) ks := fun h => keep2 hV hF (cell_ne hF hV (by simp)) h.1 h.2 _ _
  exact ⟨K (ks := [9]) (by decide) _ _ hD1 (by simp [kd]), hL.keep (K (by decide)), hA.keep (K (by decide)), ⟨mset_same _ _ _, (mset_ne (cell_ne hV hF (by simp))).trans (mset_same _ _ _)⟩, hU.keepN (K (by decide)), ⟨K (ks := [4]) (by decide) _ _ hI (by simp [kd]), K (ks := [196]) (by decide) _ _ hX (by simp [kd])⟩, hY.keep (K (by decide)), hdB, hcB, hrw, hinj, hxr, hct⟩
theorem DeskA.lines {g : Gm} {M : Mem} {dk : Nat} {la ta : Nat} {th mk dn : Nat → Nat} {al pt : Nat} {pa ca ka ra : Nat → Nat} {fa va : Nat} {ua sa xa na : Nat} {tA : Nat → Nat} {li xr : Nat} {fy f0 f1 f2 f3 ja jb : Nat} {lo hi pl ph : Nat → Int64} {cn lk : Nat → Nat → Int32} {bc bs : Bool} {vf : Nat → Int32} {cv mv : Int32} {xf : Nat → Int32} {ga gb : Nat → Int64} {nT : Nat} {m : Nat → Nat → Nat} {dB : Nat → Nat → Bool} {nP : Nat} {pf : Nat → Nat → Nat} {cB : Nat → Nat → Bool} {nS : Nat} {sg : Nat → Int32} {ln : Nat → Nat} {tx : Nat → Nat → Int32} {fl : Nat → Nat → Nat} (hD : DeskA g M dk la ta th mk dn al pt pa ca ka ra fa va ua sa xa na tA li xr fy f0 f1 f2 f3 ja jb lo hi pl ph cn lk bc bs vf cv mv xf ga gb nT m dB nP pf cB nS sg ln tx fl) (f' : Nat → Int32) (c' m' : Int32) : DeskA g (mset (mset M xr (aI g 96 f')) li (.inr (4, [.ref xr, .int c', .int m']))) dk la ta th mk dn al pt pa ca ka ra fa va ua sa xa na tA li xr fy f0 f1 f2 f3 ja jb lo hi pl ph cn lk bc bs vf c' m' f' ga gb nT m dB nP pf cB nS sg ln tx fl := by
  obtain ⟨hD1, hL, hA, ⟨hF, hV⟩, hU, ⟨hI, hX⟩, hY, hdB, hcB, hrw, hinj, hxr, hct⟩ := id hD
  have K : ∀ {ks : List Nat}, (196 ∉ ks ∧ 4 ∉ ks) → Keep M (mset (mset M xr (aI g 96 f')) li (.inr (4, [.ref xr, .int c', .int m']))) ks := fun h => keep2 hX hI (cell_ne hI hX (by simp)) h.1 h.2 _ _
  exact ⟨K (ks := [9]) (by decide) _ _ hD1 (by simp [kd]), hL.keep (K (by decide)), (hA.setX hX hxr _).keep (Keep.set ((mset_ne (cell_ne hI hX (by simp))).trans hI) (by simp [kd]) _), ⟨K (ks := [1, 109]) (by decide) _ _ hF (by simp [kd]), K (ks := [1, 109]) (by decide) _ _ hV (by simp [kd])⟩, hU.keepN (K (by decide)), ⟨mset_same _ _ _, (mset_ne (cell_ne hX hI (by simp))).trans (mset_same _ _ _)⟩, hY.keep (K (by decide)), hdB, hcB, hrw, hinj, hxr, hct⟩
theorem DeskA.weigh {g : Gm} {M : Mem} {dk : Nat} {la ta : Nat} {th mk dn : Nat → Nat} {al pt : Nat} {pa ca ka ra : Nat → Nat} {fa va : Nat} {ua sa xa na : Nat} {tA : Nat → Nat} {li xr : Nat} {fy f0 f1 f2 f3 ja jb : Nat} {lo hi pl ph : Nat → Int64} {cn lk : Nat → Nat → Int32} {bc bs : Bool} {vf : Nat → Int32} {cv mv : Int32} {xf : Nat → Int32} {ga gb : Nat → Int64} {nT : Nat} {m : Nat → Nat → Nat} {dB : Nat → Nat → Bool} {nP : Nat} {pf : Nat → Nat → Nat} {cB : Nat → Nat → Bool} {nS : Nat} {sg : Nat → Int32} {ln : Nat → Nat} {tx : Nat → Nat → Int32} {fl : Nat → Nat → Nat} (hD : DeskA g M dk la ta th mk dn al pt pa ca ka ra fa va ua sa xa na tA li xr fy f0 f1 f2 f3 ja jb lo hi pl ph cn lk bc bs vf cv mv xf ga gb nT m dB nP pf cB nS sg ln tx fl) (a b : Nat → Int64) : DeskA g (mset (mset M ja (aJ g 256 a)) jb (aJ g 256 b)) dk la ta th mk dn al pt pa ca ka ra fa va ua sa xa na tA li xr fy f0 f1 f2 f3 ja jb lo hi pl ph cn lk bc bs vf cv mv xf a b nT m dB nP pf cB nS sg ln tx fl := by
  obtain ⟨hD1, hL, hA, ⟨hF, hV⟩, hU, ⟨hI, hX⟩, hY, hdB, hcB, hrw, hinj, hxr, hct⟩ := id hD
  have K : ∀ {ks : List Nat}, (1256 ∉ ks ∧ 1256 ∉ ks) → Keep M (mset (mset M ja (aJ g 256 a)) jb (aJ g 256 b)) ks := fun h => keep2 hY.2.2.2.2.2.1 hY.2.2.2.2.2.2.1 (Ne.symm hY.2.2.2.2.2.2.2.2.2.2.2.2.2.2) h.1 h.2 _ _
  exact ⟨K (ks := [9]) (by decide) _ _ hD1 (by simp [kd]), hL.keep (K (by decide)), hA.keep (K (by decide)), ⟨K (ks := [1, 109]) (by decide) _ _ hF (by simp [kd]), K (ks := [1, 109]) (by decide) _ _ hV (by simp [kd])⟩, hU.keepN (K (by decide)), ⟨K (ks := [4]) (by decide) _ _ hI (by simp [kd]), K (ks := [196]) (by decide) _ _ hX (by simp [kd])⟩, hY.setJ a b, hdB, hcB, hrw, hinj, hxr, hct⟩
theorem DeskA.plan {g : Gm} {M : Mem} {dk : Nat} {la ta : Nat} {th mk dn : Nat → Nat} {al pt : Nat} {pa ca ka ra : Nat → Nat} {fa va : Nat} {ua sa xa na : Nat} {tA : Nat → Nat} {li xr : Nat} {fy f0 f1 f2 f3 ja jb : Nat} {lo hi pl ph : Nat → Int64} {cn lk : Nat → Nat → Int32} {bc bs : Bool} {vf : Nat → Int32} {cv mv : Int32} {xf : Nat → Int32} {ga gb : Nat → Int64} {nT : Nat} {m : Nat → Nat → Nat} {dB : Nat → Nat → Bool} {nP : Nat} {pf : Nat → Nat → Nat} {cB : Nat → Nat → Bool} {nS : Nat} {sg : Nat → Int32} {ln : Nat → Nat} {tx : Nat → Nat → Int32} {fl : Nat → Nat → Nat} (hD : DeskA g M dk la ta th mk dn al pt pa ca ka ra fa va ua sa xa na tA li xr fy f0 f1 f2 f3 ja jb lo hi pl ph cn lk bc bs vf cv mv xf ga gb nT m dB nP pf cB nS sg ln tx fl) {i z0 z1 z2 z3 : Nat} (hi8 : i < 8) (hz : z0 ≤ z1 ∧ z1 ≤ 11 ∧ z2 ≤ 10 ∧ z3 ≤ 100) : DeskA g (mset (mset (mset (mset M f0 (aI g 8 (upd (fun j => nI (fl j 0)) i (nI z0)))) f1 (aI g 8 (upd (fun j => nI (fl j 1)) i (nI z1)))) f2 (aI g 8 (upd (fun j => nI (fl j 2)) i (nI z2)))) f3 (aI g 8 (upd (fun j => nI (fl j 3)) i (nI z3)))) dk la ta th mk dn al pt pa ca ka ra fa va ua sa xa na tA li xr fy f0 f1 f2 f3 ja jb lo hi pl ph cn lk bc bs vf cv mv xf ga gb nT m dB nP pf cB nS sg ln tx (flU fl i z0 z1 z2 z3) := by
  obtain ⟨hD1, hL, hA, ⟨hF, hV⟩, hU, ⟨hI, hX⟩, hY, hdB, hcB, hrw, hinj, hxr, hct⟩ := id hD
  have K : ∀ {ks : List Nat}, 108 ∉ ks → Keep M (mset (mset (mset (mset M f0 (aI g 8 (upd (fun j => nI (fl j 0)) i (nI z0)))) f1 (aI g 8 (upd (fun j => nI (fl j 1)) i (nI z1)))) f2 (aI g 8 (upd (fun j => nI (fl j 2)) i (nI z2)))) f3 (aI g 8 (upd (fun j => nI (fl j 3)) i (nI z3)))) ks := fun h => by
    obtain ⟨y1, y2, y3, y4, y5, y6, y7, y8, n1, n2, n3, n4, n5, n6, n7⟩ := hY
    exact ((keep2 y2 y3 (Ne.symm n1) h h _ _).tr (Keep.set ((mset_ne (Ne.symm n4)).trans ((mset_ne (Ne.symm n2)).trans y4)) h _)).tr (Keep.set ((mset_ne (Ne.symm n6)).trans ((mset_ne (Ne.symm n5)).trans ((mset_ne (Ne.symm n3)).trans y5))) h _)
  exact ⟨K (ks := [9]) (by decide) _ _ hD1 (by simp [kd]), hL.keep (K (by decide)), hA.keep (K (by decide)), ⟨K (ks := [1, 109]) (by decide) _ _ hF (by simp [kd]), K (ks := [1, 109]) (by decide) _ _ hV (by simp [kd])⟩, hU.keepN (K (by decide)), ⟨K (ks := [4]) (by decide) _ _ hI (by simp [kd]), K (ks := [196]) (by decide) _ _ hX (by simp [kd])⟩, hY.plan hi8 hz, hdB, hcB, hrw, hinj, hxr, hct⟩
theorem DeskA.uses {g : Gm} {M : Mem} {dk : Nat} {la ta : Nat} {th mk dn : Nat → Nat} {al pt : Nat} {pa ca ka ra : Nat → Nat} {fa va : Nat} {ua sa xa na : Nat} {tA : Nat → Nat} {li xr : Nat} {fy f0 f1 f2 f3 ja jb : Nat} {lo hi pl ph : Nat → Int64} {cn lk : Nat → Nat → Int32} {bc bs : Bool} {vf : Nat → Int32} {cv mv : Int32} {xf : Nat → Int32} {ga gb : Nat → Int64} {nT : Nat} {m : Nat → Nat → Nat} {dB : Nat → Nat → Bool} {nP : Nat} {pf : Nat → Nat → Nat} {cB : Nat → Nat → Bool} {nS : Nat} {sg : Nat → Int32} {ln : Nat → Nat} {tx : Nat → Nat → Int32} {fl : Nat → Nat → Nat} (hD : DeskA g M dk la ta th mk dn al pt pa ca ka ra fa va ua sa xa na tA li xr fy f0 f1 f2 f3 ja jb lo hi pl ph cn lk bc bs vf cv mv xf ga gb nT m dB nP pf cB nS sg ln tx fl) {N : Mem} {nS' : Nat} {sg' : Nat → Int32} {ln' : Nat → Nat} {tx' : Nat → Nat → Int32} (hN : UseW g N ua sa xa na tA nS' sg' ln' tx') (K : ∀ {ks : List Nat}, (8 ∉ ks ∧ 140 ∉ ks ∧ 105 ∉ ks) → Keep M N ks) : DeskA g N dk la ta th mk dn al pt pa ca ka ra fa va ua sa xa na tA li xr fy f0 f1 f2 f3 ja jb lo hi pl ph cn lk bc bs vf cv mv xf ga gb nT m dB nP pf cB nS' sg' ln' tx' fl := by
  obtain ⟨hD1, hL, hA, ⟨hF, hV⟩, hU, ⟨hI, hX⟩, hY, hdB, hcB, hrw, hinj, hxr, hct⟩ := id hD
  exact ⟨K (ks := [9]) (by decide) _ _ hD1 (by simp [kd]), hL.keep (K (by decide)), hA.keep (K (by decide)), ⟨K (ks := [1, 109]) (by decide) _ _ hF (by simp [kd]), K (ks := [1, 109]) (by decide) _ _ hV (by simp [kd])⟩, hN, ⟨K (ks := [4]) (by decide) _ _ hI (by simp [kd]), K (ks := [196]) (by decide) _ _ hX (by simp [kd])⟩, hY.keep (K (by decide)), hdB, hcB, hrw, hinj, hxr, hct⟩

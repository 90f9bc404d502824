/-! Both sides over one state. -/
def nThing (nT : Nat) (m : Nat → Nat → Nat) (dB : Nat → Nat → Bool) (nP : Nat) (pf : Nat → Nat → Nat) (cB : Nat → Nat → Bool) (nS : Nat) (sg : Nat → Int32) (ln : Nat → Nat) (tx : Nat → Nat → Int32) (fl : Nat → Nat → Nat) (xx yy aa bb hh kk ss tt : Int32) : St := if okT xx yy aa bb hh kk ss tt = true ∧ nT < 12 then (nT + 1, fun i => if i = nT then nw xx.toNatClampNeg yy.toNatClampNeg aa.toNatClampNeg bb.toNatClampNeg hh.toNatClampNeg kk.toNatClampNeg ss.toNatClampNeg tt.toNatClampNeg else m i, fun i => if i = nT then fun _ => false else dB i, nP, pf, cB, nS, sg, ln, tx, fl) else (nT, m, dB, nP, pf, cB, nS, sg, ln, tx, fl)
def nPicture (nT : Nat) (m : Nat → Nat → Nat) (dB : Nat → Nat → Bool) (nP : Nat) (pf : Nat → Nat → Nat) (cB : Nat → Nat → Bool) (nS : Nat) (sg : Nat → Int32) (ln : Nat → Nat) (tx : Nat → Nat → Int32) (fl : Nat → Nat → Nat) (aa bb dd ss ee : Int32) : St := if okPc aa bb dd ss ee = true ∧ nP < 10 then (nT, m, dB, nP + 1, fun i => if i = nP then np aa.toNatClampNeg bb.toNatClampNeg dd.toNatClampNeg ss.toNatClampNeg ee.toNatClampNeg else pf i, fun i => if i = nP then fun _ => false else cB i, nS, sg, ln, tx, fl) else (nT, m, dB, nP, pf, cB, nS, sg, ln, tx, fl)
def nSay (nT : Nat) (m : Nat → Nat → Nat) (dB : Nat → Nat → Bool) (nP : Nat) (pf : Nat → Nat → Nat) (cB : Nat → Nat → Bool) (nS : Nat) (sg : Nat → Int32) (ln : Nat → Nat) (tx : Nat → Nat → Int32) (fl : Nat → Nat → Nat) (x : Int32) : St := if qin x 33 126 = true ∧ nS < 40 then (nT, m, dB, nP, pf, cB, nS + 1, upd sg nS x, ln, tx, fl) else (nT, m, dB, nP, pf, cB, nS, sg, ln, tx, fl)
def nUse (nT : Nat) (m : Nat → Nat → Nat) (dB : Nat → Nat → Bool) (nP : Nat) (pf : Nat → Nat → Nat) (cB : Nat → Nat → Bool) (nS : Nat) (sg : Nat → Int32) (ln : Nat → Nat) (tx : Nat → Nat → Int32) (fl : Nat → Nat → Nat) (u : Int32) : St := match okUse nS sg u with
  | none => (nT, m, dB, nP, pf, cB, nS, sg, ln, tx, fl)
  | some k => (nT, m, dB, nP, pf, cB, 0, sg, fun v => if v = k then nS else ln v, fun v => if v = k then sg else tx v, fl)
theorem fitI_congr {nT : Nat} {m : Nat → Nat → Nat} {nP : Nat} {pf : Nat → Nat → Nat} {cB : Nat → Nat → Bool} {ln : Nat → Nat} {tx ty : Nat → Nat → Int32} (hx : ∀ u, u < 5 → ∀ k, k < ln u → ty u k = tx u k) {u i d : Nat} (hu : u < 5) : fitI nT m nP pf cB ln ty u i d = fitI nT m nP pf cB ln tx u i d := jud_congr (fun k hk => hx u hu k hk)
theorem useI_lt {ln : Nat → Nat} {x : Int32} {k : Nat} (h : useI ln x = some k) : k < 5 := by
  rcases use_cases ln x with ⟨j, hj, -, -, h2⟩ | h2
  · rw [h2] at h; cases h; exact hj
  · rw [h2] at h; cases h
theorem aFit_congr {nT : Nat} {m : Nat → Nat → Nat} {nP : Nat} {pf : Nat → Nat → Nat} {cB : Nat → Nat → Bool} {ln : Nat → Nat} {tx ty : Nat → Nat → Int32} (hx : ∀ u, u < 5 → ∀ k, k < ln u → ty u k = tx u k) (u t d : Int32) : aFit nT m nP pf cB ln ty u t d = aFit nT m nP pf cB ln tx u t d := by
  unfold aFit
  cases hu : useI ln u with
  | none => rfl
  | some k =>
    cases idx nT t with
    | none => rfl
    | some i => simp only [fitI_congr hx (useI_lt hu)]
theorem aCould_congr {nT : Nat} {m : Nat → Nat → Nat} {nP : Nat} {pf : Nat → Nat → Nat} {cB : Nat → Nat → Bool} {ln : Nat → Nat} {tx ty : Nat → Nat → Int32} (hx : ∀ u, u < 5 → ∀ k, k < ln u → ty u k = tx u k) (u t : Int32) : aCould nT m nP pf cB ln ty u t = aCould nT m nP pf cB ln tx u t := by
  unfold aCould
  cases hu : useI ln u with
  | none => rfl
  | some k =>
    cases idx nT t with
    | none => rfl
    | some i => simp only [fitI_congr hx (useI_lt hu)]
theorem aAll_congr {nT : Nat} {m : Nat → Nat → Nat} {nP : Nat} {pf : Nat → Nat → Nat} {cB : Nat → Nat → Bool} {ln : Nat → Nat} {tx ty : Nat → Nat → Int32} (hx : ∀ u, u < 5 → ∀ k, k < ln u → ty u k = tx u k) (u d z : Int32) : aAll nT m nP pf cB ln ty u d z = aAll nT m nP pf cB ln tx u d z := by
  unfold aAll
  cases hu : useI ln u with
  | none => rfl
  | some k => simp only [fitI_congr hx (useI_lt hu)]
theorem w_X9_thing (l : Launch) (g : Gm) (M : Mem) (dk : Nat) (nT : Nat) (m : Nat → Nat → Nat) (dB : Nat → Nat → Bool) (nP : Nat) (pf : Nat → Nat → Nat) (cB : Nat → Nat → Bool) (nS : Nat) (sg : Nat → Int32) (ln : Nat → Nat) (tx : Nat → Nat → Int32) (fl : Nat → Nat → Nat) (h : DeskS g M dk (nT, m, dB, nP, pf, cB, nS, sg, ln, tx, fl)) (xx yy aa bb hh kk ss tt : Int32) : Ct l g yX9_thing cX9_thing 11 (some .int) 8 3 16 [.ref dk, .int xx, .int yy, .int aa, .int bb, .int hh, .int kk, .int ss, .int tt] M (fun v N => v = some (.int (aThing nT xx yy aa bb hh kk ss tt)) ∧ DeskS g N dk (nThing nT m dB nP pf cB nS sg ln tx fl xx yy aa bb hh kk ss tt)) := by
  obtain ⟨ty, hx, la, ta, th, mk, dn, al, pt, pa, ca, ka, ra, fa, va, ua, sa, xa, na, tA, li, xr, fy, f0, f1, f2, f3, ja, jb, lo, hi, pl, ph, cn, lk, bc, bs, vf, cv, mv, xf, ga, gb, hD⟩ := h
  refine (c_X9_thing l g M dk la ta th mk dn al pt pa ca ka ra fa va ua sa xa na tA li xr fy f0 f1 f2 f3 ja jb lo hi pl ph cn lk bc bs vf cv mv xf ga gb nT m dB nP pf cB nS sg ln ty fl hD xx yy aa bb hh kk ss tt).imp ?_
  intro v N q
  refine ⟨q.1, ?_⟩
  have q2 := q.2
  unfold nThing
  split
  · next c => rw [if_pos c] at q2; exact ⟨ty, hx, q2⟩
  · next c => rw [if_neg c] at q2; exact ⟨ty, hx, q2⟩
theorem w_X10_thing (l : Launch) (g : Gm) (M : Mem) (md : Nat) (nT : Nat) (m : Nat → Nat → Nat) (dB : Nat → Nat → Bool) (nP : Nat) (pf : Nat → Nat → Nat) (cB : Nat → Nat → Bool) (nS : Nat) (sg : Nat → Int32) (ln : Nat → Nat) (tx : Nat → Nat → Int32) (fl : Nat → Nat → Nat) (h : ModS g M md (nT, m, dB, nP, pf, cB, nS, sg, ln, tx, fl)) (xx yy aa bb hh kk ss tt : Int32) : Ct l g yX10_thing cX10_thing 11 (some .int) 9 0 0 [.ref md, .int xx, .int yy, .int aa, .int bb, .int hh, .int kk, .int ss, .int tt] M (fun v N => v = some (.int (aThing nT xx yy aa bb hh kk ss tt)) ∧ ModS g N md (nThing nT m dB nP pf cB nS sg ln tx fl xx yy aa bb hh kk ss tt)) := by
  obtain ⟨t1, t2, t3, t4, t5, t6, t7, t8, fT, fD, fP, fC, fS, fU, fX, fF, mo, hM⟩ := h
  refine (c_X10_thing l g M md t1 t2 t3 t4 t5 t6 t7 t8 fT fD fP fC fS fU fX fF mo nT m dB nP pf cB nS sg ln tx fl hM xx yy aa bb hh kk ss tt).imp ?_
  intro v N q
  refine ⟨q.1, ?_⟩
  have q2 := q.2
  unfold nThing
  split
  · next c => rw [if_pos c] at q2; exact q2
  · next c => rw [if_neg c] at q2; exact q2
theorem w_X9_of (l : Launch) (g : Gm) (M : Mem) (dk : Nat) (nT : Nat) (m : Nat → Nat → Nat) (dB : Nat → Nat → Bool) (nP : Nat) (pf : Nat → Nat → Nat) (cB : Nat → Nat → Bool) (nS : Nat) (sg : Nat → Int32) (ln : Nat → Nat) (tx : Nat → Nat → Int32) (fl : Nat → Nat → Nat) (h : DeskS g M dk (nT, m, dB, nP, pf, cB, nS, sg, ln, tx, fl)) (t w : Int32) : Ct l g yX9_of cX9_of 4 (some .int) 8 0 0 [.ref dk, .int t, .int w] M (fun v N => v = some (.int (aOf nT m t w)) ∧ DeskS g N dk (nT, m, dB, nP, pf, cB, nS, sg, ln, tx, fl)) := by
  obtain ⟨ty, hx, la, ta, th, mk, dn, al, pt, pa, ca, ka, ra, fa, va, ua, sa, xa, na, tA, li, xr, fy, f0, f1, f2, f3, ja, jb, lo, hi, pl, ph, cn, lk, bc, bs, vf, cv, mv, xf, ga, gb, hD⟩ := h
  refine (c_X9_of l g M dk la ta th mk dn al pt pa ca ka ra fa va ua sa xa na tA li xr fy f0 f1 f2 f3 ja jb lo hi pl ph cn lk bc bs vf cv mv xf ga gb nT m dB nP pf cB nS sg ln ty fl hD t w).imp ?_
  intro v N q
  exact ⟨q.1, ty, hx, by rw [q.2]; exact hD.W⟩
theorem w_X10_of (l : Launch) (g : Gm) (M : Mem) (md : Nat) (nT : Nat) (m : Nat → Nat → Nat) (dB : Nat → Nat → Bool) (nP : Nat) (pf : Nat → Nat → Nat) (cB : Nat → Nat → Bool) (nS : Nat) (sg : Nat → Int32) (ln : Nat → Nat) (tx : Nat → Nat → Int32) (fl : Nat → Nat → Nat) (h : ModS g M md (nT, m, dB, nP, pf, cB, nS, sg, ln, tx, fl)) (t w : Int32) : Ct l g yX10_of cX10_of 3 (some .int) 9 0 0 [.ref md, .int t, .int w] M (fun v N => v = some (.int (aOf nT m t w)) ∧ ModS g N md (nT, m, dB, nP, pf, cB, nS, sg, ln, tx, fl)) := by
  obtain ⟨t1, t2, t3, t4, t5, t6, t7, t8, fT, fD, fP, fC, fS, fU, fX, fF, mo, hM⟩ := h
  refine (c_X10_of l g M md t1 t2 t3 t4 t5 t6 t7 t8 fT fD fP fC fS fU fX fF mo nT m dB nP pf cB nS sg ln tx fl hM t w).imp ?_
  intro v N q
  exact ⟨q.1, by rw [q.2]; exact hM.W⟩
theorem w_X9_set (l : Launch) (g : Gm) (M : Mem) (dk : Nat) (nT : Nat) (m : Nat → Nat → Nat) (dB : Nat → Nat → Bool) (nP : Nat) (pf : Nat → Nat → Nat) (cB : Nat → Nat → Bool) (nS : Nat) (sg : Nat → Int32) (ln : Nat → Nat) (tx : Nat → Nat → Int32) (fl : Nat → Nat → Nat) (h : DeskS g M dk (nT, m, dB, nP, pf, cB, nS, sg, ln, tx, fl)) (t ww vv : Int32) : Ct l g yX9_set cX9_set 6 (some .int) 8 0 0 [.ref dk, .int t, .int ww, .int vv] M (fun v N => v = some (.int (aSet nT m t ww vv)) ∧ DeskS g N dk (nT, sSet nT m t ww vv, dB, nP, pf, cB, nS, sg, ln, tx, fl)) := by
  obtain ⟨ty, hx, la, ta, th, mk, dn, al, pt, pa, ca, ka, ra, fa, va, ua, sa, xa, na, tA, li, xr, fy, f0, f1, f2, f3, ja, jb, lo, hi, pl, ph, cn, lk, bc, bs, vf, cv, mv, xf, ga, gb, hD⟩ := h
  refine (c_X9_set l g M dk la ta th mk dn al pt pa ca ka ra fa va ua sa xa na tA li xr fy f0 f1 f2 f3 ja jb lo hi pl ph cn lk bc bs vf cv mv xf ga gb nT m dB nP pf cB nS sg ln ty fl hD t ww vv).imp ?_
  intro v N q
  exact ⟨q.1, ty, hx, q.2⟩
theorem w_X10_set (l : Launch) (g : Gm) (M : Mem) (md : Nat) (nT : Nat) (m : Nat → Nat → Nat) (dB : Nat → Nat → Bool) (nP : Nat) (pf : Nat → Nat → Nat) (cB : Nat → Nat → Bool) (nS : Nat) (sg : Nat → Int32) (ln : Nat → Nat) (tx : Nat → Nat → Int32) (fl : Nat → Nat → Nat) (h : ModS g M md (nT, m, dB, nP, pf, cB, nS, sg, ln, tx, fl)) (t ww vv : Int32) : Ct l g yX10_set cX10_set 5 (some .int) 9 0 0 [.ref md, .int t, .int ww, .int vv] M (fun v N => v = some (.int (aSet nT m t ww vv)) ∧ ModS g N md (nT, sSet nT m t ww vv, dB, nP, pf, cB, nS, sg, ln, tx, fl)) := by
  obtain ⟨t1, t2, t3, t4, t5, t6, t7, t8, fT, fD, fP, fC, fS, fU, fX, fF, mo, hM⟩ := h
  refine (c_X10_set l g M md t1 t2 t3 t4 t5 t6 t7 t8 fT fD fP fC fS fU fX fF mo nT m dB nP pf cB nS sg ln tx fl hM t ww vv).imp ?_
  intro v N q
  exact ⟨q.1, q.2⟩
theorem w_X9_at (l : Launch) (g : Gm) (M : Mem) (dk : Nat) (nT : Nat) (m : Nat → Nat → Nat) (dB : Nat → Nat → Bool) (nP : Nat) (pf : Nat → Nat → Nat) (cB : Nat → Nat → Bool) (nS : Nat) (sg : Nat → Int32) (ln : Nat → Nat) (tx : Nat → Nat → Int32) (fl : Nat → Nat → Nat) (h : DeskS g M dk (nT, m, dB, nP, pf, cB, nS, sg, ln, tx, fl)) (c d : Int32) : Ct l g yX9_at cX9_at 3 (some .int) 8 0 0 [.ref dk, .int c, .int d] M (fun v N => v = some (.int (aAt nT m c d)) ∧ DeskS g N dk (nT, m, dB, nP, pf, cB, nS, sg, ln, tx, fl)) := by
  obtain ⟨ty, hx, la, ta, th, mk, dn, al, pt, pa, ca, ka, ra, fa, va, ua, sa, xa, na, tA, li, xr, fy, f0, f1, f2, f3, ja, jb, lo, hi, pl, ph, cn, lk, bc, bs, vf, cv, mv, xf, ga, gb, hD⟩ := h
  refine (c_X9_at l g M dk la ta th mk dn al pt pa ca ka ra fa va ua sa xa na tA li xr fy f0 f1 f2 f3 ja jb lo hi pl ph cn lk bc bs vf cv mv xf ga gb nT m dB nP pf cB nS sg ln ty fl hD c d).imp ?_
  intro v N q
  exact ⟨q.1, ty, hx, by rw [q.2]; exact hD.W⟩
theorem w_X10_at (l : Launch) (g : Gm) (M : Mem) (md : Nat) (nT : Nat) (m : Nat → Nat → Nat) (dB : Nat → Nat → Bool) (nP : Nat) (pf : Nat → Nat → Nat) (cB : Nat → Nat → Bool) (nS : Nat) (sg : Nat → Int32) (ln : Nat → Nat) (tx : Nat → Nat → Int32) (fl : Nat → Nat → Nat) (h : ModS g M md (nT, m, dB, nP, pf, cB, nS, sg, ln, tx, fl)) (c d : Int32) : Ct l g yX10_at cX10_at 3 (some .int) 9 0 0 [.ref md, .int c, .int d] M (fun v N => v = some (.int (aAt nT m c d)) ∧ ModS g N md (nT, m, dB, nP, pf, cB, nS, sg, ln, tx, fl)) := by
  obtain ⟨t1, t2, t3, t4, t5, t6, t7, t8, fT, fD, fP, fC, fS, fU, fX, fF, mo, hM⟩ := h
  refine (c_X10_at l g M md t1 t2 t3 t4 t5 t6 t7 t8 fT fD fP fC fS fU fX fF mo nT m dB nP pf cB nS sg ln tx fl hM c d).imp ?_
  intro v N q
  exact ⟨q.1, by rw [q.2]; exact hM.W⟩
theorem w_X9_picture (l : Launch) (g : Gm) (M : Mem) (dk : Nat) (nT : Nat) (m : Nat → Nat → Nat) (dB : Nat → Nat → Bool) (nP : Nat) (pf : Nat → Nat → Nat) (cB : Nat → Nat → Bool) (nS : Nat) (sg : Nat → Int32) (ln : Nat → Nat) (tx : Nat → Nat → Int32) (fl : Nat → Nat → Nat) (h : DeskS g M dk (nT, m, dB, nP, pf, cB, nS, sg, ln, tx, fl)) (aa bb dd ss ee : Int32) : Ct l g yX9_picture cX9_picture 7 (some .int) 8 4 202 [.ref dk, .int aa, .int bb, .int dd, .int ss, .int ee] M (fun v N => v = some (.int (aPicture nP aa bb dd ss ee)) ∧ DeskS g N dk (nPicture nT m dB nP pf cB nS sg ln tx fl aa bb dd ss ee)) := by
  obtain ⟨ty, hx, la, ta, th, mk, dn, al, pt, pa, ca, ka, ra, fa, va, ua, sa, xa, na, tA, li, xr, fy, f0, f1, f2, f3, ja, jb, lo, hi, pl, ph, cn, lk, bc, bs, vf, cv, mv, xf, ga, gb, hD⟩ := h
  refine (c_X9_picture l g M dk la ta th mk dn al pt pa ca ka ra fa va ua sa xa na tA li xr fy f0 f1 f2 f3 ja jb lo hi pl ph cn lk bc bs vf cv mv xf ga gb nT m dB nP pf cB nS sg ln ty fl hD aa bb dd ss ee).imp ?_
  intro v N q
  refine ⟨q.1, ?_⟩
  have q2 := q.2
  unfold nPicture
  split
  · next c => rw [if_pos c] at q2; exact ⟨ty, hx, q2⟩
  · next c => rw [if_neg c] at q2; exact ⟨ty, hx, q2⟩
theorem w_X10_picture (l : Launch) (g : Gm) (M : Mem) (md : Nat) (nT : Nat) (m : Nat → Nat → Nat) (dB : Nat → Nat → Bool) (nP : Nat) (pf : Nat → Nat → Nat) (cB : Nat → Nat → Bool) (nS : Nat) (sg : Nat → Int32) (ln : Nat → Nat) (tx : Nat → Nat → Int32) (fl : Nat → Nat → Nat) (h : ModS g M md (nT, m, dB, nP, pf, cB, nS, sg, ln, tx, fl)) (aa bb dd ss ee : Int32) : Ct l g yX10_picture cX10_picture 7 (some .int) 9 0 0 [.ref md, .int aa, .int bb, .int dd, .int ss, .int ee] M (fun v N => v = some (.int (aPicture nP aa bb dd ss ee)) ∧ ModS g N md (nPicture nT m dB nP pf cB nS sg ln tx fl aa bb dd ss ee)) := by
  obtain ⟨t1, t2, t3, t4, t5, t6, t7, t8, fT, fD, fP, fC, fS, fU, fX, fF, mo, hM⟩ := h
  refine (c_X10_picture l g M md t1 t2 t3 t4 t5 t6 t7 t8 fT fD fP fC fS fU fX fF mo nT m dB nP pf cB nS sg ln tx fl hM aa bb dd ss ee).imp ?_
  intro v N q
  refine ⟨q.1, ?_⟩
  have q2 := q.2
  unfold nPicture
  split
  · next c => rw [if_pos c] at q2; exact q2
  · next c => rw [if_neg c] at q2; exact q2
theorem w_X9_cloud (l : Launch) (g : Gm) (M : Mem) (dk : Nat) (nT : Nat) (m : Nat → Nat → Nat) (dB : Nat → Nat → Bool) (nP : Nat) (pf : Nat → Nat → Nat) (cB : Nat → Nat → Bool) (nS : Nat) (sg : Nat → Int32) (ln : Nat → Nat) (tx : Nat → Nat → Int32) (fl : Nat → Nat → Nat) (h : DeskS g M dk (nT, m, dB, nP, pf, cB, nS, sg, ln, tx, fl)) (p c : Int32) (b : Bool) : Ct l g yX9_cloud cX9_cloud 5 (some .int) 8 0 0 [.ref dk, .int p, .int c, .int (bI b)] M (fun v N => v = some (.int (aCloud nP cB p c)) ∧ DeskS g N dk (nT, m, dB, nP, pf, sCloud nP cB p c b, nS, sg, ln, tx, fl)) := by
  obtain ⟨ty, hx, la, ta, th, mk, dn, al, pt, pa, ca, ka, ra, fa, va, ua, sa, xa, na, tA, li, xr, fy, f0, f1, f2, f3, ja, jb, lo, hi, pl, ph, cn, lk, bc, bs, vf, cv, mv, xf, ga, gb, hD⟩ := h
  refine (c_X9_cloud l g M dk la ta th mk dn al pt pa ca ka ra fa va ua sa xa na tA li xr fy f0 f1 f2 f3 ja jb lo hi pl ph cn lk bc bs vf cv mv xf ga gb nT m dB nP pf cB nS sg ln ty fl hD p c b).imp ?_
  intro v N q
  exact ⟨q.1, ty, hx, q.2⟩
theorem w_X10_cloud (l : Launch) (g : Gm) (M : Mem) (md : Nat) (nT : Nat) (m : Nat → Nat → Nat) (dB : Nat → Nat → Bool) (nP : Nat) (pf : Nat → Nat → Nat) (cB : Nat → Nat → Bool) (nS : Nat) (sg : Nat → Int32) (ln : Nat → Nat) (tx : Nat → Nat → Int32) (fl : Nat → Nat → Nat) (h : ModS g M md (nT, m, dB, nP, pf, cB, nS, sg, ln, tx, fl)) (p c : Int32) (b : Bool) : Ct l g yX10_cloud cX10_cloud 5 (some .int) 9 0 0 [.ref md, .int p, .int c, .int (bI b)] M (fun v N => v = some (.int (aCloud nP cB p c)) ∧ ModS g N md (nT, m, dB, nP, pf, sCloud nP cB p c b, nS, sg, ln, tx, fl)) := by
  obtain ⟨t1, t2, t3, t4, t5, t6, t7, t8, fT, fD, fP, fC, fS, fU, fX, fF, mo, hM⟩ := h
  refine (c_X10_cloud l g M md t1 t2 t3 t4 t5 t6 t7 t8 fT fD fP fC fS fU fX fF mo nT m dB nP pf cB nS sg ln tx fl hM p c b).imp ?_
  intro v N q
  exact ⟨q.1, q.2⟩
theorem w_X9_shows (l : Launch) (g : Gm) (M : Mem) (dk : Nat) (nT : Nat) (m : Nat → Nat → Nat) (dB : Nat → Nat → Bool) (nP : Nat) (pf : Nat → Nat → Nat) (cB : Nat → Nat → Bool) (nS : Nat) (sg : Nat → Int32) (ln : Nat → Nat) (tx : Nat → Nat → Int32) (fl : Nat → Nat → Nat) (h : DeskS g M dk (nT, m, dB, nP, pf, cB, nS, sg, ln, tx, fl)) (p c : Int32) : Ct l g yX9_shows cX9_shows 4 (some .int) 8 0 0 [.ref dk, .int p, .int c] M (fun v N => v = some (.int (aShows nT m nP pf cB p c)) ∧ DeskS g N dk (nT, m, dB, nP, pf, cB, nS, sg, ln, tx, fl)) := by
  obtain ⟨ty, hx, la, ta, th, mk, dn, al, pt, pa, ca, ka, ra, fa, va, ua, sa, xa, na, tA, li, xr, fy, f0, f1, f2, f3, ja, jb, lo, hi, pl, ph, cn, lk, bc, bs, vf, cv, mv, xf, ga, gb, hD⟩ := h
  refine (c_X9_shows l g M dk la ta th mk dn al pt pa ca ka ra fa va ua sa xa na tA li xr fy f0 f1 f2 f3 ja jb lo hi pl ph cn lk bc bs vf cv mv xf ga gb nT m dB nP pf cB nS sg ln ty fl hD p c).imp ?_
  intro v N q
  exact ⟨q.1, ty, hx, by rw [q.2]; exact hD.W⟩
theorem w_X10_shows (l : Launch) (g : Gm) (M : Mem) (md : Nat) (nT : Nat) (m : Nat → Nat → Nat) (dB : Nat → Nat → Bool) (nP : Nat) (pf : Nat → Nat → Nat) (cB : Nat → Nat → Bool) (nS : Nat) (sg : Nat → Int32) (ln : Nat → Nat) (tx : Nat → Nat → Int32) (fl : Nat → Nat → Nat) (h : ModS g M md (nT, m, dB, nP, pf, cB, nS, sg, ln, tx, fl)) (p c : Int32) : Ct l g yX10_shows cX10_shows 3 (some .int) 9 0 0 [.ref md, .int p, .int c] M (fun v N => v = some (.int (aShows nT m nP pf cB p c)) ∧ ModS g N md (nT, m, dB, nP, pf, cB, nS, sg, ln, tx, fl)) := by
  obtain ⟨t1, t2, t3, t4, t5, t6, t7, t8, fT, fD, fP, fC, fS, fU, fX, fF, mo, hM⟩ := h
  refine (c_X10_shows l g M md t1 t2 t3 t4 t5 t6 t7 t8 fT fD fP fC fS fU fX fF mo nT m dB nP pf cB nS sg ln tx fl hM p c).imp ?_
  intro v N q
  exact ⟨q.1, by rw [q.2]; exact hM.W⟩
theorem w_X9_count (l : Launch) (g : Gm) (M : Mem) (dk : Nat) (nT : Nat) (m : Nat → Nat → Nat) (dB : Nat → Nat → Bool) (nP : Nat) (pf : Nat → Nat → Nat) (cB : Nat → Nat → Bool) (nS : Nat) (sg : Nat → Int32) (ln : Nat → Nat) (tx : Nat → Nat → Int32) (fl : Nat → Nat → Nat) (h : DeskS g M dk (nT, m, dB, nP, pf, cB, nS, sg, ln, tx, fl)) (p z : Int32) : Ct l g yX9_count cX9_count 4 (some .int) 8 0 0 [.ref dk, .int p, .int z] M (fun v N => v = some (.int (aCount nT m nP pf cB p z)) ∧ DeskS g N dk (nT, m, dB, nP, pf, cB, nS, sg, ln, tx, fl)) := by
  obtain ⟨ty, hx, la, ta, th, mk, dn, al, pt, pa, ca, ka, ra, fa, va, ua, sa, xa, na, tA, li, xr, fy, f0, f1, f2, f3, ja, jb, lo, hi, pl, ph, cn, lk, bc, bs, vf, cv, mv, xf, ga, gb, hD⟩ := h
  refine (c_X9_count l g M dk la ta th mk dn al pt pa ca ka ra fa va ua sa xa na tA li xr fy f0 f1 f2 f3 ja jb lo hi pl ph cn lk bc bs vf cv mv xf ga gb nT m dB nP pf cB nS sg ln ty fl hD p z).imp ?_
  intro v N q
  exact ⟨q.1, ty, hx, by rw [q.2]; exact hD.W⟩
theorem w_X10_count (l : Launch) (g : Gm) (M : Mem) (md : Nat) (nT : Nat) (m : Nat → Nat → Nat) (dB : Nat → Nat → Bool) (nP : Nat) (pf : Nat → Nat → Nat) (cB : Nat → Nat → Bool) (nS : Nat) (sg : Nat → Int32) (ln : Nat → Nat) (tx : Nat → Nat → Int32) (fl : Nat → Nat → Nat) (h : ModS g M md (nT, m, dB, nP, pf, cB, nS, sg, ln, tx, fl)) (p z : Int32) : Ct l g yX10_count cX10_count 7 (some .int) 9 0 0 [.ref md, .int p, .int z] M (fun v N => v = some (.int (aCount nT m nP pf cB p z)) ∧ ModS g N md (nT, m, dB, nP, pf, cB, nS, sg, ln, tx, fl)) := by
  obtain ⟨t1, t2, t3, t4, t5, t6, t7, t8, fT, fD, fP, fC, fS, fU, fX, fF, mo, hM⟩ := h
  refine (c_X10_count l g M md t1 t2 t3 t4 t5 t6 t7 t8 fT fD fP fC fS fU fX fF mo nT m dB nP pf cB nS sg ln tx fl hM p z).imp ?_
  intro v N q
  exact ⟨q.1, by rw [q.2]; exact hM.W⟩
theorem w_X9_span (l : Launch) (g : Gm) (M : Mem) (dk : Nat) (nT : Nat) (m : Nat → Nat → Nat) (dB : Nat → Nat → Bool) (nP : Nat) (pf : Nat → Nat → Nat) (cB : Nat → Nat → Bool) (nS : Nat) (sg : Nat → Int32) (ln : Nat → Nat) (tx : Nat → Nat → Int32) (fl : Nat → Nat → Nat) (h : DeskS g M dk (nT, m, dB, nP, pf, cB, nS, sg, ln, tx, fl)) (p z e : Int32) : Ct l g yX9_span cX9_span 5 (some .int) 8 0 0 [.ref dk, .int p, .int z, .int e] M (fun v N => v = some (.int (aSpan nP pf p z e)) ∧ DeskS g N dk (nT, m, dB, nP, pf, cB, nS, sg, ln, tx, fl)) := by
  obtain ⟨ty, hx, la, ta, th, mk, dn, al, pt, pa, ca, ka, ra, fa, va, ua, sa, xa, na, tA, li, xr, fy, f0, f1, f2, f3, ja, jb, lo, hi, pl, ph, cn, lk, bc, bs, vf, cv, mv, xf, ga, gb, hD⟩ := h
  refine (c_X9_span l g M dk la ta th mk dn al pt pa ca ka ra fa va ua sa xa na tA li xr fy f0 f1 f2 f3 ja jb lo hi pl ph cn lk bc bs vf cv mv xf ga gb nT m dB nP pf cB nS sg ln ty fl hD p z e).imp ?_
  intro v N q
  exact ⟨q.1, ty, hx, by rw [q.2]; exact hD.W⟩
theorem w_X10_span (l : Launch) (g : Gm) (M : Mem) (md : Nat) (nT : Nat) (m : Nat → Nat → Nat) (dB : Nat → Nat → Bool) (nP : Nat) (pf : Nat → Nat → Nat) (cB : Nat → Nat → Bool) (nS : Nat) (sg : Nat → Int32) (ln : Nat → Nat) (tx : Nat → Nat → Int32) (fl : Nat → Nat → Nat) (h : ModS g M md (nT, m, dB, nP, pf, cB, nS, sg, ln, tx, fl)) (p z e : Int32) : Ct l g yX10_span cX10_span 7 (some .int) 9 0 0 [.ref md, .int p, .int z, .int e] M (fun v N => v = some (.int (aSpan nP pf p z e)) ∧ ModS g N md (nT, m, dB, nP, pf, cB, nS, sg, ln, tx, fl)) := by
  obtain ⟨t1, t2, t3, t4, t5, t6, t7, t8, fT, fD, fP, fC, fS, fU, fX, fF, mo, hM⟩ := h
  refine (c_X10_span l g M md t1 t2 t3 t4 t5 t6 t7 t8 fT fD fP fC fS fU fX fF mo nT m dB nP pf cB nS sg ln tx fl hM p z e).imp ?_
  intro v N q
  exact ⟨q.1, by rw [q.2]; exact hM.W⟩
theorem w_X9_changed (l : Launch) (g : Gm) (M : Mem) (dk : Nat) (nT : Nat) (m : Nat → Nat → Nat) (dB : Nat → Nat → Bool) (nP : Nat) (pf : Nat → Nat → Nat) (cB : Nat → Nat → Bool) (nS : Nat) (sg : Nat → Int32) (ln : Nat → Nat) (tx : Nat → Nat → Int32) (fl : Nat → Nat → Nat) (h : DeskS g M dk (nT, m, dB, nP, pf, cB, nS, sg, ln, tx, fl)) (a b z : Int32) : Ct l g yX9_changed cX9_changed 6 (some .int) 8 0 0 [.ref dk, .int a, .int b, .int z] M (fun v N => v = some (.int (aChanged nT m nP pf cB a b z)) ∧ DeskS g N dk (nT, m, dB, nP, pf, cB, nS, sg, ln, tx, fl)) := by
  obtain ⟨ty, hx, la, ta, th, mk, dn, al, pt, pa, ca, ka, ra, fa, va, ua, sa, xa, na, tA, li, xr, fy, f0, f1, f2, f3, ja, jb, lo, hi, pl, ph, cn, lk, bc, bs, vf, cv, mv, xf, ga, gb, hD⟩ := h
  refine (c_X9_changed l g M dk la ta th mk dn al pt pa ca ka ra fa va ua sa xa na tA li xr fy f0 f1 f2 f3 ja jb lo hi pl ph cn lk bc bs vf cv mv xf ga gb nT m dB nP pf cB nS sg ln ty fl hD a b z).imp ?_
  intro v N q
  exact ⟨q.1, ty, hx, by rw [q.2]; exact hD.W⟩
theorem w_X10_changed (l : Launch) (g : Gm) (M : Mem) (md : Nat) (nT : Nat) (m : Nat → Nat → Nat) (dB : Nat → Nat → Bool) (nP : Nat) (pf : Nat → Nat → Nat) (cB : Nat → Nat → Bool) (nS : Nat) (sg : Nat → Int32) (ln : Nat → Nat) (tx : Nat → Nat → Int32) (fl : Nat → Nat → Nat) (h : ModS g M md (nT, m, dB, nP, pf, cB, nS, sg, ln, tx, fl)) (a b z : Int32) : Ct l g yX10_changed cX10_changed 10 (some .int) 9 0 0 [.ref md, .int a, .int b, .int z] M (fun v N => v = some (.int (aChanged nT m nP pf cB a b z)) ∧ ModS g N md (nT, m, dB, nP, pf, cB, nS, sg, ln, tx, fl)) := by
  obtain ⟨t1, t2, t3, t4, t5, t6, t7, t8, fT, fD, fP, fC, fS, fU, fX, fF, mo, hM⟩ := h
  refine (c_X10_changed l g M md t1 t2 t3 t4 t5 t6 t7 t8 fT fD fP fC fS fU fX fF mo nT m dB nP pf cB nS sg ln tx fl hM a b z).imp ?_
  intro v N q
  exact ⟨q.1, by rw [q.2]; exact hM.W⟩
theorem w_X9_say (l : Launch) (g : Gm) (M : Mem) (dk : Nat) (nT : Nat) (m : Nat → Nat → Nat) (dB : Nat → Nat → Bool) (nP : Nat) (pf : Nat → Nat → Nat) (cB : Nat → Nat → Bool) (nS : Nat) (sg : Nat → Int32) (ln : Nat → Nat) (tx : Nat → Nat → Int32) (fl : Nat → Nat → Nat) (h : DeskS g M dk (nT, m, dB, nP, pf, cB, nS, sg, ln, tx, fl)) (x : Int32) : Ct l g yX9_say cX9_say 2 (some .int) 8 0 0 [.ref dk, .int x] M (fun v N => v = some (.int (aSay nS x)) ∧ DeskS g N dk (nSay nT m dB nP pf cB nS sg ln tx fl x)) := by
  obtain ⟨ty, hx, la, ta, th, mk, dn, al, pt, pa, ca, ka, ra, fa, va, ua, sa, xa, na, tA, li, xr, fy, f0, f1, f2, f3, ja, jb, lo, hi, pl, ph, cn, lk, bc, bs, vf, cv, mv, xf, ga, gb, hD⟩ := h
  refine (c_X9_say l g M dk la ta th mk dn al pt pa ca ka ra fa va ua sa xa na tA li xr fy f0 f1 f2 f3 ja jb lo hi pl ph cn lk bc bs vf cv mv xf ga gb nT m dB nP pf cB nS sg ln ty fl hD x).imp ?_
  intro v N q
  refine ⟨q.1, ?_⟩
  have q2 := q.2
  unfold nSay
  split
  · next c => rw [if_pos c] at q2; exact ⟨ty, hx, q2⟩
  · next c => rw [if_neg c] at q2; exact ⟨ty, hx, q2⟩
theorem w_X10_say (l : Launch) (g : Gm) (M : Mem) (md : Nat) (nT : Nat) (m : Nat → Nat → Nat) (dB : Nat → Nat → Bool) (nP : Nat) (pf : Nat → Nat → Nat) (cB : Nat → Nat → Bool) (nS : Nat) (sg : Nat → Int32) (ln : Nat → Nat) (tx : Nat → Nat → Int32) (fl : Nat → Nat → Nat) (h : ModS g M md (nT, m, dB, nP, pf, cB, nS, sg, ln, tx, fl)) (x : Int32) : Ct l g yX10_say cX10_say 2 (some .int) 9 0 0 [.ref md, .int x] M (fun v N => v = some (.int (aSay nS x)) ∧ ModS g N md (nSay nT m dB nP pf cB nS sg ln tx fl x)) := by
  obtain ⟨t1, t2, t3, t4, t5, t6, t7, t8, fT, fD, fP, fC, fS, fU, fX, fF, mo, hM⟩ := h
  refine (c_X10_say l g M md t1 t2 t3 t4 t5 t6 t7 t8 fT fD fP fC fS fU fX fF mo nT m dB nP pf cB nS sg ln tx fl hM x).imp ?_
  intro v N q
  refine ⟨q.1, ?_⟩
  have q2 := q.2
  unfold nSay
  split
  · next c => rw [if_pos c] at q2; exact q2
  · next c => rw [if_neg c] at q2; exact q2
theorem w_X9_wipe (l : Launch) (g : Gm) (M : Mem) (dk : Nat) (nT : Nat) (m : Nat → Nat → Nat) (dB : Nat → Nat → Bool) (nP : Nat) (pf : Nat → Nat → Nat) (cB : Nat → Nat → Bool) (nS : Nat) (sg : Nat → Int32) (ln : Nat → Nat) (tx : Nat → Nat → Int32) (fl : Nat → Nat → Nat) (h : DeskS g M dk (nT, m, dB, nP, pf, cB, nS, sg, ln, tx, fl))  : Ct l g yX9_wipe cX9_wipe 1 (some .int) 8 0 0 [.ref dk] M (fun v N => v = some (.int (nI nS)) ∧ DeskS g N dk (nT, m, dB, nP, pf, cB, 0, sg, ln, tx, fl)) := by
  obtain ⟨ty, hx, la, ta, th, mk, dn, al, pt, pa, ca, ka, ra, fa, va, ua, sa, xa, na, tA, li, xr, fy, f0, f1, f2, f3, ja, jb, lo, hi, pl, ph, cn, lk, bc, bs, vf, cv, mv, xf, ga, gb, hD⟩ := h
  refine (c_X9_wipe l g M dk la ta th mk dn al pt pa ca ka ra fa va ua sa xa na tA li xr fy f0 f1 f2 f3 ja jb lo hi pl ph cn lk bc bs vf cv mv xf ga gb nT m dB nP pf cB nS sg ln ty fl hD ).imp ?_
  intro v N q
  exact ⟨q.1, ty, hx, q.2⟩
theorem w_X10_wipe (l : Launch) (g : Gm) (M : Mem) (md : Nat) (nT : Nat) (m : Nat → Nat → Nat) (dB : Nat → Nat → Bool) (nP : Nat) (pf : Nat → Nat → Nat) (cB : Nat → Nat → Bool) (nS : Nat) (sg : Nat → Int32) (ln : Nat → Nat) (tx : Nat → Nat → Int32) (fl : Nat → Nat → Nat) (h : ModS g M md (nT, m, dB, nP, pf, cB, nS, sg, ln, tx, fl))  : Ct l g yX10_wipe cX10_wipe 2 (some .int) 9 0 0 [.ref md] M (fun v N => v = some (.int (nI nS)) ∧ ModS g N md (nT, m, dB, nP, pf, cB, 0, sg, ln, tx, fl)) := by
  obtain ⟨t1, t2, t3, t4, t5, t6, t7, t8, fT, fD, fP, fC, fS, fU, fX, fF, mo, hM⟩ := h
  refine (c_X10_wipe l g M md t1 t2 t3 t4 t5 t6 t7 t8 fT fD fP fC fS fU fX fF mo nT m dB nP pf cB nS sg ln tx fl hM ).imp ?_
  intro v N q
  exact ⟨q.1, q.2⟩
theorem w_X9_fault (l : Launch) (g : Gm) (M : Mem) (dk : Nat) (nT : Nat) (m : Nat → Nat → Nat) (dB : Nat → Nat → Bool) (nP : Nat) (pf : Nat → Nat → Nat) (cB : Nat → Nat → Bool) (nS : Nat) (sg : Nat → Int32) (ln : Nat → Nat) (tx : Nat → Nat → Int32) (fl : Nat → Nat → Nat) (h : DeskS g M dk (nT, m, dB, nP, pf, cB, nS, sg, ln, tx, fl))  : Ct l g yX9_fault cX9_fault 1 (some .int) 8 0 0 [.ref dk] M (fun v N => v = some (.int (oI (faultN sg nS))) ∧ DeskS g N dk (nT, m, dB, nP, pf, cB, nS, sg, ln, tx, fl)) := by
  obtain ⟨ty, hx, la, ta, th, mk, dn, al, pt, pa, ca, ka, ra, fa, va, ua, sa, xa, na, tA, li, xr, fy, f0, f1, f2, f3, ja, jb, lo, hi, pl, ph, cn, lk, bc, bs, vf, cv, mv, xf, ga, gb, hD⟩ := h
  refine (c_X9_fault l g M dk la ta th mk dn al pt pa ca ka ra fa va ua sa xa na tA li xr fy f0 f1 f2 f3 ja jb lo hi pl ph cn lk bc bs vf cv mv xf ga gb nT m dB nP pf cB nS sg ln ty fl hD ).imp ?_
  intro v N q
  exact ⟨q.1, ty, hx, by rw [q.2]; exact hD.W⟩
theorem w_X10_fault (l : Launch) (g : Gm) (M : Mem) (md : Nat) (nT : Nat) (m : Nat → Nat → Nat) (dB : Nat → Nat → Bool) (nP : Nat) (pf : Nat → Nat → Nat) (cB : Nat → Nat → Bool) (nS : Nat) (sg : Nat → Int32) (ln : Nat → Nat) (tx : Nat → Nat → Int32) (fl : Nat → Nat → Nat) (h : ModS g M md (nT, m, dB, nP, pf, cB, nS, sg, ln, tx, fl))  : Ct l g yX10_fault cX10_fault 1 (some .int) 9 0 0 [.ref md] M (fun v N => v = some (.int (oI (faultN sg nS))) ∧ ModS g N md (nT, m, dB, nP, pf, cB, nS, sg, ln, tx, fl)) := by
  obtain ⟨t1, t2, t3, t4, t5, t6, t7, t8, fT, fD, fP, fC, fS, fU, fX, fF, mo, hM⟩ := h
  refine (c_X10_fault l g M md t1 t2 t3 t4 t5 t6 t7 t8 fT fD fP fC fS fU fX fF mo nT m dB nP pf cB nS sg ln tx fl hM ).imp ?_
  intro v N q
  exact ⟨q.1, by rw [q.2]; exact hM.W⟩
theorem w_X9_use (l : Launch) (g : Gm) (M : Mem) (dk : Nat) (nT : Nat) (m : Nat → Nat → Nat) (dB : Nat → Nat → Bool) (nP : Nat) (pf : Nat → Nat → Nat) (cB : Nat → Nat → Bool) (nS : Nat) (sg : Nat → Int32) (ln : Nat → Nat) (tx : Nat → Nat → Int32) (fl : Nat → Nat → Nat) (h : DeskS g M dk (nT, m, dB, nP, pf, cB, nS, sg, ln, tx, fl)) (u : Int32) : Ct l g yX9_use cX9_use 3 (some .int) 8 0 0 [.ref dk, .int u] M (fun v N => v = some (.int (aUse nS sg ln u)) ∧ DeskS g N dk (nUse nT m dB nP pf cB nS sg ln tx fl u)) := by
  obtain ⟨ty, hx, la, ta, th, mk, dn, al, pt, pa, ca, ka, ra, fa, va, ua, sa, xa, na, tA, li, xr, fy, f0, f1, f2, f3, ja, jb, lo, hi, pl, ph, cn, lk, bc, bs, vf, cv, mv, xf, ga, gb, hD⟩ := h
  refine (c_X9_use l g M dk la ta th mk dn al pt pa ca ka ra fa va ua sa xa na tA li xr fy f0 f1 f2 f3 ja jb lo hi pl ph cn lk bc bs vf cv mv xf ga gb nT m dB nP pf cB nS sg ln ty fl hD u).imp ?_
  intro v N q
  refine ⟨q.1, ?_⟩
  have q2 := q.2
  unfold nUse
  cases ho : okUse nS sg u with
  | none => rw [ho] at q2; exact ⟨ty, hx, q2⟩
  | some k =>
    rw [ho] at q2
    obtain ⟨f, hf, hW⟩ := q2
    refine ⟨_, fun v hv j hj => ?_, hW⟩
    dsimp only at hj ⊢
    by_cases z : v = k
    · rw [if_pos z] at hj ⊢; rw [if_pos z]; exact hf j hj
    · rw [if_neg z] at hj ⊢; rw [if_neg z]; exact hx v hv j hj
theorem w_X10_use (l : Launch) (g : Gm) (M : Mem) (md : Nat) (nT : Nat) (m : Nat → Nat → Nat) (dB : Nat → Nat → Bool) (nP : Nat) (pf : Nat → Nat → Nat) (cB : Nat → Nat → Bool) (nS : Nat) (sg : Nat → Int32) (ln : Nat → Nat) (tx : Nat → Nat → Int32) (fl : Nat → Nat → Nat) (h : ModS g M md (nT, m, dB, nP, pf, cB, nS, sg, ln, tx, fl)) (u : Int32) : Ct l g yX10_use cX10_use 4 (some .int) 9 0 0 [.ref md, .int u] M (fun v N => v = some (.int (aUse nS sg ln u)) ∧ ModS g N md (nUse nT m dB nP pf cB nS sg ln tx fl u)) := by
  obtain ⟨t1, t2, t3, t4, t5, t6, t7, t8, fT, fD, fP, fC, fS, fU, fX, fF, mo, hM⟩ := h
  refine (c_X10_use l g M md t1 t2 t3 t4 t5 t6 t7 t8 fT fD fP fC fS fU fX fF mo nT m dB nP pf cB nS sg ln tx fl hM u).imp ?_
  intro v N q
  refine ⟨q.1, ?_⟩
  have q2 := q.2
  unfold nUse
  cases ho : okUse nS sg u with
  | none => rw [ho] at q2; exact q2
  | some k => rw [ho] at q2; exact q2 sg (fun _ _ => rfl)
theorem w_X9_fact (l : Launch) (g : Gm) (M : Mem) (dk : Nat) (nT : Nat) (m : Nat → Nat → Nat) (dB : Nat → Nat → Bool) (nP : Nat) (pf : Nat → Nat → Nat) (cB : Nat → Nat → Bool) (nS : Nat) (sg : Nat → Int32) (ln : Nat → Nat) (tx : Nat → Nat → Int32) (fl : Nat → Nat → Nat) (h : DeskS g M dk (nT, m, dB, nP, pf, cB, nS, sg, ln, tx, fl)) (t d w : Int32) : Ct l g yX9_fact cX9_fact 5 (some .int) 8 0 0 [.ref dk, .int t, .int d, .int w] M (fun v N => v = some (.int (aFact nT m nP pf cB t d w)) ∧ DeskS g N dk (nT, m, dB, nP, pf, cB, nS, sg, ln, tx, fl)) := by
  obtain ⟨ty, hx, la, ta, th, mk, dn, al, pt, pa, ca, ka, ra, fa, va, ua, sa, xa, na, tA, li, xr, fy, f0, f1, f2, f3, ja, jb, lo, hi, pl, ph, cn, lk, bc, bs, vf, cv, mv, xf, ga, gb, hD⟩ := h
  refine (c_X9_fact l g M dk la ta th mk dn al pt pa ca ka ra fa va ua sa xa na tA li xr fy f0 f1 f2 f3 ja jb lo hi pl ph cn lk bc bs vf cv mv xf ga gb nT m dB nP pf cB nS sg ln ty fl hD t d w).imp ?_
  intro v N q
  exact ⟨q.1, ty, hx, q.2⟩
theorem w_X10_fact (l : Launch) (g : Gm) (M : Mem) (md : Nat) (nT : Nat) (m : Nat → Nat → Nat) (dB : Nat → Nat → Bool) (nP : Nat) (pf : Nat → Nat → Nat) (cB : Nat → Nat → Bool) (nS : Nat) (sg : Nat → Int32) (ln : Nat → Nat) (tx : Nat → Nat → Int32) (fl : Nat → Nat → Nat) (h : ModS g M md (nT, m, dB, nP, pf, cB, nS, sg, ln, tx, fl)) (t d w : Int32) : Ct l g yX10_fact cX10_fact 4 (some .int) 9 0 0 [.ref md, .int t, .int d, .int w] M (fun v N => v = some (.int (aFact nT m nP pf cB t d w)) ∧ ModS g N md (nT, m, dB, nP, pf, cB, nS, sg, ln, tx, fl)) := by
  obtain ⟨t1, t2, t3, t4, t5, t6, t7, t8, fT, fD, fP, fC, fS, fU, fX, fF, mo, hM⟩ := h
  refine (c_X10_fact l g M md t1 t2 t3 t4 t5 t6 t7 t8 fT fD fP fC fS fU fX fF mo nT m dB nP pf cB nS sg ln tx fl hM t d w).imp ?_
  intro v N q
  exact ⟨q.1, by rw [q.2]; exact hM.W⟩
theorem w_X9_fit (l : Launch) (g : Gm) (M : Mem) (dk : Nat) (nT : Nat) (m : Nat → Nat → Nat) (dB : Nat → Nat → Bool) (nP : Nat) (pf : Nat → Nat → Nat) (cB : Nat → Nat → Bool) (nS : Nat) (sg : Nat → Int32) (ln : Nat → Nat) (tx : Nat → Nat → Int32) (fl : Nat → Nat → Nat) (h : DeskS g M dk (nT, m, dB, nP, pf, cB, nS, sg, ln, tx, fl)) (u t d : Int32) : Ct l g yX9_fit cX9_fit 5 (some .int) 8 0 0 [.ref dk, .int u, .int t, .int d] M (fun v N => v = some (.int (aFit nT m nP pf cB ln tx u t d)) ∧ DeskS g N dk (nT, m, dB, nP, pf, cB, nS, sg, ln, tx, fl)) := by
  obtain ⟨ty, hx, la, ta, th, mk, dn, al, pt, pa, ca, ka, ra, fa, va, ua, sa, xa, na, tA, li, xr, fy, f0, f1, f2, f3, ja, jb, lo, hi, pl, ph, cn, lk, bc, bs, vf, cv, mv, xf, ga, gb, hD⟩ := h
  refine (c_X9_fit l g M dk la ta th mk dn al pt pa ca ka ra fa va ua sa xa na tA li xr fy f0 f1 f2 f3 ja jb lo hi pl ph cn lk bc bs vf cv mv xf ga gb nT m dB nP pf cB nS sg ln ty fl hD u t d).imp ?_
  intro v N q
  exact ⟨q.1.trans (by rw [aFit_congr hx]), ty, hx, q.2⟩
theorem w_X10_fit (l : Launch) (g : Gm) (M : Mem) (md : Nat) (nT : Nat) (m : Nat → Nat → Nat) (dB : Nat → Nat → Bool) (nP : Nat) (pf : Nat → Nat → Nat) (cB : Nat → Nat → Bool) (nS : Nat) (sg : Nat → Int32) (ln : Nat → Nat) (tx : Nat → Nat → Int32) (fl : Nat → Nat → Nat) (h : ModS g M md (nT, m, dB, nP, pf, cB, nS, sg, ln, tx, fl)) (u t d : Int32) : Ct l g yX10_fit cX10_fit 4 (some .int) 9 0 0 [.ref md, .int u, .int t, .int d] M (fun v N => v = some (.int (aFit nT m nP pf cB ln tx u t d)) ∧ ModS g N md (nT, m, dB, nP, pf, cB, nS, sg, ln, tx, fl)) := by
  obtain ⟨t1, t2, t3, t4, t5, t6, t7, t8, fT, fD, fP, fC, fS, fU, fX, fF, mo, hM⟩ := h
  refine (c_X10_fit l g M md t1 t2 t3 t4 t5 t6 t7 t8 fT fD fP fC fS fU fX fF mo nT m dB nP pf cB nS sg ln tx fl hM u t d).imp ?_
  intro v N q
  exact ⟨q.1, by rw [q.2]; exact hM.W⟩
theorem w_X9_could (l : Launch) (g : Gm) (M : Mem) (dk : Nat) (nT : Nat) (m : Nat → Nat → Nat) (dB : Nat → Nat → Bool) (nP : Nat) (pf : Nat → Nat → Nat) (cB : Nat → Nat → Bool) (nS : Nat) (sg : Nat → Int32) (ln : Nat → Nat) (tx : Nat → Nat → Int32) (fl : Nat → Nat → Nat) (h : DeskS g M dk (nT, m, dB, nP, pf, cB, nS, sg, ln, tx, fl)) (u t : Int32) : Ct l g yX9_could cX9_could 6 (some .int) 8 0 0 [.ref dk, .int u, .int t] M (fun v N => v = some (.int (aCould nT m nP pf cB ln tx u t)) ∧ DeskS g N dk (nT, m, dB, nP, pf, cB, nS, sg, ln, tx, fl)) := by
  obtain ⟨ty, hx, la, ta, th, mk, dn, al, pt, pa, ca, ka, ra, fa, va, ua, sa, xa, na, tA, li, xr, fy, f0, f1, f2, f3, ja, jb, lo, hi, pl, ph, cn, lk, bc, bs, vf, cv, mv, xf, ga, gb, hD⟩ := h
  refine (c_X9_could l g M dk la ta th mk dn al pt pa ca ka ra fa va ua sa xa na tA li xr fy f0 f1 f2 f3 ja jb lo hi pl ph cn lk bc bs vf cv mv xf ga gb nT m dB nP pf cB nS sg ln ty fl hD u t).imp ?_
  intro v N q
  exact ⟨q.1.trans (by rw [aCould_congr hx]), ty, hx, q.2⟩
theorem w_X10_could (l : Launch) (g : Gm) (M : Mem) (md : Nat) (nT : Nat) (m : Nat → Nat → Nat) (dB : Nat → Nat → Bool) (nP : Nat) (pf : Nat → Nat → Nat) (cB : Nat → Nat → Bool) (nS : Nat) (sg : Nat → Int32) (ln : Nat → Nat) (tx : Nat → Nat → Int32) (fl : Nat → Nat → Nat) (h : ModS g M md (nT, m, dB, nP, pf, cB, nS, sg, ln, tx, fl)) (u t : Int32) : Ct l g yX10_could cX10_could 6 (some .int) 9 0 0 [.ref md, .int u, .int t] M (fun v N => v = some (.int (aCould nT m nP pf cB ln tx u t)) ∧ ModS g N md (nT, m, dB, nP, pf, cB, nS, sg, ln, tx, fl)) := by
  obtain ⟨t1, t2, t3, t4, t5, t6, t7, t8, fT, fD, fP, fC, fS, fU, fX, fF, mo, hM⟩ := h
  refine (c_X10_could l g M md t1 t2 t3 t4 t5 t6 t7 t8 fT fD fP fC fS fU fX fF mo nT m dB nP pf cB nS sg ln tx fl hM u t).imp ?_
  intro v N q
  exact ⟨q.1, by rw [q.2]; exact hM.W⟩
theorem w_X9_all (l : Launch) (g : Gm) (M : Mem) (dk : Nat) (nT : Nat) (m : Nat → Nat → Nat) (dB : Nat → Nat → Bool) (nP : Nat) (pf : Nat → Nat → Nat) (cB : Nat → Nat → Bool) (nS : Nat) (sg : Nat → Int32) (ln : Nat → Nat) (tx : Nat → Nat → Int32) (fl : Nat → Nat → Nat) (h : DeskS g M dk (nT, m, dB, nP, pf, cB, nS, sg, ln, tx, fl)) (u d zz : Int32) : Ct l g yX9_all cX9_all 7 (some .int) 8 0 0 [.ref dk, .int u, .int d, .int zz] M (fun v N => v = some (.int (aAll nT m nP pf cB ln tx u d zz)) ∧ DeskS g N dk (nT, m, dB, nP, pf, cB, nS, sg, ln, tx, fl)) := by
  obtain ⟨ty, hx, la, ta, th, mk, dn, al, pt, pa, ca, ka, ra, fa, va, ua, sa, xa, na, tA, li, xr, fy, f0, f1, f2, f3, ja, jb, lo, hi, pl, ph, cn, lk, bc, bs, vf, cv, mv, xf, ga, gb, hD⟩ := h
  refine (c_X9_all l g M dk la ta th mk dn al pt pa ca ka ra fa va ua sa xa na tA li xr fy f0 f1 f2 f3 ja jb lo hi pl ph cn lk bc bs vf cv mv xf ga gb nT m dB nP pf cB nS sg ln ty fl hD u d zz).imp ?_
  intro v N q
  exact ⟨q.1.trans (by rw [aAll_congr hx]), ty, hx, q.2⟩
theorem w_X10_all (l : Launch) (g : Gm) (M : Mem) (md : Nat) (nT : Nat) (m : Nat → Nat → Nat) (dB : Nat → Nat → Bool) (nP : Nat) (pf : Nat → Nat → Nat) (cB : Nat → Nat → Bool) (nS : Nat) (sg : Nat → Int32) (ln : Nat → Nat) (tx : Nat → Nat → Int32) (fl : Nat → Nat → Nat) (h : ModS g M md (nT, m, dB, nP, pf, cB, nS, sg, ln, tx, fl)) (u d zz : Int32) : Ct l g yX10_all cX10_all 6 (some .int) 9 0 0 [.ref md, .int u, .int d, .int zz] M (fun v N => v = some (.int (aAll nT m nP pf cB ln tx u d zz)) ∧ ModS g N md (nT, m, dB, nP, pf, cB, nS, sg, ln, tx, fl)) := by
  obtain ⟨t1, t2, t3, t4, t5, t6, t7, t8, fT, fD, fP, fC, fS, fU, fX, fF, mo, hM⟩ := h
  refine (c_X10_all l g M md t1 t2 t3 t4 t5 t6 t7 t8 fT fD fP fC fS fU fX fF mo nT m dB nP pf cB nS sg ln tx fl hM u d zz).imp ?_
  intro v N q
  exact ⟨q.1, by rw [q.2]; exact hM.W⟩
theorem w_X9_meet (l : Launch) (g : Gm) (M : Mem) (dk : Nat) (nT : Nat) (m : Nat → Nat → Nat) (dB : Nat → Nat → Bool) (nP : Nat) (pf : Nat → Nat → Nat) (cB : Nat → Nat → Bool) (nS : Nat) (sg : Nat → Int32) (ln : Nat → Nat) (tx : Nat → Nat → Int32) (fl : Nat → Nat → Nat) (h : DeskS g M dk (nT, m, dB, nP, pf, cB, nS, sg, ln, tx, fl)) (d z : Int32) : Ct l g yX9_meet cX9_meet 3 (some .int) 8 0 0 [.ref dk, .int d, .int z] M (fun v N => v = some (.int (aMeet nT m d z)) ∧ DeskS g N dk (nT, m, dB, nP, pf, cB, nS, sg, ln, tx, fl)) := by
  obtain ⟨ty, hx, la, ta, th, mk, dn, al, pt, pa, ca, ka, ra, fa, va, ua, sa, xa, na, tA, li, xr, fy, f0, f1, f2, f3, ja, jb, lo, hi, pl, ph, cn, lk, bc, bs, vf, cv, mv, xf, ga, gb, hD⟩ := h
  refine (c_X9_meet l g M dk la ta th mk dn al pt pa ca ka ra fa va ua sa xa na tA li xr fy f0 f1 f2 f3 ja jb lo hi pl ph cn lk bc bs vf cv mv xf ga gb nT m dB nP pf cB nS sg ln ty fl hD d z).imp ?_
  intro v N q
  exact ⟨q.1, ty, hx, q.2⟩
theorem w_X10_meet (l : Launch) (g : Gm) (M : Mem) (md : Nat) (nT : Nat) (m : Nat → Nat → Nat) (dB : Nat → Nat → Bool) (nP : Nat) (pf : Nat → Nat → Nat) (cB : Nat → Nat → Bool) (nS : Nat) (sg : Nat → Int32) (ln : Nat → Nat) (tx : Nat → Nat → Int32) (fl : Nat → Nat → Nat) (h : ModS g M md (nT, m, dB, nP, pf, cB, nS, sg, ln, tx, fl)) (d z : Int32) : Ct l g yX10_meet cX10_meet 4 (some .int) 9 0 0 [.ref md, .int d, .int z] M (fun v N => v = some (.int (aMeet nT m d z)) ∧ ModS g N md (nT, m, dB, nP, pf, cB, nS, sg, ln, tx, fl)) := by
  obtain ⟨t1, t2, t3, t4, t5, t6, t7, t8, fT, fD, fP, fC, fS, fU, fX, fF, mo, hM⟩ := h
  refine (c_X10_meet l g M md t1 t2 t3 t4 t5 t6 t7 t8 fT fD fP fC fS fU fX fF mo nT m dB nP pf cB nS sg ln tx fl hM d z).imp ?_
  intro v N q
  exact ⟨q.1, q.2⟩
theorem w_X9_chance (l : Launch) (g : Gm) (M : Mem) (dk : Nat) (nT : Nat) (m : Nat → Nat → Nat) (dB : Nat → Nat → Bool) (nP : Nat) (pf : Nat → Nat → Nat) (cB : Nat → Nat → Bool) (nS : Nat) (sg : Nat → Int32) (ln : Nat → Nat) (tx : Nat → Nat → Int32) (fl : Nat → Nat → Nat) (h : DeskS g M dk (nT, m, dB, nP, pf, cB, nS, sg, ln, tx, fl)) (d z : Int32) : Ct l g yX9_chance cX9_chance 5 (some .long) 8 0 0 [.ref dk, .int d, .int z] M (fun v N => v = some (.long (aChance nT m d z)) ∧ DeskS g N dk (nT, m, dB, nP, pf, cB, nS, sg, ln, tx, fl)) := by
  obtain ⟨ty, hx, la, ta, th, mk, dn, al, pt, pa, ca, ka, ra, fa, va, ua, sa, xa, na, tA, li, xr, fy, f0, f1, f2, f3, ja, jb, lo, hi, pl, ph, cn, lk, bc, bs, vf, cv, mv, xf, ga, gb, hD⟩ := h
  refine (c_X9_chance l g M dk la ta th mk dn al pt pa ca ka ra fa va ua sa xa na tA li xr fy f0 f1 f2 f3 ja jb lo hi pl ph cn lk bc bs vf cv mv xf ga gb nT m dB nP pf cB nS sg ln ty fl hD d z).imp ?_
  intro v N q
  exact ⟨q.1, ty, hx, q.2⟩
theorem w_X10_chance (l : Launch) (g : Gm) (M : Mem) (md : Nat) (nT : Nat) (m : Nat → Nat → Nat) (dB : Nat → Nat → Bool) (nP : Nat) (pf : Nat → Nat → Nat) (cB : Nat → Nat → Bool) (nS : Nat) (sg : Nat → Int32) (ln : Nat → Nat) (tx : Nat → Nat → Int32) (fl : Nat → Nat → Nat) (h : ModS g M md (nT, m, dB, nP, pf, cB, nS, sg, ln, tx, fl)) (d z : Int32) : Ct l g yX10_chance cX10_chance 12 (some .long) 9 0 0 [.ref md, .int d, .int z] M (fun v N => v = some (.long (aChance nT m d z)) ∧ ModS g N md (nT, m, dB, nP, pf, cB, nS, sg, ln, tx, fl)) := by
  obtain ⟨t1, t2, t3, t4, t5, t6, t7, t8, fT, fD, fP, fC, fS, fU, fX, fF, mo, hM⟩ := h
  refine (c_X10_chance l g M md t1 t2 t3 t4 t5 t6 t7 t8 fT fD fP fC fS fU fX fF mo nT m dB nP pf cB nS sg ln tx fl hM d z).imp ?_
  intro v N q
  exact ⟨q.1, q.2⟩
theorem w_X9_did (l : Launch) (g : Gm) (M : Mem) (dk : Nat) (nT : Nat) (m : Nat → Nat → Nat) (dB : Nat → Nat → Bool) (nP : Nat) (pf : Nat → Nat → Nat) (cB : Nat → Nat → Bool) (nS : Nat) (sg : Nat → Int32) (ln : Nat → Nat) (tx : Nat → Nat → Int32) (fl : Nat → Nat → Nat) (h : DeskS g M dk (nT, m, dB, nP, pf, cB, nS, sg, ln, tx, fl)) (t d : Int32) (b : Bool) : Ct l g yX9_did cX9_did 5 (some .int) 8 0 0 [.ref dk, .int t, .int d, .int (bI b)] M (fun v N => v = some (.int (aDid nT dB t d)) ∧ DeskS g N dk (nT, m, sDid nT dB t d b, nP, pf, cB, nS, sg, ln, tx, fl)) := by
  obtain ⟨ty, hx, la, ta, th, mk, dn, al, pt, pa, ca, ka, ra, fa, va, ua, sa, xa, na, tA, li, xr, fy, f0, f1, f2, f3, ja, jb, lo, hi, pl, ph, cn, lk, bc, bs, vf, cv, mv, xf, ga, gb, hD⟩ := h
  refine (c_X9_did l g M dk la ta th mk dn al pt pa ca ka ra fa va ua sa xa na tA li xr fy f0 f1 f2 f3 ja jb lo hi pl ph cn lk bc bs vf cv mv xf ga gb nT m dB nP pf cB nS sg ln ty fl hD t d b).imp ?_
  intro v N q
  exact ⟨q.1, ty, hx, q.2⟩
theorem w_X10_did (l : Launch) (g : Gm) (M : Mem) (md : Nat) (nT : Nat) (m : Nat → Nat → Nat) (dB : Nat → Nat → Bool) (nP : Nat) (pf : Nat → Nat → Nat) (cB : Nat → Nat → Bool) (nS : Nat) (sg : Nat → Int32) (ln : Nat → Nat) (tx : Nat → Nat → Int32) (fl : Nat → Nat → Nat) (h : ModS g M md (nT, m, dB, nP, pf, cB, nS, sg, ln, tx, fl)) (t d : Int32) (b : Bool) : Ct l g yX10_did cX10_did 5 (some .int) 9 0 0 [.ref md, .int t, .int d, .int (bI b)] M (fun v N => v = some (.int (aDid nT dB t d)) ∧ ModS g N md (nT, m, sDid nT dB t d b, nP, pf, cB, nS, sg, ln, tx, fl)) := by
  obtain ⟨t1, t2, t3, t4, t5, t6, t7, t8, fT, fD, fP, fC, fS, fU, fX, fF, mo, hM⟩ := h
  refine (c_X10_did l g M md t1 t2 t3 t4 t5 t6 t7 t8 fT fD fP fC fS fU fX fF mo nT m dB nP pf cB nS sg ln tx fl hM t d b).imp ?_
  intro v N q
  exact ⟨q.1, q.2⟩
theorem w_X9_decoy (l : Launch) (g : Gm) (M : Mem) (dk : Nat) (nT : Nat) (m : Nat → Nat → Nat) (dB : Nat → Nat → Bool) (nP : Nat) (pf : Nat → Nat → Nat) (cB : Nat → Nat → Bool) (nS : Nat) (sg : Nat → Int32) (ln : Nat → Nat) (tx : Nat → Nat → Int32) (fl : Nat → Nat → Nat) (h : DeskS g M dk (nT, m, dB, nP, pf, cB, nS, sg, ln, tx, fl)) (t fr to qq zz : Int32) : Ct l g yX9_decoy cX9_decoy 8 (some .long) 8 0 0 [.ref dk, .int t, .int fr, .int to, .int qq, .int zz] M (fun v N => v = some (.long (aDecoy nT dB t fr to qq zz)) ∧ DeskS g N dk (nT, m, dB, nP, pf, cB, nS, sg, ln, tx, fl)) := by
  obtain ⟨ty, hx, la, ta, th, mk, dn, al, pt, pa, ca, ka, ra, fa, va, ua, sa, xa, na, tA, li, xr, fy, f0, f1, f2, f3, ja, jb, lo, hi, pl, ph, cn, lk, bc, bs, vf, cv, mv, xf, ga, gb, hD⟩ := h
  refine (c_X9_decoy l g M dk la ta th mk dn al pt pa ca ka ra fa va ua sa xa na tA li xr fy f0 f1 f2 f3 ja jb lo hi pl ph cn lk bc bs vf cv mv xf ga gb nT m dB nP pf cB nS sg ln ty fl hD t fr to qq zz).imp ?_
  intro v N q
  exact ⟨q.1, ty, hx, by rw [q.2]; exact hD.W⟩
theorem w_X10_decoy (l : Launch) (g : Gm) (M : Mem) (md : Nat) (nT : Nat) (m : Nat → Nat → Nat) (dB : Nat → Nat → Bool) (nP : Nat) (pf : Nat → Nat → Nat) (cB : Nat → Nat → Bool) (nS : Nat) (sg : Nat → Int32) (ln : Nat → Nat) (tx : Nat → Nat → Int32) (fl : Nat → Nat → Nat) (h : ModS g M md (nT, m, dB, nP, pf, cB, nS, sg, ln, tx, fl)) (t fr to qq zz : Int32) : Ct l g yX10_decoy cX10_decoy 12 (some .long) 9 0 0 [.ref md, .int t, .int fr, .int to, .int qq, .int zz] M (fun v N => v = some (.long (aDecoy nT dB t fr to qq zz)) ∧ ModS g N md (nT, m, dB, nP, pf, cB, nS, sg, ln, tx, fl)) := by
  obtain ⟨t1, t2, t3, t4, t5, t6, t7, t8, fT, fD, fP, fC, fS, fU, fX, fF, mo, hM⟩ := h
  refine (c_X10_decoy l g M md t1 t2 t3 t4 t5 t6 t7 t8 fT fD fP fC fS fU fX fF mo nT m dB nP pf cB nS sg ln tx fl hM t fr to qq zz).imp ?_
  intro v N q
  exact ⟨q.1, by rw [q.2]; exact hM.W⟩
theorem w_X9_sure (l : Launch) (g : Gm) (M : Mem) (dk : Nat) (nT : Nat) (m : Nat → Nat → Nat) (dB : Nat → Nat → Bool) (nP : Nat) (pf : Nat → Nat → Nat) (cB : Nat → Nat → Bool) (nS : Nat) (sg : Nat → Int32) (ln : Nat → Nat) (tx : Nat → Nat → Int32) (fl : Nat → Nat → Nat) (h : DeskS g M dk (nT, m, dB, nP, pf, cB, nS, sg, ln, tx, fl)) (qq ss : Int32) : Ct l g yX9_sure cX9_sure 4 (some .int) 8 0 0 [.ref dk, .int qq, .int ss] M (fun v N => v = some (.int (aSure qq ss)) ∧ DeskS g N dk (nT, m, dB, nP, pf, cB, nS, sg, ln, tx, fl)) := by
  obtain ⟨ty, hx, la, ta, th, mk, dn, al, pt, pa, ca, ka, ra, fa, va, ua, sa, xa, na, tA, li, xr, fy, f0, f1, f2, f3, ja, jb, lo, hi, pl, ph, cn, lk, bc, bs, vf, cv, mv, xf, ga, gb, hD⟩ := h
  refine (c_X9_sure l g M dk la ta th mk dn al pt pa ca ka ra fa va ua sa xa na tA li xr fy f0 f1 f2 f3 ja jb lo hi pl ph cn lk bc bs vf cv mv xf ga gb nT m dB nP pf cB nS sg ln ty fl hD qq ss).imp ?_
  intro v N q
  exact ⟨q.1, ty, hx, by rw [q.2]; exact hD.W⟩
theorem w_X10_sure (l : Launch) (g : Gm) (M : Mem) (md : Nat) (nT : Nat) (m : Nat → Nat → Nat) (dB : Nat → Nat → Bool) (nP : Nat) (pf : Nat → Nat → Nat) (cB : Nat → Nat → Bool) (nS : Nat) (sg : Nat → Int32) (ln : Nat → Nat) (tx : Nat → Nat → Int32) (fl : Nat → Nat → Nat) (h : ModS g M md (nT, m, dB, nP, pf, cB, nS, sg, ln, tx, fl)) (qq ss : Int32) : Ct l g yX10_sure cX10_sure 8 (some .int) 9 0 0 [.ref md, .int qq, .int ss] M (fun v N => v = some (.int (aSure qq ss)) ∧ ModS g N md (nT, m, dB, nP, pf, cB, nS, sg, ln, tx, fl)) := by
  obtain ⟨t1, t2, t3, t4, t5, t6, t7, t8, fT, fD, fP, fC, fS, fU, fX, fF, mo, hM⟩ := h
  refine (c_X10_sure l g M md t1 t2 t3 t4 t5 t6 t7 t8 fT fD fP fC fS fU fX fF mo nT m dB nP pf cB nS sg ln tx fl hM qq ss).imp ?_
  intro v N q
  exact ⟨q.1, by rw [q.2]; exact hM.W⟩
theorem w_X9_flight (l : Launch) (g : Gm) (M : Mem) (dk : Nat) (nT : Nat) (m : Nat → Nat → Nat) (dB : Nat → Nat → Bool) (nP : Nat) (pf : Nat → Nat → Nat) (cB : Nat → Nat → Bool) (nS : Nat) (sg : Nat → Int32) (ln : Nat → Nat) (tx : Nat → Nat → Int32) (fl : Nat → Nat → Nat) (h : DeskS g M dk (nT, m, dB, nP, pf, cB, nS, sg, ln, tx, fl)) (f aa bb ww rr : Int32) : Ct l g yX9_flight cX9_flight 6 (some .int) 8 0 0 [.ref dk, .int f, .int aa, .int bb, .int ww, .int rr] M (fun v N => v = some (.int (aFlight f aa bb ww rr)) ∧ DeskS g N dk (nT, m, dB, nP, pf, cB, nS, sg, ln, tx, sFlight fl f aa bb ww rr)) := by
  obtain ⟨ty, hx, la, ta, th, mk, dn, al, pt, pa, ca, ka, ra, fa, va, ua, sa, xa, na, tA, li, xr, fy, f0, f1, f2, f3, ja, jb, lo, hi, pl, ph, cn, lk, bc, bs, vf, cv, mv, xf, ga, gb, hD⟩ := h
  refine (c_X9_flight l g M dk la ta th mk dn al pt pa ca ka ra fa va ua sa xa na tA li xr fy f0 f1 f2 f3 ja jb lo hi pl ph cn lk bc bs vf cv mv xf ga gb nT m dB nP pf cB nS sg ln ty fl hD f aa bb ww rr).imp ?_
  intro v N q
  exact ⟨q.1, ty, hx, q.2⟩
theorem w_X10_flight (l : Launch) (g : Gm) (M : Mem) (md : Nat) (nT : Nat) (m : Nat → Nat → Nat) (dB : Nat → Nat → Bool) (nP : Nat) (pf : Nat → Nat → Nat) (cB : Nat → Nat → Bool) (nS : Nat) (sg : Nat → Int32) (ln : Nat → Nat) (tx : Nat → Nat → Int32) (fl : Nat → Nat → Nat) (h : ModS g M md (nT, m, dB, nP, pf, cB, nS, sg, ln, tx, fl)) (f aa bb ww rr : Int32) : Ct l g yX10_flight cX10_flight 6 (some .int) 9 0 0 [.ref md, .int f, .int aa, .int bb, .int ww, .int rr] M (fun v N => v = some (.int (aFlight f aa bb ww rr)) ∧ ModS g N md (nT, m, dB, nP, pf, cB, nS, sg, ln, tx, sFlight fl f aa bb ww rr)) := by
  obtain ⟨t1, t2, t3, t4, t5, t6, t7, t8, fT, fD, fP, fC, fS, fU, fX, fF, mo, hM⟩ := h
  refine (c_X10_flight l g M md t1 t2 t3 t4 t5 t6 t7 t8 fT fD fP fC fS fU fX fF mo nT m dB nP pf cB nS sg ln tx fl hM f aa bb ww rr).imp ?_
  intro v N q
  exact ⟨q.1, q.2⟩
theorem w_X9_worth (l : Launch) (g : Gm) (M : Mem) (dk : Nat) (nT : Nat) (m : Nat → Nat → Nat) (dB : Nat → Nat → Bool) (nP : Nat) (pf : Nat → Nat → Nat) (cB : Nat → Nat → Bool) (nS : Nat) (sg : Nat → Int32) (ln : Nat → Nat) (tx : Nat → Nat → Int32) (fl : Nat → Nat → Nat) (h : DeskS g M dk (nT, m, dB, nP, pf, cB, nS, sg, ln, tx, fl)) (ss zz : Int32) : Ct l g yX9_worth cX9_worth 3 (some .long) 8 0 0 [.ref dk, .int ss, .int zz] M (fun v N => v = some (.long (aWorth nT m fl ss zz)) ∧ DeskS g N dk (nT, m, dB, nP, pf, cB, nS, sg, ln, tx, fl)) := by
  obtain ⟨ty, hx, la, ta, th, mk, dn, al, pt, pa, ca, ka, ra, fa, va, ua, sa, xa, na, tA, li, xr, fy, f0, f1, f2, f3, ja, jb, lo, hi, pl, ph, cn, lk, bc, bs, vf, cv, mv, xf, ga, gb, hD⟩ := h
  refine (c_X9_worth l g M dk la ta th mk dn al pt pa ca ka ra fa va ua sa xa na tA li xr fy f0 f1 f2 f3 ja jb lo hi pl ph cn lk bc bs vf cv mv xf ga gb nT m dB nP pf cB nS sg ln ty fl hD ss zz).imp ?_
  intro v N q
  exact ⟨q.1, ty, hx, q.2⟩
theorem w_X10_worth (l : Launch) (g : Gm) (M : Mem) (md : Nat) (nT : Nat) (m : Nat → Nat → Nat) (dB : Nat → Nat → Bool) (nP : Nat) (pf : Nat → Nat → Nat) (cB : Nat → Nat → Bool) (nS : Nat) (sg : Nat → Int32) (ln : Nat → Nat) (tx : Nat → Nat → Int32) (fl : Nat → Nat → Nat) (h : ModS g M md (nT, m, dB, nP, pf, cB, nS, sg, ln, tx, fl)) (ss zz : Int32) : Ct l g yX10_worth cX10_worth 3 (some .long) 9 0 0 [.ref md, .int ss, .int zz] M (fun v N => v = some (.long (aWorth nT m fl ss zz)) ∧ ModS g N md (nT, m, dB, nP, pf, cB, nS, sg, ln, tx, fl)) := by
  obtain ⟨t1, t2, t3, t4, t5, t6, t7, t8, fT, fD, fP, fC, fS, fU, fX, fF, mo, hM⟩ := h
  refine (c_X10_worth l g M md t1 t2 t3 t4 t5 t6 t7 t8 fT fD fP fC fS fU fX fF mo nT m dB nP pf cB nS sg ln tx fl hM ss zz).imp ?_
  intro v N q
  exact ⟨q.1, by rw [q.2]; exact hM.W⟩
theorem w_X9_best (l : Launch) (g : Gm) (M : Mem) (dk : Nat) (nT : Nat) (m : Nat → Nat → Nat) (dB : Nat → Nat → Bool) (nP : Nat) (pf : Nat → Nat → Nat) (cB : Nat → Nat → Bool) (nS : Nat) (sg : Nat → Int32) (ln : Nat → Nat) (tx : Nat → Nat → Int32) (fl : Nat → Nat → Nat) (h : DeskS g M dk (nT, m, dB, nP, pf, cB, nS, sg, ln, tx, fl)) (pp zz : Int32) : Ct l g yX9_best cX9_best 4 (some .int) 8 0 0 [.ref dk, .int pp, .int zz] M (fun v N => v = some (.int (aBest nT m fl pp zz)) ∧ DeskS g N dk (nT, m, dB, nP, pf, cB, nS, sg, ln, tx, fl)) := by
  obtain ⟨ty, hx, la, ta, th, mk, dn, al, pt, pa, ca, ka, ra, fa, va, ua, sa, xa, na, tA, li, xr, fy, f0, f1, f2, f3, ja, jb, lo, hi, pl, ph, cn, lk, bc, bs, vf, cv, mv, xf, ga, gb, hD⟩ := h
  refine (c_X9_best l g M dk la ta th mk dn al pt pa ca ka ra fa va ua sa xa na tA li xr fy f0 f1 f2 f3 ja jb lo hi pl ph cn lk bc bs vf cv mv xf ga gb nT m dB nP pf cB nS sg ln ty fl hD pp zz).imp ?_
  intro v N q
  exact ⟨q.1, ty, hx, q.2⟩
theorem w_X10_best (l : Launch) (g : Gm) (M : Mem) (md : Nat) (nT : Nat) (m : Nat → Nat → Nat) (dB : Nat → Nat → Bool) (nP : Nat) (pf : Nat → Nat → Nat) (cB : Nat → Nat → Bool) (nS : Nat) (sg : Nat → Int32) (ln : Nat → Nat) (tx : Nat → Nat → Int32) (fl : Nat → Nat → Nat) (h : ModS g M md (nT, m, dB, nP, pf, cB, nS, sg, ln, tx, fl)) (pp zz : Int32) : Ct l g yX10_best cX10_best 8 (some .int) 9 0 0 [.ref md, .int pp, .int zz] M (fun v N => v = some (.int (aBest nT m fl pp zz)) ∧ ModS g N md (nT, m, dB, nP, pf, cB, nS, sg, ln, tx, fl)) := by
  obtain ⟨t1, t2, t3, t4, t5, t6, t7, t8, fT, fD, fP, fC, fS, fU, fX, fF, mo, hM⟩ := h
  refine (c_X10_best l g M md t1 t2 t3 t4 t5 t6 t7 t8 fT fD fP fC fS fU fX fF mo nT m dB nP pf cB nS sg ln tx fl hM pp zz).imp ?_
  intro v N q
  exact ⟨q.1, by rw [q.2]; exact hM.W⟩
theorem w_X9_lean (l : Launch) (g : Gm) (M : Mem) (dk : Nat) (nT : Nat) (m : Nat → Nat → Nat) (dB : Nat → Nat → Bool) (nP : Nat) (pf : Nat → Nat → Nat) (cB : Nat → Nat → Bool) (nS : Nat) (sg : Nat → Int32) (ln : Nat → Nat) (tx : Nat → Nat → Int32) (fl : Nat → Nat → Nat) (h : DeskS g M dk (nT, m, dB, nP, pf, cB, nS, sg, ln, tx, fl)) (aa nn bb kk zz : Int32) : Ct l g yX9_lean cX9_lean 10 (some .long) 8 0 0 [.ref dk, .int aa, .int nn, .int bb, .int kk, .int zz] M (fun v N => v = some (.long (aLean aa nn bb kk zz)) ∧ DeskS g N dk (nT, m, dB, nP, pf, cB, nS, sg, ln, tx, fl)) := by
  obtain ⟨ty, hx, la, ta, th, mk, dn, al, pt, pa, ca, ka, ra, fa, va, ua, sa, xa, na, tA, li, xr, fy, f0, f1, f2, f3, ja, jb, lo, hi, pl, ph, cn, lk, bc, bs, vf, cv, mv, xf, ga, gb, hD⟩ := h
  refine (c_X9_lean l g M dk la ta th mk dn al pt pa ca ka ra fa va ua sa xa na tA li xr fy f0 f1 f2 f3 ja jb lo hi pl ph cn lk bc bs vf cv mv xf ga gb nT m dB nP pf cB nS sg ln ty fl hD aa nn bb kk zz).imp ?_
  intro v N q
  exact ⟨q.1, ty, hx, by rw [q.2]; exact hD.W⟩
theorem w_X10_lean (l : Launch) (g : Gm) (M : Mem) (md : Nat) (nT : Nat) (m : Nat → Nat → Nat) (dB : Nat → Nat → Bool) (nP : Nat) (pf : Nat → Nat → Nat) (cB : Nat → Nat → Bool) (nS : Nat) (sg : Nat → Int32) (ln : Nat → Nat) (tx : Nat → Nat → Int32) (fl : Nat → Nat → Nat) (h : ModS g M md (nT, m, dB, nP, pf, cB, nS, sg, ln, tx, fl)) (aa nn bb kk zz : Int32) : Ct l g yX10_lean cX10_lean 9 (some .long) 9 0 0 [.ref md, .int aa, .int nn, .int bb, .int kk, .int zz] M (fun v N => v = some (.long (aLean aa nn bb kk zz)) ∧ ModS g N md (nT, m, dB, nP, pf, cB, nS, sg, ln, tx, fl)) := by
  obtain ⟨t1, t2, t3, t4, t5, t6, t7, t8, fT, fD, fP, fC, fS, fU, fX, fF, mo, hM⟩ := h
  refine (c_X10_lean l g M md t1 t2 t3 t4 t5 t6 t7 t8 fT fD fP fC fS fU fX fF mo nT m dB nP pf cB nS sg ln tx fl hM aa nn bb kk zz).imp ?_
  intro v N q
  exact ⟨q.1, by rw [q.2]; exact hM.W⟩
theorem w_X9_told (l : Launch) (g : Gm) (M : Mem) (dk : Nat) (nT : Nat) (m : Nat → Nat → Nat) (dB : Nat → Nat → Bool) (nP : Nat) (pf : Nat → Nat → Nat) (cB : Nat → Nat → Bool) (nS : Nat) (sg : Nat → Int32) (ln : Nat → Nat) (tx : Nat → Nat → Int32) (fl : Nat → Nat → Nat) (h : DeskS g M dk (nT, m, dB, nP, pf, cB, nS, sg, ln, tx, fl)) (w : Int32) : Ct l g yX9_told cX9_told 2 (some .int) 8 0 0 [.ref dk, .int w] M (fun v N => v = some (.int (aTold nT nP nS ln w)) ∧ DeskS g N dk (nT, m, dB, nP, pf, cB, nS, sg, ln, tx, fl)) := by
  obtain ⟨ty, hx, la, ta, th, mk, dn, al, pt, pa, ca, ka, ra, fa, va, ua, sa, xa, na, tA, li, xr, fy, f0, f1, f2, f3, ja, jb, lo, hi, pl, ph, cn, lk, bc, bs, vf, cv, mv, xf, ga, gb, hD⟩ := h
  refine (c_X9_told l g M dk la ta th mk dn al pt pa ca ka ra fa va ua sa xa na tA li xr fy f0 f1 f2 f3 ja jb lo hi pl ph cn lk bc bs vf cv mv xf ga gb nT m dB nP pf cB nS sg ln ty fl hD w).imp ?_
  intro v N q
  exact ⟨q.1, ty, hx, by rw [q.2]; exact hD.W⟩
theorem w_X10_told (l : Launch) (g : Gm) (M : Mem) (md : Nat) (nT : Nat) (m : Nat → Nat → Nat) (dB : Nat → Nat → Bool) (nP : Nat) (pf : Nat → Nat → Nat) (cB : Nat → Nat → Bool) (nS : Nat) (sg : Nat → Int32) (ln : Nat → Nat) (tx : Nat → Nat → Int32) (fl : Nat → Nat → Nat) (h : ModS g M md (nT, m, dB, nP, pf, cB, nS, sg, ln, tx, fl)) (w : Int32) : Ct l g yX10_told cX10_told 4 (some .int) 9 0 0 [.ref md, .int w] M (fun v N => v = some (.int (aTold nT nP nS ln w)) ∧ ModS g N md (nT, m, dB, nP, pf, cB, nS, sg, ln, tx, fl)) := by
  obtain ⟨t1, t2, t3, t4, t5, t6, t7, t8, fT, fD, fP, fC, fS, fU, fX, fF, mo, hM⟩ := h
  refine (c_X10_told l g M md t1 t2 t3 t4 t5 t6 t7 t8 fT fD fP fC fS fU fX fF mo nT m dB nP pf cB nS sg ln tx fl hM w).imp ?_
  intro v N q
  exact ⟨q.1, by rw [q.2]; exact hM.W⟩
theorem DeskS.cell {g : Gm} {M : Mem} {dk : Nat} {σ : St} (h : DeskS g M dk σ) : ∃ fs, M dk = some (.inr (9, fs)) := by
  obtain ⟨nT, m, dB, nP, pf, cB, nS, sg, ln, tx, fl⟩ := σ
  obtain ⟨ty, hx, la, ta, th, mk, dn, al, pt, pa, ca, ka, ra, fa, va, ua, sa, xa, na, tA, li, xr, fy, f0, f1, f2, f3, ja, jb, lo, hi, pl, ph, cn, lk, bc, bs, vf, cv, mv, xf, ga, gb, hD⟩ := h
  exact ⟨_, hD.1⟩
theorem ModS.cell {g : Gm} {M : Mem} {md : Nat} {σ : St} (h : ModS g M md σ) : ∃ fs, M md = some (.inr (10, fs)) := by
  obtain ⟨nT, m, dB, nP, pf, cB, nS, sg, ln, tx, fl⟩ := σ
  obtain ⟨t1, t2, t3, t4, t5, t6, t7, t8, fT, fD, fP, fC, fS, fU, fX, fF, mo, hM⟩ := h
  exact ⟨_, hM.1⟩

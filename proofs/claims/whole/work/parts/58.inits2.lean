/-! Constructors as they leave a world; add. -/
/-- old cells beside a stay -/
def Old (M N : Mem) (a : Nat) : Prop := ∀ b e, M b = some e → b ≠ a → N b = some e
theorem Old.keep {M N : Mem} {a : Nat} {e0 : va_E} {ks : List Nat} (h : Old M N a) (h0 : M a = some e0) (hk : kd e0 ∉ ks) : Keep M N ks := fun b e hb he => h b e hb (fun q => by rw [q, h0] at hb; cases hb; exact hk he)
theorem Old.two {M : Mem} {q a : Nat} {e f : va_E} (hq : M q = none) : Old M (mset (mset M q e) a f) a := fun b x hb hne => by rw [mset_ne hne, mset_ne (fresh_ne hb hq)]; exact hb
/-- one part of a new desk: made at q, put into the desk at dk -/
theorem Old.part {P N : Mem} {dk q : Nat} {e0 f : va_E} (hq : P q = none) (hO : Old (mset P q e0) N q) : Old P (mset N dk f) dk := fun b x hb hne => by
  rw [mset_ne hne]
  exact hO b x (by rw [mset_ne (fresh_ne hb hq)]; exact hb) (fresh_ne hb hq)
theorem c_X3_initW (l : Launch) (g : Gm) (M : Mem) (a : Nat) (m : Nat → Nat → Nat) (z : Nat → Nat) (lo : Nat → Int64) (hm : M a = some (.inr (3, [.null, .int 0]))) : Ct l g yX3_init cX3_init 1 none 1 1 12 [.ref a] M (fun v N => v = none ∧ Old M N a ∧ ∃ q, LandW g N a q z z z 0 m lo lo) :=
  (c_X3_init l g M a hm).imp (fun v N h => by
    obtain ⟨h1, q, hq, rfl⟩ := h
    refine ⟨h1, Old.two hq, q, by omega, mset_same _ _ _, ?_, fun i hi => absurd hi (Nat.not_lt_zero _)⟩
    rw [mset_ne (Ne.symm (fresh_ne hm hq)), mset_same]
    simp)
theorem c_X0_initW (l : Launch) (g : Gm) (M : Mem) (a : Nat) (pf : Nat → Nat → Nat) (z : Nat → Nat) (lo : Nat → Int64) (cn : Nat → Nat → Int32) (hm : M a = some (.inr (0, [.null, .int 0]))) : Ct l g yX0_init cX0_init 1 none 1 1 10 [.ref a] M (fun v N => v = none ∧ Old M N a ∧ ∃ q, AlbW g N a q z z z z 0 pf lo lo cn cn) :=
  (c_X0_init l g M a hm).imp (fun v N h => by
    obtain ⟨h1, q, hq, rfl⟩ := h
    refine ⟨h1, Old.two hq, q, by omega, mset_same _ _ _, ?_, fun i hi => absurd hi (Nat.not_lt_zero _), fun i hi => absurd hi (Nat.not_lt_zero _)⟩
    rw [mset_ne (Ne.symm (fresh_ne hm hq)), mset_same]
    simp)
theorem c_X1_initW (l : Launch) (g : Gm) (M : Mem) (a : Nat) (hm : M a = some (.inr (1, [.null, .int 0, .int 0]))) : Ct l g yX1_init cX1_init 1 none 1 1 9 [.ref a] M (fun v N => v = none ∧ Old M N a ∧ ∃ q, N a = some (.inr (1, [.ref q, .int (bI false), .int (bI false)])) ∧ N q = some (aI g 9 (fun _ => 0))) :=
  (c_X1_init l g M a hm).imp (fun v N h => by
    obtain ⟨h1, q, hq, rfl⟩ := h
    refine ⟨h1, Old.two hq, q, mset_same _ _ _, ?_⟩
    rw [mset_ne (Ne.symm (fresh_ne hm hq)), mset_same])
theorem c_X4_initW (l : Launch) (g : Gm) (M : Mem) (a : Nat) (hm : M a = some (.inr (4, [.null, .int 0, .int 0]))) : Ct l g yX4_init cX4_init 1 none 1 1 96 [.ref a] M (fun v N => v = none ∧ Old M N a ∧ ∃ q, N a = some (.inr (4, [.ref q, .int 0, .int 0])) ∧ N q = some (aI g 96 (fun _ => 0))) :=
  (c_X4_init l g M a hm).imp (fun v N h => by
    obtain ⟨h1, q, hq, rfl⟩ := h
    refine ⟨h1, Old.two hq, q, mset_same _ _ _, ?_⟩
    rw [mset_ne (Ne.symm (fresh_ne hm hq)), mset_same])
theorem add_old {M : Mem} {a q : Nat} {e f h : va_E} (ha : M a = none) (hq : mset M a e q = none) : (∀ b x, M b = some x → mset (mset (mset M a e) q f) a h b = some x) ∧ mset (mset (mset M a e) q f) a h a = some h ∧ mset (mset (mset M a e) q f) a h q = some f ∧ M q = none ∧ q ≠ a := by
  have hqa : q ≠ a := fun z => by rw [z, mset_same] at hq; cases hq
  refine ⟨fun b x hb => ?_, mset_same _ _ _, ?_, ?_, hqa⟩
  · rw [mset_ne (fresh_ne hb ha), mset_ne (fun z => ?_), mset_ne (fresh_ne hb ha)]
    · exact hb
    · rw [← z, mset_ne (fresh_ne hb ha), hb] at hq; cases hq
  · rw [mset_ne hqa, mset_same]
  · rw [mset_ne hqa] at hq; exact hq
theorem up_row {f : Nat → Nat} {n q : Nat} (hn : n < 2 ^ 31) : va_up (fun i => if i < n then some (f i) else none) (nI n : Int32).toNatClampNeg (some q) = fun i => if i < n + 1 then some (if i = n then q else f i) else none := by
  rw [nI_clamp hn]
  funext i
  unfold va_up
  by_cases h : i = n
  · subst h; simp
  · by_cases h2 : i < n
    · simp [h, h2, show i < n + 1 by omega]
    · simp [h, h2, show ¬ i < n + 1 by omega]
theorem LandW.add {g : Gm} {M N : Mem} {la ta : Nat} {th mk dn : Nat → Nat} {nT : Nat} {m : Nat → Nat → Nat} {lo hi : Nat → Int64} (hL : LandW g M la ta th mk dn nT m lo hi) (hn : nT < 12) {q t ma : Nat} {mm : Nat → Nat} (hO : ∀ b x, M b = some x → N b = some x) (hq : N q = some (.inr (6, [.int (nI nT), .ref ma, .ref t]))) (ht : N t = some (.inr (7, [.long 0, .long 0]))) (hm : M ma = some (aI g 11 (fun w => nI (mm w)))) (ok : okM mm) : LandW g (mset (mset N ta (aQ g 4 12 (fun i => if i < nT + 1 then some (if i = nT then q else th i) else none))) la (.inr (3, [.ref ta, .int (nI (nT + 1))]))) la ta (fun i => if i = nT then q else th i) (fun i => if i = nT then ma else mk i) (fun i => if i = nT then t else dn i) (nT + 1) (fun i => if i = nT then mm else m i) (fun i => if i = nT then 0 else lo i) (fun i => if i = nT then 0 else hi i) := by
  obtain ⟨h1, h2, h3, h4⟩ := hL
  have e2 := hO _ _ h2
  have e3 := hO _ _ h3
  have ne : ∀ {b : Nat} {e : va_E}, N b = some e → kd e ∉ [3, 2012] → mset (mset N ta (aQ g 4 12 (fun i => if i < nT + 1 then some (if i = nT then q else th i) else none))) la (.inr (3, [.ref ta, .int (nI (nT + 1))])) b = some e := fun hb hk => by
    rw [mset_ne (fun z => by rw [z, e2] at hb; cases hb; exact hk (by simp [kd])), mset_ne (fun z => by rw [z, e3] at hb; cases hb; exact hk (by simp [kd]))]
    exact hb
  refine ⟨by omega, mset_same _ _ _, (mset_ne (cell_ne e3 e2 (by simp))).trans (mset_same _ _ _), fun i hi => ?_⟩
  by_cases z : i = nT
  · subst z
    simp only [if_true]
    exact ⟨ne hq (by simp [kd]), ne (hO _ _ hm) (by simp [kd]), ne ht (by simp [kd]), ok⟩
  · simp only [if_neg z]
    obtain ⟨q1, q2, q3, q4⟩ := h4 i (by omega)
    exact ⟨ne (hO _ _ q1) (by simp [kd]), ne (hO _ _ q2) (by simp [kd]), ne (hO _ _ q3) (by simp [kd]), q4⟩
theorem AlbW.add {g : Gm} {M : Mem} {al pt : Nat} {pa ca ka ra : Nat → Nat} {nP : Nat} {pf : Nat → Nat → Nat} {pl ph : Nat → Int64} {cn lk : Nat → Nat → Int32} (hA : AlbW g M al pt pa ca ka ra nP pf pl ph cn lk) (hn : nP < 10) {p c k r : Nat} {qf : Nat → Nat} {ql qh : Int64} {qn qk : Nat → Int32} (hP : PicW g M p c k r qf ql qh qn qk) (hd : ∀ i, i < nP → ka i ≠ k ∧ ra i ≠ r ∧ ca i ≠ c ∧ ka i ≠ r ∧ k ≠ ra i) : AlbW g (mset (mset M pt (aQ g 3 10 (fun i => if i < nP + 1 then some (if i = nP then p else pa i) else none))) al (.inr (0, [.ref pt, .int (nI (nP + 1))]))) al pt (fun i => if i = nP then p else pa i) (fun i => if i = nP then c else ca i) (fun i => if i = nP then k else ka i) (fun i => if i = nP then r else ra i) (nP + 1) (fun i => if i = nP then qf else pf i) (fun i => if i = nP then ql else pl i) (fun i => if i = nP then qh else ph i) (fun i => if i = nP then qn else cn i) (fun i => if i = nP then qk else lk i) := by
  obtain ⟨h1, e2, e3, h4, h5⟩ := hA
  have ne : ∀ {b : Nat} {e : va_E}, M b = some e → kd e ∉ [0, 2010] → mset (mset M pt (aQ g 3 10 (fun i => if i < nP + 1 then some (if i = nP then p else pa i) else none))) al (.inr (0, [.ref pt, .int (nI (nP + 1))])) b = M b := fun hb hk => by
    rw [mset_ne (fun z => by rw [z, e2] at hb; cases hb; exact hk (by simp [kd])), mset_ne (fun z => by rw [z, e3] at hb; cases hb; exact hk (by simp [kd]))]
  have pic : ∀ {p c k r : Nat} {qf : Nat → Nat} {ql qh : Int64} {qn qk : Nat → Int32}, PicW g M p c k r qf ql qh qn qk → PicW g (mset (mset M pt (aQ g 3 10 (fun i => if i < nP + 1 then some (if i = nP then _ else pa i) else none))) al (.inr (0, [.ref pt, .int (nI (nP + 1))]))) p c k r qf ql qh qn qk := fun h => h.frame (ne h.2.2.1 (by simp [kd])) (ne h.2.2.2.1 (by simp [kd])) (ne h.2.2.2.2.1 (by simp [kd])) (ne h.2.2.2.2.2 (by simp [kd]))
  refine ⟨by omega, mset_same _ _ _, (mset_ne (cell_ne e3 e2 (by simp))).trans (mset_same _ _ _), fun i hi => ?_, fun i hi j hj => ?_⟩
  · by_cases z : i = nP
    · subst z
      simp only [if_true]
      exact pic hP
    · simp only [if_neg z]
      exact pic (h4 i (by omega))
  · by_cases z : i = nP
    · by_cases y : j = nP
      · rw [z, y]
        simp only [if_true]
        exact ⟨fun w => absurd rfl w, hP.2.1⟩
      · simp only [if_pos z, if_neg y]
        obtain ⟨q1, q2, q3, q4, q5⟩ := hd j (by omega)
        exact ⟨fun _ => ⟨Ne.symm q1, Ne.symm q2, Ne.symm q3⟩, q5⟩
    · by_cases y : j = nP
      · simp only [if_neg z, if_pos y]
        obtain ⟨q1, q2, q3, q4, q5⟩ := hd i (by omega)
        exact ⟨fun _ => ⟨q1, q2, q3⟩, q4⟩
      · simp only [if_neg z, if_neg y]
        exact h5 i (by omega) j (by omega)
set_option maxHeartbeats 4000000 in
set_option maxRecDepth 100000 in
theorem c_X3_add (l : Launch) (g : Gm) (M : Mem) (la ta : Nat) (th mk dn : Nat → Nat) (nT : Nat) (m : Nat → Nat → Nat) (lo hi : Nat → Int64) (ma : Nat) (mm : Nat → Nat) (hn : nT < 12) (hm : M ma = some (aI g 11 (fun w => nI (mm w)))) (ok : okM mm) (hL : LandW g M la ta th mk dn nT m lo hi) : Ct l g yX3_add cX3_add 2 (some .int) 3 2 5 [.ref la, .ref ma] M (fun v N => v = some (.int (nI nT)) ∧ ∃ q t, M q = none ∧ M t = none ∧ LandW g N la ta (fun i => if i = nT then q else th i) (fun i => if i = nT then ma else mk i) (fun i => if i = nT then t else dn i) (nT + 1) (fun i => if i = nT then mm else m i) (fun i => if i = nT then 0 else lo i) (fun i => if i = nT then 0 else hi i) ∧ Keep M N [9, 0, 2010, 5, 7, 196, 1, 109, 8, 140, 2005, 105, 4, 2, 108, 1256, 111]) := by
  refine Ct.of (by decide) (Nat.le_of_ble_eq_true rfl) ?_
  intro X hXl hXg hN C E
  subst hXl; subst hXg
  show V X (rmD 3 2 5) M 0 0 [(0, .ref la), (1, .ref ma)] 0 []
  refine v_aload_n C dX3_add_0 rfl ?_
  refine v_callV (As := []) (rest := []) (b := la) C (c_X3_isFull (xl X) (xg X) M la ta th mk dn nT m lo hi hL) pm_X3_isFull wI_X3_isFull wS_X3_isFull wM_X3_21 kX3 hL.2.1 ⟨by decide, by decide⟩ ⟨by decide, by decide⟩ (nle rfl) dX3_add_1 rfl (dt1 ?_)
  show V X (rmD 3 2 5) M 0 0 [(0, .ref la), (1, .ref ma)] 4 [.int (bI (decide (12 ≤ nT)))]
  refine v_ifb_eq (tgt := 10) C dX3_add_4 (by decide) (fun h4 => ?_) (fun hbad => absurd hbad (by rw [decide_eq_false (by omega)]; decide))
  refine v_aload_n C dX3_add_10 rfl ?_
  refine v_get C kX3 hL.2.1 0 (by decide) wF_X3_11 rfl dX3_add_11 ?_
  refine v_aload_n C dX3_add_14 rfl ?_
  refine v_get C kX3 hL.2.1 1 (by decide) wF_X3_17 rfl dX3_add_15 ?_
  refine v_new (fs := [.int 0, .null, .null]) C kX6 wL_X3_9 wB_X6 wN_X6 (by decide +kernel) (by decide) (by decide) dX3_add_18 (fun q18 hq18 => ?_)
  show V X (rmD 3 2 5) (mset M q18 (.inr (6, [.int 0, .null, .null]))) 1 3 [(0, .ref la), (1, .ref ma)] 21 [.ref q18, .int (nI nT), .ref ta]
  refine v_dup C dX3_add_21 rfl ?_
  refine v_aload_n C dX3_add_22 rfl ?_
  refine v_get C kX3 ((mset_ne (fresh_ne hL.2.1 hq18)).trans hL.2.1) 1 (by decide) wF_X3_17 rfl dX3_add_23 ?_
  refine v_aload_n C dX3_add_26 rfl ?_
  refine v_callI (As := [.int (nI nT), .ref ma]) (rest := [.ref q18, .int (nI nT), .ref ta]) (b := q18) C (c_X6_init (xl X) (xg X) (mset M q18 (.inr (6, [.int 0, .null, .null]))) q18 ma (nI nT) (mset_same _ _ _)) pm_X6_init wI_X6_init rfl wM_X3_25 ⟨by decide, by decide⟩ ⟨by decide, by decide⟩ (nle rfl) dX3_add_27 rfl ?_
  rintro _ N ⟨rfl, q, hq, rfl⟩
  obtain ⟨o1, o2, o3, o4, o5⟩ := add_old (f := .inr (7, [.long 0, .long 0])) (h := .inr (6, [.int (nI nT), .ref ma, .ref q])) hq18 hq
  revert o1 o2 o3
  generalize mset (mset (mset M q18 (.inr (6, [.int 0, .null, .null]))) q (.inr (7, [.long 0, .long 0]))) q18 (.inr (6, [.int (nI nT), .ref ma, .ref q])) = N
  intro o1 o2 o3
  have e2 := o1 _ _ hL.2.1
  have e3 := o1 _ _ hL.2.2.1
  show V X (rmD 3 2 5) N 2 5 [(0, .ref la), (1, .ref ma)] 30 [.ref q18, .int (nI nT), .ref ta]
  refine v_aast C kX6 rfl e3 o2 (vp_in_nI (by omega) (by decide)) dX3_add_30 ?_
  show V X (rmD 3 2 5) (mset N ta (aQ (xg X) 4 12 (va_up (fun i => if i < nT then some (th i) else none) (nI nT : Int32).toNatClampNeg (some q18)))) 2 5 [(0, .ref la), (1, .ref ma)] 31 []
  rw [up_row (by omega)]
  show V X (rmD 3 2 5) (mset N ta (aQ (xg X) 4 12 (fun i => if i < nT + 1 then some (if i = nT then q18 else th i) else none))) 2 5 [(0, .ref la), (1, .ref ma)] 31 []
  refine v_aload_n C dX3_add_31 rfl ?_
  refine v_dup C dX3_add_32 rfl ?_
  refine v_get C kX3 ((mset_ne (cell_ne e2 e3 (by simp))).trans e2) 1 (by decide) wF_X3_17 rfl dX3_add_33 ?_
  refine v_iconst C dX3_add_36 (v := 1) rfl ?_
  refine v_iadd C dX3_add_37 ?_
  rw [nI_1]
  show V X (rmD 3 2 5) (mset N ta (aQ (xg X) 4 12 (fun i => if i < nT + 1 then some (if i = nT then q18 else th i) else none))) 2 5 [(0, .ref la), (1, .ref ma)] 38 [.int (nI (nT + 1)), .ref la]
  refine v_put C kX3 ((mset_ne (cell_ne e2 e3 (by simp))).trans e2) 1 (by decide) wF_X3_17 rfl rfl rfl (nle rfl) dX3_add_38 ?_
  show V X (rmD 3 2 5) (mset (mset N ta (aQ (xg X) 4 12 (fun i => if i < nT + 1 then some (if i = nT then q18 else th i) else none))) la (.inr (3, [.ref ta, .int (nI (nT + 1))]))) 2 5 [(0, .ref la), (1, .ref ma)] 41 []
  refine v_aload_n C dX3_add_41 rfl ?_
  refine v_get C kX3 (mset_same _ _ _) 1 (by decide) wF_X3_17 rfl dX3_add_42 ?_
  refine v_iconst C dX3_add_45 (v := 1) rfl ?_
  refine v_isub C dX3_add_46 ?_
  rw [show nI (nT + 1) - 1 = nI nT from pk_sub (a := nT + 1) (b := 1) (by omega)]
  show V X (rmD 3 2 5) (mset (mset N ta (aQ (xg X) 4 12 (fun i => if i < nT + 1 then some (if i = nT then q18 else th i) else none))) la (.inr (3, [.ref ta, .int (nI (nT + 1))]))) 2 5 [(0, .ref la), (1, .ref ma)] 47 [.int (nI nT)]
  exact v_iret C E dX3_add_47 (nle rfl) (nle rfl) ⟨rfl, q18, q, hq18, o4, hL.add hn o1 o2 o3 hm ok, fun b e hb hk => by rw [mset_ne (fun z => by rw [z, hL.2.1] at hb; cases hb; simp [kd] at hk), mset_ne (fun z => by rw [z, hL.2.2.1] at hb; cases hb; simp [kd] at hk)]; exact o1 _ _ hb⟩

set_option maxHeartbeats 4000000 in
set_option maxRecDepth 100000 in
theorem c_X0_add (l : Launch) (g : Gm) (M : Mem) (al pt : Nat) (pa ca ka ra : Nat → Nat) (nP : Nat) (pf : Nat → Nat → Nat) (pl ph : Nat → Int64) (cn lk : Nat → Nat → Int32) (p : Nat) (fs : List Value) (hn : nP < 10) (hp : M p = some (.inr (5, fs))) (hA : AlbW g M al pt pa ca ka ra nP pf pl ph cn lk) : Ct l g yX0_add cX0_add 2 (some .int) 1 0 0 [.ref al, .ref p] M (fun v N => v = some (.int (nI nP)) ∧ N = mset (mset M pt (aQ g 3 10 (fun i => if i < nP + 1 then some (if i = nP then p else pa i) else none))) al (.inr (0, [.ref pt, .int (nI (nP + 1))]))) := by
  refine Ct.of (by decide) (Nat.le_of_ble_eq_true rfl) ?_
  intro X hXl hXg hN C E
  subst hXl; subst hXg
  show V X (rmD 1 0 0) M 0 0 [(0, .ref al), (1, .ref p)] 0 []
  refine v_aload_n C dX0_add_0 rfl ?_
  refine v_callV (As := []) (rest := []) (b := al) C (c_X0_isFull (xl X) (xg X) M al pt pa ca ka ra nP pf pl ph cn lk hA) pm_X0_isFull wI_X0_isFull wS_X0_isFull wM_X0_21 kX0 hA.2.1 ⟨by decide, by decide⟩ ⟨by decide, by decide⟩ (nle rfl) dX0_add_1 rfl (dt1 ?_)
  show V X (rmD 1 0 0) M 0 0 [(0, .ref al), (1, .ref p)] 4 [.int (bI (decide (10 ≤ nP)))]
  refine v_ifb_eq (tgt := 10) C dX0_add_4 (by decide) (fun h4 => ?_) (fun hbad => absurd hbad (by rw [decide_eq_false (by omega)]; decide))
  refine v_aload_n C dX0_add_10 rfl ?_
  refine v_get C kX0 hA.2.1 0 (by decide) wF_X0_11 rfl dX0_add_11 ?_
  refine v_aload_n C dX0_add_14 rfl ?_
  refine v_get C kX0 hA.2.1 1 (by decide) wF_X0_17 rfl dX0_add_15 ?_
  refine v_aload_n C dX0_add_18 rfl ?_
  refine v_aast C kX5 rfl hA.2.2.1 hp (vp_in_nI (by omega) (by decide)) dX0_add_19 ?_
  show V X (rmD 1 0 0) (mset M pt (aQ (xg X) 3 10 (va_up (fun i => if i < nP then some (pa i) else none) (nI nP : Int32).toNatClampNeg (some p)))) 0 0 [(0, .ref al), (1, .ref p)] 20 []
  rw [up_row (by omega)]
  show V X (rmD 1 0 0) (mset M pt (aQ (xg X) 3 10 (fun i => if i < nP + 1 then some (if i = nP then p else pa i) else none))) 0 0 [(0, .ref al), (1, .ref p)] 20 []
  refine v_aload_n C dX0_add_20 rfl ?_
  refine v_dup C dX0_add_21 rfl ?_
  refine v_get C kX0 ((mset_ne (cell_ne hA.2.1 hA.2.2.1 (by simp))).trans hA.2.1) 1 (by decide) wF_X0_17 rfl dX0_add_22 ?_
  refine v_iconst C dX0_add_25 (v := 1) rfl ?_
  refine v_iadd C dX0_add_26 ?_
  rw [nI_1]
  show V X (rmD 1 0 0) (mset M pt (aQ (xg X) 3 10 (fun i => if i < nP + 1 then some (if i = nP then p else pa i) else none))) 0 0 [(0, .ref al), (1, .ref p)] 27 [.int (nI (nP + 1)), .ref al]
  refine v_put C kX0 ((mset_ne (cell_ne hA.2.1 hA.2.2.1 (by simp))).trans hA.2.1) 1 (by decide) wF_X0_17 rfl rfl rfl (nle rfl) dX0_add_27 ?_
  show V X (rmD 1 0 0) (mset (mset M pt (aQ (xg X) 3 10 (fun i => if i < nP + 1 then some (if i = nP then p else pa i) else none))) al (.inr (0, [.ref pt, .int (nI (nP + 1))]))) 0 0 [(0, .ref al), (1, .ref p)] 30 []
  refine v_aload_n C dX0_add_30 rfl ?_
  refine v_get C kX0 (mset_same _ _ _) 1 (by decide) wF_X0_17 rfl dX0_add_31 ?_
  refine v_iconst C dX0_add_34 (v := 1) rfl ?_
  refine v_isub C dX0_add_35 ?_
  rw [show nI (nP + 1) - 1 = nI nP from pk_sub (a := nP + 1) (b := 1) (by omega)]
  show V X (rmD 1 0 0) (mset (mset M pt (aQ (xg X) 3 10 (fun i => if i < nP + 1 then some (if i = nP then p else pa i) else none))) al (.inr (0, [.ref pt, .int (nI (nP + 1))]))) 0 0 [(0, .ref al), (1, .ref p)] 36 [.int (nI nP)]
  exact v_iret C E dX0_add_36 (nle rfl) (nle rfl) ⟨rfl, rfl⟩

set_option maxHeartbeats 4000000 in
set_option maxRecDepth 100000 in
theorem c_X2_init (l : Launch) (g : Gm) (M : Mem) (a : Nat) (hm : M a = some (.inr (2, [.null, .null, .null, .null, .null, .null]))) : Ct l g yX2_init cX2_init 1 none 1 6 544 [.ref a] M (fun v N => v = none ∧ Old M N a ∧ ∃ f0 f1 f2 f3 ja jb, FlyW g N a f0 f1 f2 f3 ja jb (fun _ _ => 0) (fun _ => 0) (fun _ => 0)) := by
  refine Ct.of (by decide) (Nat.le_of_ble_eq_true rfl) ?_
  intro X hXl hXg hN C E
  subst hXl; subst hXg
  show V X (rmD 1 6 544) M 0 0 [(0, .ref a)] 0 []
  refine v_aload_n C dX2_init_0 rfl ?_
  refine v_obj C wM_X2_3 wI_java_lang_Object__init____V wC_java_lang_Object__init____V (by decide) (nle rfl) dX2_init_1 ?_
  refine v_aload_n C dX2_init_4 rfl ?_
  refine v_bipush C dX2_init_5 (v := 8) rfl ?_
  refine v_newa C 0 (ty0 := .int) (L := 8) (z := (8, .inl (fun _ => 0))) rfl rfl wA_Jvm_ClassFile_FieldType_int (fun U cA h => h) (fun cA => rfl) (by decide) rfl (by decide) (by decide) (by decide) dX2_init_7 (fun q7 hq7 => ?_)
  show V X (rmD 1 6 544) (mset M q7 (aI (xg X) 8 (fun _ => 0))) 1 8 [(0, .ref a)] 9 [.ref q7, .ref a]
  refine v_putF C E rfl kX2 ((mset_ne (fresh_ne hm hq7)).trans hm) 0 (by decide) wF_X2_11 rfl rfl rfl rfl (nle rfl) dX2_init_9 ?_
  show V X (rmD 1 6 544) (mset (mset M q7 (aI (xg X) 8 (fun _ => 0))) a (.inr (2, [.ref q7, .null, .null, .null, .null, .null]))) 1 8 [(0, .ref a)] 12 []
  have na1 : a ≠ q7 := fresh_ne hm hq7
  obtain ⟨P1, hP1⟩ : ∃ Z, Z = mset (mset M q7 (aI (xg X) 8 (fun _ => 0))) a (.inr (2, [.ref q7, .null, .null, .null, .null, .null])) := ⟨_, rfl⟩
  rw [← hP1]
  have ha1 : P1 a = some (.inr (2, [.ref q7, .null, .null, .null, .null, .null])) := by rw [hP1, mset_same]
  have hO1 : Old M P1 a := by rw [hP1]; exact Old.two hq7
  have hr7_1 : P1 q7 = some (aI (xg X) 8 (fun _ => 0)) := by rw [hP1, mset_ne (Ne.symm na1), mset_same]
  show V X (rmD 1 6 544) P1 1 8 [(0, .ref a)] 12 []
  refine v_aload_n C dX2_init_12 rfl ?_
  refine v_bipush C dX2_init_13 (v := 8) rfl ?_
  refine v_newa C 0 (ty0 := .int) (L := 8) (z := (8, .inl (fun _ => 0))) rfl rfl wA_Jvm_ClassFile_FieldType_int (fun U cA h => h) (fun cA => rfl) (by decide) rfl (by decide) (by decide) (by decide) dX2_init_15 (fun q15 hq15 => ?_)
  show V X (rmD 1 6 544) (mset P1 q15 (aI (xg X) 8 (fun _ => 0))) 2 16 [(0, .ref a)] 17 [.ref q15, .ref a]
  refine v_putF C E rfl kX2 ((mset_ne (fresh_ne ha1 hq15)).trans ha1) 1 (by decide) wF_X2_15 rfl rfl rfl rfl (nle rfl) dX2_init_17 ?_
  show V X (rmD 1 6 544) (mset (mset P1 q15 (aI (xg X) 8 (fun _ => 0))) a (.inr (2, [.ref q7, .ref q15, .null, .null, .null, .null]))) 2 16 [(0, .ref a)] 20 []
  have na2 : a ≠ q15 := fresh_ne ha1 hq15
  obtain ⟨P2, hP2⟩ : ∃ Z, Z = mset (mset P1 q15 (aI (xg X) 8 (fun _ => 0))) a (.inr (2, [.ref q7, .ref q15, .null, .null, .null, .null])) := ⟨_, rfl⟩
  rw [← hP2]
  have ha2 : P2 a = some (.inr (2, [.ref q7, .ref q15, .null, .null, .null, .null])) := by rw [hP2, mset_same]
  have hO2 : Old P1 P2 a := by rw [hP2]; exact Old.two hq15
  have hr15_2 : P2 q15 = some (aI (xg X) 8 (fun _ => 0)) := by rw [hP2, mset_ne (Ne.symm na2), mset_same]
  have hr7_2 := hO2 _ _ hr7_1 (Ne.symm na1)
  have nn7_15 : q7 ≠ q15 := fresh_ne hr7_1 hq15
  show V X (rmD 1 6 544) P2 2 16 [(0, .ref a)] 20 []
  refine v_aload_n C dX2_init_20 rfl ?_
  refine v_bipush C dX2_init_21 (v := 8) rfl ?_
  refine v_newa C 0 (ty0 := .int) (L := 8) (z := (8, .inl (fun _ => 0))) rfl rfl wA_Jvm_ClassFile_FieldType_int (fun U cA h => h) (fun cA => rfl) (by decide) rfl (by decide) (by decide) (by decide) dX2_init_23 (fun q23 hq23 => ?_)
  show V X (rmD 1 6 544) (mset P2 q23 (aI (xg X) 8 (fun _ => 0))) 3 24 [(0, .ref a)] 25 [.ref q23, .ref a]
  refine v_putF C E rfl kX2 ((mset_ne (fresh_ne ha2 hq23)).trans ha2) 2 (by decide) wF_X2_18 rfl rfl rfl rfl (nle rfl) dX2_init_25 ?_
  show V X (rmD 1 6 544) (mset (mset P2 q23 (aI (xg X) 8 (fun _ => 0))) a (.inr (2, [.ref q7, .ref q15, .ref q23, .null, .null, .null]))) 3 24 [(0, .ref a)] 28 []
  have na3 : a ≠ q23 := fresh_ne ha2 hq23
  obtain ⟨P3, hP3⟩ : ∃ Z, Z = mset (mset P2 q23 (aI (xg X) 8 (fun _ => 0))) a (.inr (2, [.ref q7, .ref q15, .ref q23, .null, .null, .null])) := ⟨_, rfl⟩
  rw [← hP3]
  have ha3 : P3 a = some (.inr (2, [.ref q7, .ref q15, .ref q23, .null, .null, .null])) := by rw [hP3, mset_same]
  have hO3 : Old P2 P3 a := by rw [hP3]; exact Old.two hq23
  have hr23_3 : P3 q23 = some (aI (xg X) 8 (fun _ => 0)) := by rw [hP3, mset_ne (Ne.symm na3), mset_same]
  have hr7_3 := hO3 _ _ hr7_2 (Ne.symm na1)
  have nn7_23 : q7 ≠ q23 := fresh_ne hr7_2 hq23
  have hr15_3 := hO3 _ _ hr15_2 (Ne.symm na2)
  have nn15_23 : q15 ≠ q23 := fresh_ne hr15_2 hq23
  show V X (rmD 1 6 544) P3 3 24 [(0, .ref a)] 28 []
  refine v_aload_n C dX2_init_28 rfl ?_
  refine v_bipush C dX2_init_29 (v := 8) rfl ?_
  refine v_newa C 0 (ty0 := .int) (L := 8) (z := (8, .inl (fun _ => 0))) rfl rfl wA_Jvm_ClassFile_FieldType_int (fun U cA h => h) (fun cA => rfl) (by decide) rfl (by decide) (by decide) (by decide) dX2_init_31 (fun q31 hq31 => ?_)
  show V X (rmD 1 6 544) (mset P3 q31 (aI (xg X) 8 (fun _ => 0))) 4 32 [(0, .ref a)] 33 [.ref q31, .ref a]
  refine v_putF C E rfl kX2 ((mset_ne (fresh_ne ha3 hq31)).trans ha3) 3 (by decide) wF_X2_21 rfl rfl rfl rfl (nle rfl) dX2_init_33 ?_
  show V X (rmD 1 6 544) (mset (mset P3 q31 (aI (xg X) 8 (fun _ => 0))) a (.inr (2, [.ref q7, .ref q15, .ref q23, .ref q31, .null, .null]))) 4 32 [(0, .ref a)] 36 []
  have na4 : a ≠ q31 := fresh_ne ha3 hq31
  obtain ⟨P4, hP4⟩ : ∃ Z, Z = mset (mset P3 q31 (aI (xg X) 8 (fun _ => 0))) a (.inr (2, [.ref q7, .ref q15, .ref q23, .ref q31, .null, .null])) := ⟨_, rfl⟩
  rw [← hP4]
  have ha4 : P4 a = some (.inr (2, [.ref q7, .ref q15, .ref q23, .ref q31, .null, .null])) := by rw [hP4, mset_same]
  have hO4 : Old P3 P4 a := by rw [hP4]; exact Old.two hq31
  have hr31_4 : P4 q31 = some (aI (xg X) 8 (fun _ => 0)) := by rw [hP4, mset_ne (Ne.symm na4), mset_same]
  have hr7_4 := hO4 _ _ hr7_3 (Ne.symm na1)
  have nn7_31 : q7 ≠ q31 := fresh_ne hr7_3 hq31
  have hr15_4 := hO4 _ _ hr15_3 (Ne.symm na2)
  have nn15_31 : q15 ≠ q31 := fresh_ne hr15_3 hq31
  have hr23_4 := hO4 _ _ hr23_3 (Ne.symm na3)
  have nn23_31 : q23 ≠ q31 := fresh_ne hr23_3 hq31
  show V X (rmD 1 6 544) P4 4 32 [(0, .ref a)] 36 []
  refine v_aload_n C dX2_init_36 rfl ?_
  refine v_sipush C dX2_init_37 (v := 256) rfl ?_
  refine v_newa C 1 (ty0 := .long) (L := 256) (z := (256, .inr (.inl (fun _ => 0)))) rfl rfl wA_Jvm_ClassFile_FieldType_long (fun U cA h => h) (fun cA => rfl) (by decide) rfl (by decide) (by decide) (by decide) dX2_init_40 (fun q40 hq40 => ?_)
  show V X (rmD 1 6 544) (mset P4 q40 (aJ (xg X) 256 (fun _ => 0))) 5 288 [(0, .ref a)] 42 [.ref q40, .ref a]
  refine v_putF C E rfl kX2 ((mset_ne (fresh_ne ha4 hq40)).trans ha4) 4 (by decide) wF_X2_24 rfl rfl rfl rfl (nle rfl) dX2_init_42 ?_
  show V X (rmD 1 6 544) (mset (mset P4 q40 (aJ (xg X) 256 (fun _ => 0))) a (.inr (2, [.ref q7, .ref q15, .ref q23, .ref q31, .ref q40, .null]))) 5 288 [(0, .ref a)] 45 []
  have na5 : a ≠ q40 := fresh_ne ha4 hq40
  obtain ⟨P5, hP5⟩ : ∃ Z, Z = mset (mset P4 q40 (aJ (xg X) 256 (fun _ => 0))) a (.inr (2, [.ref q7, .ref q15, .ref q23, .ref q31, .ref q40, .null])) := ⟨_, rfl⟩
  rw [← hP5]
  have ha5 : P5 a = some (.inr (2, [.ref q7, .ref q15, .ref q23, .ref q31, .ref q40, .null])) := by rw [hP5, mset_same]
  have hO5 : Old P4 P5 a := by rw [hP5]; exact Old.two hq40
  have hr40_5 : P5 q40 = some (aJ (xg X) 256 (fun _ => 0)) := by rw [hP5, mset_ne (Ne.symm na5), mset_same]
  have hr7_5 := hO5 _ _ hr7_4 (Ne.symm na1)
  have nn7_40 : q7 ≠ q40 := fresh_ne hr7_4 hq40
  have hr15_5 := hO5 _ _ hr15_4 (Ne.symm na2)
  have nn15_40 : q15 ≠ q40 := fresh_ne hr15_4 hq40
  have hr23_5 := hO5 _ _ hr23_4 (Ne.symm na3)
  have nn23_40 : q23 ≠ q40 := fresh_ne hr23_4 hq40
  have hr31_5 := hO5 _ _ hr31_4 (Ne.symm na4)
  have nn31_40 : q31 ≠ q40 := fresh_ne hr31_4 hq40
  show V X (rmD 1 6 544) P5 5 288 [(0, .ref a)] 45 []
  refine v_aload_n C dX2_init_45 rfl ?_
  refine v_sipush C dX2_init_46 (v := 256) rfl ?_
  refine v_newa C 1 (ty0 := .long) (L := 256) (z := (256, .inr (.inl (fun _ => 0)))) rfl rfl wA_Jvm_ClassFile_FieldType_long (fun U cA h => h) (fun cA => rfl) (by decide) rfl (by decide) (by decide) (by decide) dX2_init_49 (fun q49 hq49 => ?_)
  show V X (rmD 1 6 544) (mset P5 q49 (aJ (xg X) 256 (fun _ => 0))) 6 544 [(0, .ref a)] 51 [.ref q49, .ref a]
  refine v_putF C E rfl kX2 ((mset_ne (fresh_ne ha5 hq49)).trans ha5) 5 (by decide) wF_X2_28 rfl rfl rfl rfl (nle rfl) dX2_init_51 ?_
  show V X (rmD 1 6 544) (mset (mset P5 q49 (aJ (xg X) 256 (fun _ => 0))) a (.inr (2, [.ref q7, .ref q15, .ref q23, .ref q31, .ref q40, .ref q49]))) 6 544 [(0, .ref a)] 54 []
  have na6 : a ≠ q49 := fresh_ne ha5 hq49
  obtain ⟨P6, hP6⟩ : ∃ Z, Z = mset (mset P5 q49 (aJ (xg X) 256 (fun _ => 0))) a (.inr (2, [.ref q7, .ref q15, .ref q23, .ref q31, .ref q40, .ref q49])) := ⟨_, rfl⟩
  rw [← hP6]
  have ha6 : P6 a = some (.inr (2, [.ref q7, .ref q15, .ref q23, .ref q31, .ref q40, .ref q49])) := by rw [hP6, mset_same]
  have hO6 : Old P5 P6 a := by rw [hP6]; exact Old.two hq49
  have hr49_6 : P6 q49 = some (aJ (xg X) 256 (fun _ => 0)) := by rw [hP6, mset_ne (Ne.symm na6), mset_same]
  have hr7_6 := hO6 _ _ hr7_5 (Ne.symm na1)
  have nn7_49 : q7 ≠ q49 := fresh_ne hr7_5 hq49
  have hr15_6 := hO6 _ _ hr15_5 (Ne.symm na2)
  have nn15_49 : q15 ≠ q49 := fresh_ne hr15_5 hq49
  have hr23_6 := hO6 _ _ hr23_5 (Ne.symm na3)
  have nn23_49 : q23 ≠ q49 := fresh_ne hr23_5 hq49
  have hr31_6 := hO6 _ _ hr31_5 (Ne.symm na4)
  have nn31_49 : q31 ≠ q49 := fresh_ne hr31_5 hq49
  have hr40_6 := hO6 _ _ hr40_5 (Ne.symm na5)
  have nn40_49 : q40 ≠ q49 := fresh_ne hr40_5 hq49
  show V X (rmD 1 6 544) P6 6 544 [(0, .ref a)] 54 []
  exact v_vret C E dX2_init_54 (nle rfl) (nle rfl) ⟨rfl, fun b e hb hne => hO6 _ _ (hO5 _ _ (hO4 _ _ (hO3 _ _ (hO2 _ _ (hO1 _ _ hb hne) hne) hne) hne) hne) hne, q7, q15, q23, q31, q40, q49, ha6, hr7_6, hr15_6, hr23_6, hr31_6, hr40_6, hr49_6, fun i hi => by simp, nn7_15, nn7_23, nn7_31, nn15_23, nn15_31, nn23_31, nn40_49⟩

set_option maxHeartbeats 4000000 in
set_option maxRecDepth 100000 in
theorem c_X8_init (l : Launch) (g : Gm) (M : Mem) (a : Nat) (hm : M a = some (.inr (8, [.null, .int 0, .null, .null]))) : Ct l g yX8_init cX8_init 1 none 1 8 250 [.ref a] M (fun v N => v = none ∧ Old M N a ∧ ∃ sa xa na ta, UseW g N a sa xa na ta 0 (fun _ => 0) (fun _ => 0) (fun _ _ => 0)) := by
  refine Ct.of (by decide) (Nat.le_of_ble_eq_true rfl) ?_
  intro X hXl hXg hN C E
  subst hXl; subst hXg
  show V X (rmD 1 8 250) M 0 0 [(0, .ref a)] 0 []
  refine v_aload_n C dX8_init_0 rfl ?_
  refine v_obj C wM_X8_3 wI_java_lang_Object__init____V wC_java_lang_Object__init____V (by decide) (nle rfl) dX8_init_1 ?_
  refine v_aload_n C dX8_init_4 rfl ?_
  refine v_bipush C dX8_init_5 (v := 40) rfl ?_
  refine v_newa C 0 (ty0 := .int) (L := 40) (z := (40, .inl (fun _ => 0))) rfl rfl wA_Jvm_ClassFile_FieldType_int (fun U cA h => h) (fun cA => rfl) (by decide) rfl (by decide) (by decide) (by decide) dX8_init_7 (fun q7 hq7 => ?_)
  show V X (rmD 1 8 250) (mset M q7 (aI (xg X) 40 (fun _ => 0))) 1 40 [(0, .ref a)] 9 [.ref q7, .ref a]
  refine v_putF C E rfl kX8 ((mset_ne (fresh_ne hm hq7)).trans hm) 0 (by decide) wF_X8_11 rfl rfl rfl rfl (nle rfl) dX8_init_9 ?_
  show V X (rmD 1 8 250) (mset (mset M q7 (aI (xg X) 40 (fun _ => 0))) a (.inr (8, [.ref q7, .int 0, .null, .null]))) 1 40 [(0, .ref a)] 12 []
  obtain ⟨P1, hP1⟩ : ∃ Z, Z = mset (mset M q7 (aI (xg X) 40 (fun _ => 0))) a (.inr (8, [.ref q7, .int 0, .null, .null])) := ⟨_, rfl⟩
  rw [← hP1]
  have na1 : a ≠ q7 := fresh_ne hm hq7
  have ha1 : P1 a = some (.inr (8, [.ref q7, .int 0, .null, .null])) := by rw [hP1, mset_same]
  have hO1 : Old M P1 a := by rw [hP1]; exact Old.two hq7
  have hs1 : P1 q7 = some (aI (xg X) 40 (fun _ => 0)) := by rw [hP1, mset_ne (Ne.symm na1), mset_same]
  show V X (rmD 1 8 250) P1 1 40 [(0, .ref a)] 12 []
  refine v_aload_n C dX8_init_12 rfl ?_
  refine v_iconst C dX8_init_13 (v := 5) rfl ?_
  refine v_bipush C dX8_init_14 (v := 40) rfl ?_
  refine v_mna C wL_X8_15 wO_Jvm_ClassFile_FieldType_array_Jvm_ClassFile_FieldType_int wA_Jvm_ClassFile_FieldType_int (by decide) (by decide) dX8_init_16 (fun q16 r16 hir16 hrr16 hq16 => ?_)
  show V X (rmD 1 8 250) (msetN (mset P1 q16 (aQ (xg X) 5 5 (fun i => if i < 5 then some (r16 i) else none))) r16 5 (aI (xg X) 40 (fun _ => 0))) 7 245 [(0, .ref a)] 20 [.ref q16, .ref a]
  refine v_putF C E rfl kX8 ((msetN_ne (fun i hi => fresh_ne ha1 (hrr16 i hi).1)).trans ((mset_ne (fresh_ne ha1 hq16)).trans ha1)) 2 (by decide) wF_X8_17 rfl rfl rfl rfl (nle rfl) dX8_init_20 ?_
  show V X (rmD 1 8 250) (mset (msetN (mset P1 q16 (aQ (xg X) 5 5 (fun i => if i < 5 then some (r16 i) else none))) r16 5 (aI (xg X) 40 (fun _ => 0))) a (.inr (8, [.ref q7, .int 0, .ref q16, .null]))) 7 245 [(0, .ref a)] 23 []
  obtain ⟨P2, hP2⟩ : ∃ Z, Z = mset (msetN (mset P1 q16 (aQ (xg X) 5 5 (fun i => if i < 5 then some (r16 i) else none))) r16 5 (aI (xg X) 40 (fun _ => 0))) a (.inr (8, [.ref q7, .int 0, .ref q16, .null])) := ⟨_, rfl⟩
  rw [← hP2]
  have na2 : a ≠ q16 := fresh_ne ha1 hq16
  have na3 : ∀ i, i < 5 → a ≠ r16 i := fun i hi => fresh_ne ha1 (hrr16 i hi).1
  have ha2 : P2 a = some (.inr (8, [.ref q7, .int 0, .ref q16, .null])) := by rw [hP2, mset_same]
  have hO2 : Old P1 P2 a := fun b e hb hne => by rw [hP2, mset_ne hne, msetN_ne (fun i hi => fresh_ne hb (hrr16 i hi).1), mset_ne (fresh_ne hb hq16)]; exact hb
  have hs2 := hO2 _ _ hs1 (Ne.symm na1)
  have hx2 : P2 q16 = some (aQ (xg X) 5 5 (fun i => if i < 5 then some (r16 i) else none)) := by rw [hP2, mset_ne (Ne.symm na2), msetN_ne (fun i hi => Ne.symm (hrr16 i hi).2), mset_same]
  have ht2 : ∀ u, u < 5 → P2 (r16 u) = some (aI (xg X) 40 (fun _ => 0)) ∧ q7 ≠ r16 u := fun u hu => ⟨by rw [hP2, mset_ne (Ne.symm (na3 u hu)), msetN_in hu], fresh_ne hs1 (hrr16 u hu).1⟩
  show V X (rmD 1 8 250) P2 7 245 [(0, .ref a)] 23 []
  refine v_aload_n C dX8_init_23 rfl ?_
  refine v_iconst C dX8_init_24 (v := 5) rfl ?_
  refine v_newa C 0 (ty0 := .int) (L := 5) (z := (5, .inl (fun _ => 0))) rfl rfl wA_Jvm_ClassFile_FieldType_int (fun U cA h => h) (fun cA => rfl) (by decide) rfl (by decide) (by decide) (by decide) dX8_init_25 (fun q25 hq25 => ?_)
  show V X (rmD 1 8 250) (mset P2 q25 (aI (xg X) 5 (fun _ => 0))) 8 250 [(0, .ref a)] 27 [.ref q25, .ref a]
  refine v_putF C E rfl kX8 ((mset_ne (fresh_ne ha2 hq25)).trans ha2) 3 (by decide) wF_X8_20 rfl rfl rfl rfl (nle rfl) dX8_init_27 ?_
  show V X (rmD 1 8 250) (mset (mset P2 q25 (aI (xg X) 5 (fun _ => 0))) a (.inr (8, [.ref q7, .int 0, .ref q16, .ref q25]))) 8 250 [(0, .ref a)] 30 []
  obtain ⟨P3, hP3⟩ : ∃ Z, Z = mset (mset P2 q25 (aI (xg X) 5 (fun _ => 0))) a (.inr (8, [.ref q7, .int 0, .ref q16, .ref q25])) := ⟨_, rfl⟩
  rw [← hP3]
  have ha3 : P3 a = some (.inr (8, [.ref q7, .int 0, .ref q16, .ref q25])) := by rw [hP3, mset_same]
  have hO3 : Old P2 P3 a := by rw [hP3]; exact Old.two hq25
  have hn3 : P3 q25 = some (aI (xg X) 5 (fun _ => 0)) := by rw [hP3, mset_ne (Ne.symm (fresh_ne ha2 hq25)), mset_same]
  show V X (rmD 1 8 250) P3 8 250 [(0, .ref a)] 30 []
  exact v_vret C E dX8_init_30 (nle rfl) (nle rfl) ⟨rfl, fun b e hb hne => hO3 _ _ (hO2 _ _ (hO1 _ _ hb hne) hne) hne, q7, q16, q25, r16, by omega, ha3, hO3 _ _ hs2 (Ne.symm na1), hO3 _ _ hx2 (Ne.symm na2), hn3, fun u hu => ⟨hO3 _ _ (ht2 u hu).1 (Ne.symm (na3 u hu)), Nat.zero_le _, (ht2 u hu).2, fun v hv huv z => huv (hir16 u v hu hv z)⟩⟩


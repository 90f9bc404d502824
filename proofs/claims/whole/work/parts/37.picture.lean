/-! Picture: what is asked of it. -/
set_option maxHeartbeats 4000000 in
set_option maxRecDepth 100000 in
theorem c_X5_day (l : Launch) (g : Gm) (M : Mem) (pa ca ka ra : Nat) (pf : Nat → Nat) (pl ph : Int64) (cn lk : Nat → Int32) (hP : PicW g M pa ca ka ra pf pl ph cn lk) : Ct l g yX5_day cX5_day 1 (some .int) 0 0 0 [.ref pa] M (fun v N => v = some (.int (nI (pf 2))) ∧ N = M) := by
  refine Ct.of (by decide) (Nat.le_of_ble_eq_true rfl) ?_
  intro X hXl hXg hN C E
  subst hXl; subst hXg
  show V X (rmD 0 0 0) M 0 0 [(0, .ref pa)] 0 []
  refine v_aload_n C dX5_day_0 rfl ?_
  refine v_get C kX5 hP.2.2.1 2 (by decide) wF_X5_32 rfl dX5_day_1 ?_
  exact v_iret C E dX5_day_4 (nle rfl) (nle rfl) ⟨rfl, rfl⟩

set_option maxHeartbeats 4000000 in
set_option maxRecDepth 100000 in
theorem c_X5_shadowOf (l : Launch) (g : Gm) (M : Mem) (pa ca ka ra : Nat) (pf : Nat → Nat) (pl ph : Int64) (cn lk : Nat → Int32) (k : Nat) (hk : k ≤ 20) (hP : PicW g M pa ca ka ra pf pl ph cn lk) : Ct l g yX5_shadowOf cX5_shadowOf 2 (some .int) 0 0 0 [.ref pa, .int (nI k)] M (fun v N => v = some (.int (nI (k * pf 4 / 10))) ∧ N = M) := by
  refine Ct.of (by decide) (Nat.le_of_ble_eq_true rfl) ?_
  intro X hXl hXg hN C E
  subst hXl; subst hXg
  show V X (rmD 0 0 0) M 0 0 [(0, .ref pa), (1, .int (nI k))] 0 []
  refine v_iload_n C dX5_shadowOf_0 rfl ?_
  refine v_aload_n C dX5_shadowOf_1 rfl ?_
  refine v_get C kX5 hP.2.2.1 4 (by decide) wF_X5_38 rfl dX5_shadowOf_2 ?_
  refine v_imul C dX5_shadowOf_5 ?_
  refine v_bipush C dX5_shadowOf_6 (v := 10) rfl ?_
  refine v_idiv C dX5_shadowOf_8 (by decide) ?_
  exact v_iret C E dX5_shadowOf_9 (nle rfl) (nle rfl) ⟨by rw [(reach_N hP.1 hk).1], rfl⟩

set_option maxHeartbeats 4000000 in
set_option maxRecDepth 100000 in
theorem c_X5_covers (l : Launch) (g : Gm) (M : Mem) (pa ca ka ra : Nat) (pf : Nat → Nat) (pl ph : Int64) (cn lk : Nat → Int32) (c : Nat) (hc : c < 96) (hP : PicW g M pa ca ka ra pf pl ph cn lk) : Ct l g yX5_covers cX5_covers 2 (some .boolean) 1 0 0 [.ref pa, .int (nI c)] M (fun v N => v = some (.int (bI (covN pf (tk pl ph) c))) ∧ N = M) := by
  refine Ct.of (by decide) (Nat.le_of_ble_eq_true rfl) ?_
  intro X hXl hXg hN C E
  subst hXl; subst hXg
  show V X (rmD 1 0 0) M 0 0 [(0, .ref pa), (1, .int (nI c))] 0 []
  refine v_iload_n C dX5_covers_0 rfl ?_
  refine v_callSN (As := [.int (nI c)]) (rest := []) C (c_X9_isCell (xl X) (xg X) (nI c) M) pm_X9_isCell wT_X9_isCell wMN_X5_86 ⟨by decide, by decide⟩ ⟨by decide, by decide⟩ (nle rfl) dX5_covers_1 rfl (dt1 ?_)
  show V X (rmD 1 0 0) M 0 0 [(0, .ref pa), (1, .int (nI c))] 4 [.int (bI (qin (nI c) 0 95))]
  refine v_ifb_eq (tgt := 40) C dX5_covers_4 (by decide) (fun hbad => absurd hbad (by rw [qin_c hc]; decide)) (fun h4 => ?_)
  refine v_iload_n C dX5_covers_7 rfl ?_
  refine v_bipush C dX5_covers_8 (v := 12) rfl ?_
  refine v_irem C dX5_covers_10 (by decide) ?_
  refine v_aload_n C dX5_covers_11 rfl ?_
  refine v_get C kX5 hP.2.2.1 0 (by decide) wF_X5_25 rfl dX5_covers_12 ?_
  refine v_aload_n C dX5_covers_15 rfl ?_
  refine v_get C kX5 hP.2.2.1 1 (by decide) wF_X5_29 rfl dX5_covers_16 ?_
  rw [cell_mod (by omega)]
  show V X (rmD 1 0 0) M 0 0 [(0, .ref pa), (1, .int (nI c))] 19 [.int (nI (pf 1)), .int (nI (pf 0)), .int (nI (c % 12))]
  refine v_callSN (As := [.int (nI (c % 12)), .int (nI (pf 0)), .int (nI (pf 1))]) (rest := []) C (c_X9_isWithin (xl X) (xg X) (nI (c % 12)) (nI (pf 0)) (nI (pf 1)) M) pm_X9_isWithin wT_X9_isWithin wMN_X5_64 ⟨by decide, by decide⟩ ⟨by decide, by decide⟩ (nle rfl) dX5_covers_19 rfl (dt1 ?_)
  show V X (rmD 1 0 0) M 0 0 [(0, .ref pa), (1, .int (nI c))] 22 [.int (bI (qin (nI (c % 12)) (nI (pf 0)) (nI (pf 1))))]
  rw [cov_N (B := tk pl ph) hP.1 hc]
  show V X (rmD 1 0 0) M 0 0 [(0, .ref pa), (1, .int (nI c))] 22 [.int (bI (decide (pf 0 ≤ c % 12) && decide (c % 12 ≤ pf 1)))]
  refine v_ifb_eq (tgt := 40) C dX5_covers_22 (by decide) (fun h22 => ?_) (fun h22 => ?_)
  · refine v_iconst C dX5_covers_40 (v := 0) rfl ?_
    exact v_zret C E dX5_covers_41 (nle rfl) (nle rfl) (by decide) ⟨by first | (rw [covN, h22, h33]; rfl) | (rw [covN, h22]; rfl), rfl⟩
  · refine v_aload_n C dX5_covers_25 rfl ?_
    refine v_get C kX5 hP.2.2.1 5 (by decide) wF_X5_12 rfl dX5_covers_26 ?_
    refine v_iload_n C dX5_covers_29 rfl ?_
    refine v_callV (As := [.int (nI c)]) (rest := []) (b := ca) C (c_X7_has (xl X) (xg X) M ca pl ph c hP.2.2.2.1 (by omega)) pm_X7_has wI_X7_has wS_X7_has wM_X5_90 kX7 hP.2.2.2.1 ⟨by decide, by decide⟩ ⟨by decide, by decide⟩ (nle rfl) dX5_covers_30 rfl (dt1 ?_)
    show V X (rmD 1 0 0) M 0 0 [(0, .ref pa), (1, .int (nI c))] 33 [.int (bI (tk pl ph c))]
    refine v_ifb_ne (tgt := 40) C dX5_covers_33 (by decide) (fun h33 => ?_) (fun h33 => ?_)
    · refine v_iconst C dX5_covers_40 (v := 0) rfl ?_
      exact v_zret C E dX5_covers_41 (nle rfl) (nle rfl) (by decide) ⟨by first | (rw [covN, h22, h33]; rfl) | (rw [covN, h22]; rfl), rfl⟩
    · refine v_iconst C dX5_covers_36 (v := 1) rfl ?_
      refine v_goto (tgt := 41) C dX5_covers_37 (by decide) ?_
      exact v_zret C E dX5_covers_41 (nle rfl) (nle rfl) (by decide) ⟨by first | (rw [covN, h22, h33]; rfl) | (rw [covN, h22]; rfl), rfl⟩

set_option maxHeartbeats 4000000 in
set_option maxRecDepth 100000 in
theorem c_X5_look (l : Launch) (g : Gm) (M : Mem) (pa ca ka ra : Nat) (pf : Nat → Nat) (pl ph : Int64) (cn lk : Nat → Int32) (c : Nat) (hc : c < 96) (hP : PicW g M pa ca ka ra pf pl ph cn lk) : Ct l g yX5_look cX5_look 2 (some .int) 2 0 0 [.ref pa, .int (nI c)] M (fun v N => v = some (.int (lookI pf (tk pl ph) lk c)) ∧ N = M) := by
  refine Ct.of (by decide) (Nat.le_of_ble_eq_true rfl) ?_
  intro X hXl hXg hN C E
  subst hXl; subst hXg
  show V X (rmD 2 0 0) M 0 0 [(0, .ref pa), (1, .int (nI c))] 0 []
  refine v_aload_n C dX5_look_0 rfl ?_
  refine v_iload_n C dX5_look_1 rfl ?_
  refine v_callV (As := [.int (nI c)]) (rest := []) (b := pa) C (c_X5_covers (xl X) (xg X) M pa ca ka ra pf pl ph cn lk c hc hP) pm_X5_covers wI_X5_covers wS_X5_covers wM_X5_93 kX5 hP.2.2.1 ⟨by decide, by decide⟩ ⟨by decide, by decide⟩ (nle rfl) dX5_look_2 rfl (dt1 ?_)
  show V X (rmD 2 0 0) M 0 0 [(0, .ref pa), (1, .int (nI c))] 5 [.int (bI (covN pf (tk pl ph) c))]
  refine v_ifb_eq (tgt := 17) C dX5_look_5 (by decide) (fun h5 => ?_) (fun h5 => ?_)
  · refine v_bipush C dX5_look_17 (v := (-6)) rfl ?_
    exact v_iret C E dX5_look_19 (nle rfl) (nle rfl) ⟨by rw [lookI, h5]; rfl, rfl⟩
  · refine v_aload_n C dX5_look_8 rfl ?_
    refine v_get C kX5 hP.2.2.1 7 (by decide) wF_X5_22 rfl dX5_look_9 ?_
    refine v_iload_n C dX5_look_12 rfl ?_
    refine v_iald C hP.2.2.2.2.2 (vp_in_nI hc (by decide)) dX5_look_13 ?_
    refine v_goto (tgt := 19) C dX5_look_14 (by decide) ?_
    exact v_iret C E dX5_look_19 (nle rfl) (nle rfl) ⟨by rw [lookI, h5, nI_clamp (by omega)]; rfl, rfl⟩

set_option maxHeartbeats 4000000 in
set_option maxRecDepth 100000 in
theorem c_X5_counting (l : Launch) (g : Gm) (M : Mem) (pa ca ka ra : Nat) (pf : Nat → Nat) (pl ph : Int64) (cn lk : Nat → Int32) (c : Nat) (hc : c < 96) (hP : PicW g M pa ca ka ra pf pl ph cn lk) : Ct l g yX5_counting cX5_counting 2 (some .int) 1 0 0 [.ref pa, .int (nI c)] M (fun v N => v = some (.int (cn c)) ∧ N = M) := by
  refine Ct.of (by decide) (Nat.le_of_ble_eq_true rfl) ?_
  intro X hXl hXg hN C E
  subst hXl; subst hXg
  show V X (rmD 1 0 0) M 0 0 [(0, .ref pa), (1, .int (nI c))] 0 []
  refine v_iload_n C dX5_counting_0 rfl ?_
  refine v_callSN (As := [.int (nI c)]) (rest := []) C (c_X9_isCell (xl X) (xg X) (nI c) M) pm_X9_isCell wT_X9_isCell wMN_X5_86 ⟨by decide, by decide⟩ ⟨by decide, by decide⟩ (nle rfl) dX5_counting_1 rfl (dt1 ?_)
  show V X (rmD 1 0 0) M 0 0 [(0, .ref pa), (1, .int (nI c))] 4 [.int (bI (qin (nI c) 0 95))]
  refine v_ifb_eq (tgt := 16) C dX5_counting_4 (by decide) (fun hbad => absurd hbad (by rw [qin_c hc]; decide)) (fun h4 => ?_)
  refine v_aload_n C dX5_counting_7 rfl ?_
  refine v_get C kX5 hP.2.2.1 6 (by decide) wF_X5_18 rfl dX5_counting_8 ?_
  refine v_iload_n C dX5_counting_11 rfl ?_
  refine v_iald C hP.2.2.2.2.1 (vp_in_nI hc (by decide)) dX5_counting_12 ?_
  refine v_goto (tgt := 18) C dX5_counting_13 (by decide) ?_
  exact v_iret C E dX5_counting_18 (nle rfl) (nle rfl) ⟨by rw [nI_clamp (by omega)], rfl⟩

set_option maxHeartbeats 4000000 in
set_option maxRecDepth 100000 in
theorem c_X5_sortOf (l : Launch) (g : Gm) (M : Mem)  (x : Int32)  : Ct l g yX5_sortOf cX5_sortOf 1 (some .int) 0 0 0 [.int x] M (fun v N => v = some (.int (sortI x)) ∧ N = M) := by
  refine Ct.of (by decide) (Nat.le_of_ble_eq_true rfl) ?_
  intro X hXl hXg hN C E
  subst hXl; subst hXg
  show V X (rmD 0 0 0) M 0 0 [(0, .int x)] 0 []
  refine v_iload_n C dX5_sortOf_0 rfl ?_
  refine v_bipush C dX5_sortOf_1 (v := (-6)) rfl ?_
  refine v_icmp_ne (tgt := 8) C dX5_sortOf_3 (by decide) (fun h3 => ?_) (fun h3 => ?_)
  · refine v_iload_n C dX5_sortOf_8 rfl ?_
    refine v_if_ne (tgt := 14) C dX5_sortOf_9 (by decide) (fun h9 => ?_) (fun h9 => ?_)
    · refine v_iload_n C dX5_sortOf_14 rfl ?_
      refine v_iconst C dX5_sortOf_15 (v := 1) rfl ?_
      refine v_icmp_ne (tgt := 23) C dX5_sortOf_16 (by decide) (fun h16 => ?_) (fun h16 => ?_)
      · refine v_iconst C dX5_sortOf_23 (v := 3) rfl ?_
        exact v_iret C E dX5_sortOf_24 (nle rfl) (nle rfl) ⟨by simp_all [sortI], rfl⟩
      · refine v_iconst C dX5_sortOf_19 (v := 2) rfl ?_
        refine v_goto (tgt := 24) C dX5_sortOf_20 (by decide) ?_
        exact v_iret C E dX5_sortOf_24 (nle rfl) (nle rfl) ⟨by simp_all [sortI], rfl⟩
    · refine v_iconst C dX5_sortOf_12 (v := 1) rfl ?_
      exact v_iret C E dX5_sortOf_13 (nle rfl) (nle rfl) ⟨by simp_all [sortI], rfl⟩
  · refine v_iconst C dX5_sortOf_6 (v := 0) rfl ?_
    exact v_iret C E dX5_sortOf_7 (nle rfl) (nle rfl) ⟨by simp_all [sortI], rfl⟩

set_option maxHeartbeats 4000000 in
set_option maxRecDepth 100000 in
theorem c_X5_tickCloud (l : Launch) (g : Gm) (M : Mem) (pa ca ka ra : Nat) (pf : Nat → Nat) (pl ph : Int64) (cn lk : Nat → Int32) (j : Nat) (b : Bool) (hj : j < 128) (hP : PicW g M pa ca ka ra pf pl ph cn lk) : Ct l g yX5_tickCloud cX5_tickCloud 3 (some .boolean) 2 0 0 [.ref pa, .int (nI j), .int (bI b)] M (fun w N => w = some (.int (bI (tk pl ph j))) ∧ ∃ lo' hi' : Int64, N = mset M ca (.inr (7, [.long lo', .long hi'])) ∧ ∀ i, i < 128 → tk lo' hi' i = if i = j then b else tk pl ph i) := by
  refine Ct.of (by decide) (Nat.le_of_ble_eq_true rfl) ?_
  intro X hXl hXg hN C E
  subst hXl; subst hXg
  show V X (rmD 2 0 0) M 0 0 [(0, .ref pa), (1, .int (nI j)), (2, .int (bI b))] 0 []
  refine v_aload_n C dX5_tickCloud_0 rfl ?_
  refine v_get C kX5 hP.2.2.1 5 (by decide) wF_X5_12 rfl dX5_tickCloud_1 ?_
  refine v_iload_n C dX5_tickCloud_4 rfl ?_
  refine v_iload_n C dX5_tickCloud_5 rfl ?_
  refine v_callV (As := [.int (nI j), .int (bI b)]) (rest := []) (b := ca) C (c_X7_put (xl X) (xg X) M ca pl ph j b hP.2.2.2.1 hj) pm_X7_put wI_X7_put wS_X7_put wM_X5_82 kX7 hP.2.2.2.1 ⟨by decide, by decide⟩ ⟨by decide, by decide⟩ (nle rfl) dX5_tickCloud_6 rfl ?_
  rintro _ _ ⟨rfl, lo', hi', rfl, hq⟩
  show V X (rmD 2 0 0) (mset M ca (.inr (7, [.long (lo'), .long (hi')]))) 0 0 [(0, .ref pa), (1, .int (nI j)), (2, .int (bI b))] 9 [.int (bI (tk pl ph j))]
  exact v_zret C E dX5_tickCloud_9 (nle rfl) (nle rfl) (bI_01 _) ⟨rfl, _, _, rfl, hq⟩

set_option maxHeartbeats 4000000 in
set_option maxRecDepth 100000 in
theorem c_X5_tally (l : Launch) (g : Gm) (M : Mem) (pa ca ka ra : Nat) (pf : Nat → Nat) (pl ph : Int64) (cn lk : Nat → Int32) (z : Nat) (hP : PicW g M pa ca ka ra pf pl ph cn lk) : Ct l g yX5_tally cX5_tally 4 (some .int) 3 0 0 [.ref pa, .int (nI z)] M (fun v N => v = some (.int (nI (cntB (fun c => decide (sortI (lookI pf (tk pl ph) lk c) = nI z)) 96))) ∧ N = M) := by
  refine Ct.of (by decide) (Nat.le_of_ble_eq_true rfl) ?_
  intro X hXl hXg hN C E
  subst hXl; subst hXg
  show V X (rmD 3 0 0) M 0 0 [(0, .ref pa), (1, .int (nI z))] 0 []
  refine v_iconst C dX5_tally_0 (v := 0) rfl ?_
  refine v_istore_n (lv' := [(2, .int 0), (0, .ref pa), (1, .int (nI z))]) C dX5_tally_1 hN (by decide) rfl ?_
  refine v_iconst C dX5_tally_2 (v := 0) rfl ?_
  refine v_istore_n (lv' := [(3, .int 0), (2, .int 0), (0, .ref pa), (1, .int (nI z))]) C dX5_tally_3 hN (by decide) rfl ?_
  refine v_sub (lv' := [(0, .ref pa), (1, .int (nI z)), (2, .int 0), (3, .int 0)]) [2, 3, 1, 0] rfl ?_
  have lp4 : ∀ (mm : Nat) (i : Nat) (h1 : i ≤ 96), 96 - i < mm → V X (rmD 3 0 0) M 0 0 [(0, .ref pa), (1, .int (nI z)), (2, .int (nI (cntB (fun c => decide (sortI (lookI pf (tk pl ph) lk c) = nI z)) i))), (3, .int (nI i))] 4 [] := by
    intro mm
    induction mm with
    | zero => intro i h1 hmu; exact absurd hmu (Nat.not_lt_zero _)
    | succ mm ih4 =>
      intro i h1 hmu
      refine v_iload_n C dX5_tally_4 rfl ?_
      refine v_bipush C dX5_tally_5 (v := 96) rfl ?_
      refine v_icmp_ge (tgt := 31) C dX5_tally_7 (by decide) (fun h7 => ?_) (fun h7 => ?_)
      · have g7 : i = 96 := Nat.le_antisymm h1 (nI_leN (a := 96) (by decide) (by omega) h7)
        refine v_iload_n C dX5_tally_31 rfl ?_
        exact v_iret C E dX5_tally_32 (nle rfl) (nle rfl) ⟨by rw [g7], rfl⟩
      · have hc := nI_nleN (a := 96) (by decide) (by omega) h7
        refine v_aload_n C dX5_tally_10 rfl ?_
        refine v_iload_n C dX5_tally_11 rfl ?_
        refine v_callV (As := [.int (nI i)]) (rest := []) (b := pa) C (c_X5_look (xl X) (xg X) M pa ca ka ra pf pl ph cn lk i hc hP) pm_X5_look wI_X5_look wS_X5_look wM_X5_96 kX5 hP.2.2.1 ⟨by decide, by decide⟩ ⟨by decide, by decide⟩ (nle rfl) dX5_tally_12 rfl (dt1 ?_)
        show V X (rmD 3 0 0) M 0 0 [(0, .ref pa), (1, .int (nI z)), (2, .int (nI (cntB (fun c => decide (sortI (lookI pf (tk pl ph) lk c) = nI z)) i))), (3, .int (nI i))] 15 [.int (lookI pf (tk pl ph) lk i)]
        refine v_callS (As := [.int (lookI pf (tk pl ph) lk i)]) (rest := []) C (c_X5_sortOf (xl X) (xg X) M (lookI pf (tk pl ph) lk i)) pm_X5_sortOf wT_X5_sortOf wM_X5_99 ⟨by decide, by decide⟩ ⟨by decide, by decide⟩ (nle rfl) dX5_tally_15 rfl (dt1 ?_)
        show V X (rmD 3 0 0) M 0 0 [(0, .ref pa), (1, .int (nI z)), (2, .int (nI (cntB (fun c => decide (sortI (lookI pf (tk pl ph) lk c) = nI z)) i))), (3, .int (nI i))] 18 [.int (sortI (lookI pf (tk pl ph) lk i))]
        refine v_iload_n C dX5_tally_18 rfl ?_
        refine v_icmp_ne (tgt := 25) C dX5_tally_19 (by decide) (fun h19 => ?_) (fun h19 => ?_)
        · refine v_iinc (lv' := [(3, .int (nI (i + 1))), (0, .ref pa), (1, .int (nI z)), (2, .int (nI (cntB (fun c => decide (sortI (lookI pf (tk pl ph) lk c) = nI z)) i)))]) C dX5_tally_25 3 rfl (nI_1 _) hN (by decide) rfl ?_
          refine v_goto (tgt := 4) C dX5_tally_28 (by decide) ?_
          refine v_sub (lv' := [(0, .ref pa), (1, .int (nI z)), (2, .int (nI (cntB (fun c => decide (sortI (lookI pf (tk pl ph) lk c) = nI z)) i))), (3, .int (nI (i + 1)))]) [1, 2, 3, 0] rfl ?_
          rw [show cntB (fun c => decide (sortI (lookI pf (tk pl ph) lk c) = nI z)) i = cntB (fun c => decide (sortI (lookI pf (tk pl ph) lk c) = nI z)) (i + 1) by simp [cntB, h19]]
          exact ih4 (i + 1) (by omega) (by omega)
        · refine v_iinc (lv' := [(2, .int (nI ((cntB (fun c => decide (sortI (lookI pf (tk pl ph) lk c) = nI z)) i) + 1))), (0, .ref pa), (1, .int (nI z)), (3, .int (nI i))]) C dX5_tally_22 2 rfl (nI_1 _) hN (by decide) rfl ?_
          refine v_iinc (lv' := [(3, .int (nI (i + 1))), (2, .int (nI ((cntB (fun c => decide (sortI (lookI pf (tk pl ph) lk c) = nI z)) i) + 1))), (0, .ref pa), (1, .int (nI z))]) C dX5_tally_25 3 rfl (nI_1 _) hN (by decide) rfl ?_
          refine v_goto (tgt := 4) C dX5_tally_28 (by decide) ?_
          refine v_sub (lv' := [(0, .ref pa), (1, .int (nI z)), (2, .int (nI ((cntB (fun c => decide (sortI (lookI pf (tk pl ph) lk c) = nI z)) i) + 1))), (3, .int (nI (i + 1)))]) [2, 3, 1, 0] rfl ?_
          rw [show cntB (fun c => decide (sortI (lookI pf (tk pl ph) lk c) = nI z)) i + 1 = cntB (fun c => decide (sortI (lookI pf (tk pl ph) lk c) = nI z)) (i + 1) by simp [cntB, h19]]
          exact ih4 (i + 1) (by omega) (by omega)
  exact lp4 (_ + 1) 0 (Nat.zero_le _) (Nat.lt_succ_self _)

set_option maxHeartbeats 4000000 in
set_option maxRecDepth 100000 in
theorem c_X5_leastHeight (l : Launch) (g : Gm) (M : Mem) (pa ca ka ra : Nat) (pf : Nat → Nat) (pl ph : Int64) (cn lk : Nat → Int32) (z : Nat) (hP : PicW g M pa ca ka ra pf pl ph cn lk) : Ct l g yX5_leastHeight cX5_leastHeight 3 (some .int) 1 0 0 [.ref pa, .int (nI z)] M (fun v N => v = some (.int (sucI (fstB (fun k => decide (nI ((k + 1) * pf 4 / 10) = nI z)) 20))) ∧ N = M) := by
  refine Ct.of (by decide) (Nat.le_of_ble_eq_true rfl) ?_
  intro X hXl hXg hN C E
  subst hXl; subst hXg
  show V X (rmD 1 0 0) M 0 0 [(0, .ref pa), (1, .int (nI z))] 0 []
  refine v_iconst C dX5_leastHeight_0 (v := 1) rfl ?_
  refine v_istore_n (lv' := [(2, .int 1), (0, .ref pa), (1, .int (nI z))]) C dX5_leastHeight_1 hN (by decide) rfl ?_
  refine v_sub (lv' := [(0, .ref pa), (1, .int (nI z)), (2, .int 1)]) [1, 2, 0] rfl ?_
  have lp2 : ∀ (mm : Nat) (i : Nat) (h1 : i ≤ 20) (h2 : fstB (fun k => decide (nI ((k + 1) * pf 4 / 10) = nI z)) i = none), 20 - i < mm → V X (rmD 1 0 0) M 0 0 [(0, .ref pa), (1, .int (nI z)), (2, .int (nI (i + 1)))] 2 [] := by
    intro mm
    induction mm with
    | zero => intro i h1 h2 hmu; exact absurd hmu (Nat.not_lt_zero _)
    | succ mm ih2 =>
      intro i h1 h2 hmu
      refine v_iload_n C dX5_leastHeight_2 rfl ?_
      refine v_bipush C dX5_leastHeight_3 (v := 20) rfl ?_
      refine v_icmp_gt (tgt := 25) C dX5_leastHeight_5 (by decide) (fun h5 => ?_) (fun h5 => ?_)
      · have g5 := nI_ltN (a := 20) (by decide) (by omega) h5
        refine v_bipush C dX5_leastHeight_25 (v := (-6)) rfl ?_
        exact v_iret C E dX5_leastHeight_27 (nle rfl) (nle rfl) ⟨by rw [show 20 = i by omega, h2]; rfl, rfl⟩
      · have g5 := nI_nltN (a := 20) (by decide) (by omega) h5
        refine v_aload_n C dX5_leastHeight_8 rfl ?_
        refine v_iload_n C dX5_leastHeight_9 rfl ?_
        refine v_callV (As := [.int (nI (i + 1))]) (rest := []) (b := pa) C (c_X5_shadowOf (xl X) (xg X) M pa ca ka ra pf pl ph cn lk ((i + 1)) (by omega) hP) pm_X5_shadowOf wI_X5_shadowOf wS_X5_shadowOf wM_X5_57 kX5 hP.2.2.1 ⟨by decide, by decide⟩ ⟨by decide, by decide⟩ (nle rfl) dX5_leastHeight_10 rfl (dt1 ?_)
        show V X (rmD 1 0 0) M 0 0 [(0, .ref pa), (1, .int (nI z)), (2, .int (nI (i + 1)))] 13 [.int (nI (((i + 1)) * pf 4 / 10))]
        refine v_iload_n C dX5_leastHeight_13 rfl ?_
        refine v_icmp_ne (tgt := 19) C dX5_leastHeight_14 (by decide) (fun h14 => ?_) (fun h14 => ?_)
        · refine v_iinc (lv' := [(2, .int (nI ((i + 1) + 1))), (0, .ref pa), (1, .int (nI z))]) C dX5_leastHeight_19 2 rfl (nI_1 _) hN (by decide) rfl ?_
          refine v_goto (tgt := 2) C dX5_leastHeight_22 (by decide) ?_
          refine v_sub (lv' := [(0, .ref pa), (1, .int (nI z)), (2, .int (nI ((i + 1) + 1)))]) [1, 2, 0] rfl ?_
          exact ih2 (i + 1) (by omega) (fstB_step h2 (by simpa using h14)) (by omega)
        · refine v_iload_n C dX5_leastHeight_17 rfl ?_
          exact v_iret C E dX5_leastHeight_18 (nle rfl) (nle rfl) ⟨by rw [fstB_hit h2 (by simpa using h14) (show i < 20 by omega)]; rfl, rfl⟩
  exact lp2 (_ + 1) 0 (Nat.zero_le _) rfl (Nat.lt_succ_self _)

set_option maxHeartbeats 4000000 in
set_option maxRecDepth 100000 in
theorem c_X5_greatestHeight (l : Launch) (g : Gm) (M : Mem) (pa ca ka ra : Nat) (pf : Nat → Nat) (pl ph : Int64) (cn lk : Nat → Int32) (z : Nat) (hP : PicW g M pa ca ka ra pf pl ph cn lk) : Ct l g yX5_greatestHeight cX5_greatestHeight 3 (some .int) 1 0 0 [.ref pa, .int (nI z)] M (fun v N => v = some (.int (sucI (lstB (fun k => decide (nI ((k + 1) * pf 4 / 10) = nI z)) 20))) ∧ N = M) := by
  refine Ct.of (by decide) (Nat.le_of_ble_eq_true rfl) ?_
  intro X hXl hXg hN C E
  subst hXl; subst hXg
  show V X (rmD 1 0 0) M 0 0 [(0, .ref pa), (1, .int (nI z))] 0 []
  refine v_bipush C dX5_greatestHeight_0 (v := 20) rfl ?_
  refine v_istore_n (lv' := [(2, .int 20), (0, .ref pa), (1, .int (nI z))]) C dX5_greatestHeight_2 hN (by decide) rfl ?_
  refine v_sub (lv' := [(0, .ref pa), (1, .int (nI z)), (2, .int 20)]) [1, 2, 0] rfl ?_
  have lp3 : ∀ (mm : Nat) (i : Nat) (h1 : i ≤ 20) (h2 : lstB (fun k => decide (nI ((k + 1) * pf 4 / 10) = nI z)) i = lstB (fun k => decide (nI ((k + 1) * pf 4 / 10) = nI z)) 20), i < mm → V X (rmD 1 0 0) M 0 0 [(0, .ref pa), (1, .int (nI z)), (2, .int (nI i))] 3 [] := by
    intro mm
    induction mm with
    | zero => intro i h1 h2 hmu; exact absurd hmu (Nat.not_lt_zero _)
    | succ mm ih3 =>
      intro i h1 h2 hmu
      rcases i with _ | i
      · show V X (rmD 1 0 0) M 0 0 [(0, .ref pa), (1, .int (nI z)), (2, .int (nI 0))] 3 []
        refine v_iload_n C dX5_greatestHeight_3 rfl ?_
        refine v_iconst C dX5_greatestHeight_4 (v := 1) rfl ?_
        refine v_icmp_lt (tgt := 25) C dX5_greatestHeight_5 (by decide) (fun h5 => ?_) (fun h5 => ?_)
        · refine v_bipush C dX5_greatestHeight_25 (v := (-6)) rfl ?_
          exact v_iret C E dX5_greatestHeight_27 (nle rfl) (nle rfl) ⟨by rw [← h2]; rfl, rfl⟩
        · exact absurd (nI_lt (a := 0) (b := 1) (by decide) (by decide)) h5
      · show V X (rmD 1 0 0) M 0 0 [(0, .ref pa), (1, .int (nI z)), (2, .int (nI (i + 1)))] 3 []
        refine v_iload_n C dX5_greatestHeight_3 rfl ?_
        refine v_iconst C dX5_greatestHeight_4 (v := 1) rfl ?_
        refine v_icmp_lt (tgt := 25) C dX5_greatestHeight_5 (by decide) (fun h5 => ?_) (fun h5 => ?_)
        · exact absurd h5 (nI_nlt (a := i + 1) (b := 1) (by omega) (by omega))
        · refine v_aload_n C dX5_greatestHeight_8 rfl ?_
          refine v_iload_n C dX5_greatestHeight_9 rfl ?_
          refine v_callV (As := [.int (nI (i + 1))]) (rest := []) (b := pa) C (c_X5_shadowOf (xl X) (xg X) M pa ca ka ra pf pl ph cn lk ((i + 1)) (by omega) hP) pm_X5_shadowOf wI_X5_shadowOf wS_X5_shadowOf wM_X5_57 kX5 hP.2.2.1 ⟨by decide, by decide⟩ ⟨by decide, by decide⟩ (nle rfl) dX5_greatestHeight_10 rfl (dt1 ?_)
          show V X (rmD 1 0 0) M 0 0 [(0, .ref pa), (1, .int (nI z)), (2, .int (nI (i + 1)))] 13 [.int (nI (((i + 1)) * pf 4 / 10))]
          refine v_iload_n C dX5_greatestHeight_13 rfl ?_
          refine v_icmp_ne (tgt := 19) C dX5_greatestHeight_14 (by decide) (fun h14 => ?_) (fun h14 => ?_)
          · refine v_iinc (lv' := [(2, .int (nI i)), (0, .ref pa), (1, .int (nI z))]) C dX5_greatestHeight_19 2 rfl (pk_m1 i) hN (by decide) rfl ?_
            refine v_goto (tgt := 3) C dX5_greatestHeight_22 (by decide) ?_
            refine v_sub (lv' := [(0, .ref pa), (1, .int (nI z)), (2, .int (nI i))]) [1, 2, 0] rfl ?_
            exact ih3 i (by omega) (by rw [← h2, lstB, if_neg (by simpa using h14)]) (by omega)
          · refine v_iload_n C dX5_greatestHeight_17 rfl ?_
            exact v_iret C E dX5_greatestHeight_18 (nle rfl) (nle rfl) ⟨by rw [← h2, lstB, if_pos (by simpa using h14)]; rfl, rfl⟩
  exact lp3 (_ + 1) 20 (Nat.le_refl _) rfl (Nat.lt_succ_self _)

def unlk (pf pf2 : Nat → Nat) (B B2 : Nat → Bool) (lk lk2 : Nat → Int32) (c : Nat) : Bool := (covN pf B c && covN pf2 B2 c) && !decide (lookI pf B lk c = lookI pf2 B2 lk2 c)
set_option maxHeartbeats 4000000 in
set_option maxRecDepth 100000 in
theorem c_X5_isUnlike (l : Launch) (g : Gm) (M : Mem) (pa ca ka ra : Nat) (pf : Nat → Nat) (pl ph : Int64) (cn lk : Nat → Int32) (pa2 ca2 ka2 ra2 : Nat) (pf2 : Nat → Nat) (pl2 ph2 : Int64) (cn2 lk2 : Nat → Int32) (c : Nat) (hc : c < 96) (hP : PicW g M pa ca ka ra pf pl ph cn lk) (hQ : PicW g M pa2 ca2 ka2 ra2 pf2 pl2 ph2 cn2 lk2) : Ct l g yX5_isUnlike cX5_isUnlike 3 (some .boolean) 3 0 0 [.ref pa, .ref pa2, .int (nI c)] M (fun v N => v = some (.int (bI (unlk pf pf2 (tk pl ph) (tk pl2 ph2) lk lk2 c))) ∧ N = M) := by
  refine Ct.of (by decide) (Nat.le_of_ble_eq_true rfl) ?_
  intro X hXl hXg hN C E
  subst hXl; subst hXg
  show V X (rmD 3 0 0) M 0 0 [(0, .ref pa), (1, .ref pa2), (2, .int (nI c))] 0 []
  refine v_aload_n C dX5_isUnlike_0 rfl ?_
  refine v_iload_n C dX5_isUnlike_1 rfl ?_
  refine v_callV (As := [.int (nI c)]) (rest := []) (b := pa) C (c_X5_covers (xl X) (xg X) M pa ca ka ra pf pl ph cn lk c hc hP) pm_X5_covers wI_X5_covers wS_X5_covers wM_X5_93 kX5 hP.2.2.1 ⟨by decide, by decide⟩ ⟨by decide, by decide⟩ (nle rfl) dX5_isUnlike_2 rfl (dt1 ?_)
  show V X (rmD 3 0 0) M 0 0 [(0, .ref pa), (1, .ref pa2), (2, .int (nI c))] 5 [.int (bI (covN pf (tk pl ph) c))]
  refine v_ifb_eq (tgt := 33) C dX5_isUnlike_5 (by decide) (fun h5 => ?_) (fun h5 => ?_)
  · refine v_iconst C dX5_isUnlike_33 (v := 0) rfl ?_
    exact v_zret C E dX5_isUnlike_34 (nle rfl) (nle rfl) (by decide) ⟨by first | (rw [unlk, h5, h13, decide_eq_true h26]; rfl) | (rw [unlk, h5, h13, decide_eq_false h26]; rfl) | (rw [unlk, h5, h13]; rfl) | (rw [unlk, h5]; rfl), rfl⟩
  · refine v_aload_n C dX5_isUnlike_8 rfl ?_
    refine v_iload_n C dX5_isUnlike_9 rfl ?_
    refine v_callV (As := [.int (nI c)]) (rest := []) (b := pa2) C (c_X5_covers (xl X) (xg X) M pa2 ca2 ka2 ra2 pf2 pl2 ph2 cn2 lk2 c hc hQ) pm_X5_covers wI_X5_covers wS_X5_covers wM_X5_93 kX5 hQ.2.2.1 ⟨by decide, by decide⟩ ⟨by decide, by decide⟩ (nle rfl) dX5_isUnlike_10 rfl (dt1 ?_)
    show V X (rmD 3 0 0) M 0 0 [(0, .ref pa), (1, .ref pa2), (2, .int (nI c))] 13 [.int (bI (covN pf2 (tk pl2 ph2) c))]
    refine v_ifb_eq (tgt := 33) C dX5_isUnlike_13 (by decide) (fun h13 => ?_) (fun h13 => ?_)
    · refine v_iconst C dX5_isUnlike_33 (v := 0) rfl ?_
      exact v_zret C E dX5_isUnlike_34 (nle rfl) (nle rfl) (by decide) ⟨by first | (rw [unlk, h5, h13, decide_eq_true h26]; rfl) | (rw [unlk, h5, h13, decide_eq_false h26]; rfl) | (rw [unlk, h5, h13]; rfl) | (rw [unlk, h5]; rfl), rfl⟩
    · refine v_aload_n C dX5_isUnlike_16 rfl ?_
      refine v_iload_n C dX5_isUnlike_17 rfl ?_
      refine v_callV (As := [.int (nI c)]) (rest := []) (b := pa) C (c_X5_look (xl X) (xg X) M pa ca ka ra pf pl ph cn lk c hc hP) pm_X5_look wI_X5_look wS_X5_look wM_X5_96 kX5 hP.2.2.1 ⟨by decide, by decide⟩ ⟨by decide, by decide⟩ (nle rfl) dX5_isUnlike_18 rfl (dt1 ?_)
      show V X (rmD 3 0 0) M 0 0 [(0, .ref pa), (1, .ref pa2), (2, .int (nI c))] 21 [.int (lookI pf (tk pl ph) lk c)]
      refine v_aload_n C dX5_isUnlike_21 rfl ?_
      refine v_iload_n C dX5_isUnlike_22 rfl ?_
      refine v_callV (As := [.int (nI c)]) (rest := [.int (lookI pf (tk pl ph) lk c)]) (b := pa2) C (c_X5_look (xl X) (xg X) M pa2 ca2 ka2 ra2 pf2 pl2 ph2 cn2 lk2 c hc hQ) pm_X5_look wI_X5_look wS_X5_look wM_X5_96 kX5 hQ.2.2.1 ⟨by decide, by decide⟩ ⟨by decide, by decide⟩ (nle rfl) dX5_isUnlike_23 rfl (dt1 ?_)
      show V X (rmD 3 0 0) M 0 0 [(0, .ref pa), (1, .ref pa2), (2, .int (nI c))] 26 [.int (lookI pf2 (tk pl2 ph2) lk2 c), .int (lookI pf (tk pl ph) lk c)]
      refine v_icmp_eq (tgt := 33) C dX5_isUnlike_26 (by decide) (fun h26 => ?_) (fun h26 => ?_)
      · refine v_iconst C dX5_isUnlike_33 (v := 0) rfl ?_
        exact v_zret C E dX5_isUnlike_34 (nle rfl) (nle rfl) (by decide) ⟨by first | (rw [unlk, h5, h13, decide_eq_true h26]; rfl) | (rw [unlk, h5, h13, decide_eq_false h26]; rfl) | (rw [unlk, h5, h13]; rfl) | (rw [unlk, h5]; rfl), rfl⟩
      · refine v_iconst C dX5_isUnlike_29 (v := 1) rfl ?_
        refine v_goto (tgt := 34) C dX5_isUnlike_30 (by decide) ?_
        exact v_zret C E dX5_isUnlike_34 (nle rfl) (nle rfl) (by decide) ⟨by first | (rw [unlk, h5, h13, decide_eq_true h26]; rfl) | (rw [unlk, h5, h13, decide_eq_false h26]; rfl) | (rw [unlk, h5, h13]; rfl) | (rw [unlk, h5]; rfl), rfl⟩

set_option maxHeartbeats 4000000 in
set_option maxRecDepth 100000 in
theorem c_X5_unlike (l : Launch) (g : Gm) (M : Mem) (pa ca ka ra : Nat) (pf : Nat → Nat) (pl ph : Int64) (cn lk : Nat → Int32) (pa2 ca2 ka2 ra2 : Nat) (pf2 : Nat → Nat) (pl2 ph2 : Int64) (cn2 lk2 : Nat → Int32) (hP : PicW g M pa ca ka ra pf pl ph cn lk) (hQ : PicW g M pa2 ca2 ka2 ra2 pf2 pl2 ph2 cn2 lk2) : Ct l g yX5_unlike cX5_unlike 4 (some .int) 4 0 0 [.ref pa, .ref pa2] M (fun v N => v = some (.int (nI (cntB (unlk pf pf2 (tk pl ph) (tk pl2 ph2) lk lk2) 96))) ∧ N = M) := by
  refine Ct.of (by decide) (Nat.le_of_ble_eq_true rfl) ?_
  intro X hXl hXg hN C E
  subst hXl; subst hXg
  show V X (rmD 4 0 0) M 0 0 [(0, .ref pa), (1, .ref pa2)] 0 []
  refine v_iconst C dX5_unlike_0 (v := 0) rfl ?_
  refine v_istore_n (lv' := [(2, .int 0), (0, .ref pa), (1, .ref pa2)]) C dX5_unlike_1 hN (by decide) rfl ?_
  refine v_iconst C dX5_unlike_2 (v := 0) rfl ?_
  refine v_istore_n (lv' := [(3, .int 0), (2, .int 0), (0, .ref pa), (1, .ref pa2)]) C dX5_unlike_3 hN (by decide) rfl ?_
  refine v_sub (lv' := [(0, .ref pa), (1, .ref pa2), (2, .int 0), (3, .int 0)]) [2, 3, 1, 0] rfl ?_
  have lp4 : ∀ (mm : Nat) (i : Nat) (h1 : i ≤ 96), 96 - i < mm → V X (rmD 4 0 0) M 0 0 [(0, .ref pa), (1, .ref pa2), (2, .int (nI (cntB (unlk pf pf2 (tk pl ph) (tk pl2 ph2) lk lk2) i))), (3, .int (nI i))] 4 [] := by
    intro mm
    induction mm with
    | zero => intro i h1 hmu; exact absurd hmu (Nat.not_lt_zero _)
    | succ mm ih4 =>
      intro i h1 hmu
      refine v_iload_n C dX5_unlike_4 rfl ?_
      refine v_bipush C dX5_unlike_5 (v := 96) rfl ?_
      refine v_icmp_ge (tgt := 28) C dX5_unlike_7 (by decide) (fun h7 => ?_) (fun h7 => ?_)
      · have g7 : i = 96 := Nat.le_antisymm h1 (nI_leN (a := 96) (by decide) (by omega) h7)
        refine v_iload_n C dX5_unlike_28 rfl ?_
        exact v_iret C E dX5_unlike_29 (nle rfl) (nle rfl) ⟨by rw [g7], rfl⟩
      · have hc := nI_nleN (a := 96) (by decide) (by omega) h7
        refine v_aload_n C dX5_unlike_10 rfl ?_
        refine v_aload_n C dX5_unlike_11 rfl ?_
        refine v_iload_n C dX5_unlike_12 rfl ?_
        refine v_callV (As := [.ref pa2, .int (nI i)]) (rest := []) (b := pa) C (c_X5_isUnlike (xl X) (xg X) M pa ca ka ra pf pl ph cn lk pa2 ca2 ka2 ra2 pf2 pl2 ph2 cn2 lk2 i hc hP hQ) pm_X5_isUnlike wI_X5_isUnlike wS_X5_isUnlike wM_X5_102 kX5 hP.2.2.1 ⟨by decide, by decide⟩ ⟨by decide, by decide⟩ (nle rfl) dX5_unlike_13 rfl (dt1 ?_)
        show V X (rmD 4 0 0) M 0 0 [(0, .ref pa), (1, .ref pa2), (2, .int (nI (cntB (unlk pf pf2 (tk pl ph) (tk pl2 ph2) lk lk2) i))), (3, .int (nI i))] 16 [.int (bI (unlk pf pf2 (tk pl ph) (tk pl2 ph2) lk lk2 i))]
        refine v_ifb_eq (tgt := 22) C dX5_unlike_16 (by decide) (fun h16 => ?_) (fun h16 => ?_)
        · refine v_iinc (lv' := [(3, .int (nI (i + 1))), (0, .ref pa), (1, .ref pa2), (2, .int (nI (cntB (unlk pf pf2 (tk pl ph) (tk pl2 ph2) lk lk2) i)))]) C dX5_unlike_22 3 rfl (nI_1 _) hN (by decide) rfl ?_
          refine v_goto (tgt := 4) C dX5_unlike_25 (by decide) ?_
          refine v_sub (lv' := [(0, .ref pa), (1, .ref pa2), (2, .int (nI (cntB (unlk pf pf2 (tk pl ph) (tk pl2 ph2) lk lk2) i))), (3, .int (nI (i + 1)))]) [1, 2, 3, 0] rfl ?_
          rw [show cntB (unlk pf pf2 (tk pl ph) (tk pl2 ph2) lk lk2) i = cntB (unlk pf pf2 (tk pl ph) (tk pl2 ph2) lk lk2) (i + 1) by simp [cntB, h16]]
          exact ih4 (i + 1) (by omega) (by omega)
        · refine v_iinc (lv' := [(2, .int (nI ((cntB (unlk pf pf2 (tk pl ph) (tk pl2 ph2) lk lk2) i) + 1))), (0, .ref pa), (1, .ref pa2), (3, .int (nI i))]) C dX5_unlike_19 2 rfl (nI_1 _) hN (by decide) rfl ?_
          refine v_iinc (lv' := [(3, .int (nI (i + 1))), (2, .int (nI ((cntB (unlk pf pf2 (tk pl ph) (tk pl2 ph2) lk lk2) i) + 1))), (0, .ref pa), (1, .ref pa2)]) C dX5_unlike_22 3 rfl (nI_1 _) hN (by decide) rfl ?_
          refine v_goto (tgt := 4) C dX5_unlike_25 (by decide) ?_
          refine v_sub (lv' := [(0, .ref pa), (1, .ref pa2), (2, .int (nI ((cntB (unlk pf pf2 (tk pl ph) (tk pl2 ph2) lk lk2) i) + 1))), (3, .int (nI (i + 1)))]) [2, 3, 1, 0] rfl ?_
          rw [show cntB (unlk pf pf2 (tk pl ph) (tk pl2 ph2) lk lk2) i + 1 = cntB (unlk pf pf2 (tk pl ph) (tk pl2 ph2) lk lk2) (i + 1) by simp [cntB, h16]]
          exact ih4 (i + 1) (by omega) (by omega)
  exact lp4 (_ + 1) 0 (Nat.zero_le _) (Nat.lt_succ_self _)

set_option maxHeartbeats 4000000 in
set_option maxRecDepth 100000 in
theorem c_X5_firstUnlike (l : Launch) (g : Gm) (M : Mem) (pa ca ka ra : Nat) (pf : Nat → Nat) (pl ph : Int64) (cn lk : Nat → Int32) (pa2 ca2 ka2 ra2 : Nat) (pf2 : Nat → Nat) (pl2 ph2 : Int64) (cn2 lk2 : Nat → Int32) (hP : PicW g M pa ca ka ra pf pl ph cn lk) (hQ : PicW g M pa2 ca2 ka2 ra2 pf2 pl2 ph2 cn2 lk2) : Ct l g yX5_firstUnlike cX5_firstUnlike 3 (some .int) 4 0 0 [.ref pa, .ref pa2] M (fun v N => v = some (.int (oI (fstB (unlk pf pf2 (tk pl ph) (tk pl2 ph2) lk lk2) 96))) ∧ N = M) := by
  refine Ct.of (by decide) (Nat.le_of_ble_eq_true rfl) ?_
  intro X hXl hXg hN C E
  subst hXl; subst hXg
  show V X (rmD 4 0 0) M 0 0 [(0, .ref pa), (1, .ref pa2)] 0 []
  refine v_iconst C dX5_firstUnlike_0 (v := 0) rfl ?_
  refine v_istore_n (lv' := [(2, .int 0), (0, .ref pa), (1, .ref pa2)]) C dX5_firstUnlike_1 hN (by decide) rfl ?_
  refine v_sub (lv' := [(0, .ref pa), (1, .ref pa2), (2, .int 0)]) [1, 2, 0] rfl ?_
  have lp2 : ∀ (mm : Nat) (i : Nat) (h1 : i ≤ 96) (h2 : fstB (unlk pf pf2 (tk pl ph) (tk pl2 ph2) lk lk2) i = none), 96 - i < mm → V X (rmD 4 0 0) M 0 0 [(0, .ref pa), (1, .ref pa2), (2, .int (nI i))] 2 [] := by
    intro mm
    induction mm with
    | zero => intro i h1 h2 hmu; exact absurd hmu (Nat.not_lt_zero _)
    | succ mm ih2 =>
      intro i h1 h2 hmu
      refine v_iload_n C dX5_firstUnlike_2 rfl ?_
      refine v_bipush C dX5_firstUnlike_3 (v := 96) rfl ?_
      refine v_icmp_ge (tgt := 25) C dX5_firstUnlike_5 (by decide) (fun h5 => ?_) (fun h5 => ?_)
      · have g5 : i = 96 := Nat.le_antisymm h1 (nI_leN (a := 96) (by decide) (by omega) h5)
        refine v_bipush C dX5_firstUnlike_25 (v := (-6)) rfl ?_
        exact v_iret C E dX5_firstUnlike_27 (nle rfl) (nle rfl) ⟨by rw [← g5, h2]; rfl, rfl⟩
      · have hc := nI_nleN (a := 96) (by decide) (by omega) h5
        refine v_aload_n C dX5_firstUnlike_8 rfl ?_
        refine v_aload_n C dX5_firstUnlike_9 rfl ?_
        refine v_iload_n C dX5_firstUnlike_10 rfl ?_
        refine v_callV (As := [.ref pa2, .int (nI i)]) (rest := []) (b := pa) C (c_X5_isUnlike (xl X) (xg X) M pa ca ka ra pf pl ph cn lk pa2 ca2 ka2 ra2 pf2 pl2 ph2 cn2 lk2 i hc hP hQ) pm_X5_isUnlike wI_X5_isUnlike wS_X5_isUnlike wM_X5_102 kX5 hP.2.2.1 ⟨by decide, by decide⟩ ⟨by decide, by decide⟩ (nle rfl) dX5_firstUnlike_11 rfl (dt1 ?_)
        show V X (rmD 4 0 0) M 0 0 [(0, .ref pa), (1, .ref pa2), (2, .int (nI i))] 14 [.int (bI (unlk pf pf2 (tk pl ph) (tk pl2 ph2) lk lk2 i))]
        refine v_ifb_eq (tgt := 19) C dX5_firstUnlike_14 (by decide) (fun h14 => ?_) (fun h14 => ?_)
        · refine v_iinc (lv' := [(2, .int (nI (i + 1))), (0, .ref pa), (1, .ref pa2)]) C dX5_firstUnlike_19 2 rfl (nI_1 _) hN (by decide) rfl ?_
          refine v_goto (tgt := 2) C dX5_firstUnlike_22 (by decide) ?_
          refine v_sub (lv' := [(0, .ref pa), (1, .ref pa2), (2, .int (nI (i + 1)))]) [1, 2, 0] rfl ?_
          exact ih2 (i + 1) (by omega) (fstB_step h2 h14) (by omega)
        · refine v_iload_n C dX5_firstUnlike_17 rfl ?_
          exact v_iret C E dX5_firstUnlike_18 (nle rfl) (nle rfl) ⟨by rw [fstB_hit h2 h14 hc]; rfl, rfl⟩
  exact lp2 (_ + 1) 0 (Nat.zero_le _) rfl (Nat.lt_succ_self _)

set_option maxHeartbeats 4000000 in
set_option maxRecDepth 100000 in
theorem c_X5_unlikeByHour (l : Launch) (g : Gm) (M : Mem) (pa ca ka ra : Nat) (pf : Nat → Nat) (pl ph : Int64) (cn lk : Nat → Int32) (pa2 ca2 ka2 ra2 : Nat) (pf2 : Nat → Nat) (pl2 ph2 : Int64) (cn2 lk2 : Nat → Int32) (hP : PicW g M pa ca ka ra pf pl ph cn lk) (hQ : PicW g M pa2 ca2 ka2 ra2 pf2 pl2 ph2 cn2 lk2) : Ct l g yX5_unlikeByHour cX5_unlikeByHour 5 (some .int) 4 0 0 [.ref pa, .ref pa2] M (fun v N => v = some (.int (nI (cntB (fun c => (decide (lookI pf (tk pl ph) lk c < 10) && decide (lookI pf2 (tk pl2 ph2) lk2 c < 10)) && unlk pf pf2 (tk pl ph) (tk pl2 ph2) lk lk2 c) 96))) ∧ N = M) := by
  refine Ct.of (by decide) (Nat.le_of_ble_eq_true rfl) ?_
  intro X hXl hXg hN C E
  subst hXl; subst hXg
  show V X (rmD 4 0 0) M 0 0 [(0, .ref pa), (1, .ref pa2)] 0 []
  refine v_iconst C dX5_unlikeByHour_0 (v := 0) rfl ?_
  refine v_istore_n (lv' := [(2, .int 0), (0, .ref pa), (1, .ref pa2)]) C dX5_unlikeByHour_1 hN (by decide) rfl ?_
  refine v_iconst C dX5_unlikeByHour_2 (v := 0) rfl ?_
  refine v_istore_n (lv' := [(3, .int 0), (2, .int 0), (0, .ref pa), (1, .ref pa2)]) C dX5_unlikeByHour_3 hN (by decide) rfl ?_
  refine v_sub (lv' := [(0, .ref pa), (1, .ref pa2), (2, .int 0), (3, .int 0)]) [2, 3, 1, 0] rfl ?_
  have lp4 : ∀ (mm : Nat) (i : Nat) (h1 : i ≤ 96), 96 - i < mm → V X (rmD 4 0 0) M 0 0 [(0, .ref pa), (1, .ref pa2), (2, .int (nI (cntB (fun c => (decide (lookI pf (tk pl ph) lk c < 10) && decide (lookI pf2 (tk pl2 ph2) lk2 c < 10)) && unlk pf pf2 (tk pl ph) (tk pl2 ph2) lk lk2 c) i))), (3, .int (nI i))] 4 [] := by
    intro mm
    induction mm with
    | zero => intro i h1 hmu; exact absurd hmu (Nat.not_lt_zero _)
    | succ mm ih4 =>
      intro i h1 hmu
      refine v_iload_n C dX5_unlikeByHour_4 rfl ?_
      refine v_bipush C dX5_unlikeByHour_5 (v := 96) rfl ?_
      refine v_icmp_ge (tgt := 60) C dX5_unlikeByHour_7 (by decide) (fun h7 => ?_) (fun h7 => ?_)
      · have g7 : i = 96 := Nat.le_antisymm h1 (nI_leN (a := 96) (by decide) (by omega) h7)
        refine v_iload_n C dX5_unlikeByHour_60 rfl ?_
        exact v_iret C E dX5_unlikeByHour_61 (nle rfl) (nle rfl) ⟨by rw [g7], rfl⟩
      · have hc := nI_nleN (a := 96) (by decide) (by omega) h7
        refine v_aload_n C dX5_unlikeByHour_10 rfl ?_
        refine v_iload_n C dX5_unlikeByHour_11 rfl ?_
        refine v_callV (As := [.int (nI i)]) (rest := []) (b := pa) C (c_X5_look (xl X) (xg X) M pa ca ka ra pf pl ph cn lk i hc hP) pm_X5_look wI_X5_look wS_X5_look wM_X5_96 kX5 hP.2.2.1 ⟨by decide, by decide⟩ ⟨by decide, by decide⟩ (nle rfl) dX5_unlikeByHour_12 rfl (dt1 ?_)
        show V X (rmD 4 0 0) M 0 0 [(0, .ref pa), (1, .ref pa2), (2, .int (nI (cntB (fun c => (decide (lookI pf (tk pl ph) lk c < 10) && decide (lookI pf2 (tk pl2 ph2) lk2 c < 10)) && unlk pf pf2 (tk pl ph) (tk pl2 ph2) lk lk2 c) i))), (3, .int (nI i))] 15 [.int (lookI pf (tk pl ph) lk i)]
        refine v_bipush C dX5_unlikeByHour_15 (v := 10) rfl ?_
        refine v_icmp_ge (tgt := 34) C dX5_unlikeByHour_17 (by decide) (fun h17 => ?_) (fun h17 => ?_)
        · refine v_iconst C dX5_unlikeByHour_34 (v := 0) rfl ?_
          refine v_istore (lv' := [(4, .int 0), (0, .ref pa), (1, .ref pa2), (2, .int (nI (cntB (fun c => (decide (lookI pf (tk pl ph) lk c < 10) && decide (lookI pf2 (tk pl2 ph2) lk2 c < 10)) && unlk pf pf2 (tk pl ph) (tk pl2 ph2) lk lk2 c) i))), (3, .int (nI i))]) C dX5_unlikeByHour_35 hN (by decide) rfl ?_
          refine v_iload C dX5_unlikeByHour_37 rfl ?_
          refine v_if_eq (tgt := 54) C dX5_unlikeByHour_39 (by decide) (fun h39 => ?_) (fun hbad => absurd hbad (not_not_intro rfl))
          refine v_iinc (lv' := [(3, .int (nI (i + 1))), (4, .int 0), (0, .ref pa), (1, .ref pa2), (2, .int (nI (cntB (fun c => (decide (lookI pf (tk pl ph) lk c < 10) && decide (lookI pf2 (tk pl2 ph2) lk2 c < 10)) && unlk pf pf2 (tk pl ph) (tk pl2 ph2) lk lk2 c) i)))]) C dX5_unlikeByHour_54 4 rfl (nI_1 _) hN (by decide) rfl ?_
          refine v_goto (tgt := 4) C dX5_unlikeByHour_57 (by decide) ?_
          refine v_sub (lv' := [(0, .ref pa), (1, .ref pa2), (2, .int (nI (cntB (fun c => (decide (lookI pf (tk pl ph) lk c < 10) && decide (lookI pf2 (tk pl2 ph2) lk2 c < 10)) && unlk pf pf2 (tk pl ph) (tk pl2 ph2) lk lk2 c) i))), (3, .int (nI (i + 1)))]) [2, 3, 4, 0] rfl ?_
          rw [show cntB (fun c => (decide (lookI pf (tk pl ph) lk c < 10) && decide (lookI pf2 (tk pl2 ph2) lk2 c < 10)) && unlk pf pf2 (tk pl ph) (tk pl2 ph2) lk lk2 c) i = cntB (fun c => (decide (lookI pf (tk pl ph) lk c < 10) && decide (lookI pf2 (tk pl2 ph2) lk2 c < 10)) && unlk pf pf2 (tk pl ph) (tk pl2 ph2) lk lk2 c) (i + 1) by first | (simp [cntB, Int32.not_lt.mpr h17]; done) | (simp [cntB, Int32.not_lt.mpr h27]; done) | (simp [cntB, Int32.not_le.mp h17, Int32.not_le.mp h27, h48]; done)]
          exact ih4 (i + 1) (by omega) (by omega)
        · refine v_aload_n C dX5_unlikeByHour_20 rfl ?_
          refine v_iload_n C dX5_unlikeByHour_21 rfl ?_
          refine v_callV (As := [.int (nI i)]) (rest := []) (b := pa2) C (c_X5_look (xl X) (xg X) M pa2 ca2 ka2 ra2 pf2 pl2 ph2 cn2 lk2 i hc hQ) pm_X5_look wI_X5_look wS_X5_look wM_X5_96 kX5 hQ.2.2.1 ⟨by decide, by decide⟩ ⟨by decide, by decide⟩ (nle rfl) dX5_unlikeByHour_22 rfl (dt1 ?_)
          show V X (rmD 4 0 0) M 0 0 [(0, .ref pa), (1, .ref pa2), (2, .int (nI (cntB (fun c => (decide (lookI pf (tk pl ph) lk c < 10) && decide (lookI pf2 (tk pl2 ph2) lk2 c < 10)) && unlk pf pf2 (tk pl ph) (tk pl2 ph2) lk lk2 c) i))), (3, .int (nI i))] 25 [.int (lookI pf2 (tk pl2 ph2) lk2 i)]
          refine v_bipush C dX5_unlikeByHour_25 (v := 10) rfl ?_
          refine v_icmp_ge (tgt := 34) C dX5_unlikeByHour_27 (by decide) (fun h27 => ?_) (fun h27 => ?_)
          · refine v_iconst C dX5_unlikeByHour_34 (v := 0) rfl ?_
            refine v_istore (lv' := [(4, .int 0), (0, .ref pa), (1, .ref pa2), (2, .int (nI (cntB (fun c => (decide (lookI pf (tk pl ph) lk c < 10) && decide (lookI pf2 (tk pl2 ph2) lk2 c < 10)) && unlk pf pf2 (tk pl ph) (tk pl2 ph2) lk lk2 c) i))), (3, .int (nI i))]) C dX5_unlikeByHour_35 hN (by decide) rfl ?_
            refine v_iload C dX5_unlikeByHour_37 rfl ?_
            refine v_if_eq (tgt := 54) C dX5_unlikeByHour_39 (by decide) (fun h39 => ?_) (fun hbad => absurd hbad (not_not_intro rfl))
            refine v_iinc (lv' := [(3, .int (nI (i + 1))), (4, .int 0), (0, .ref pa), (1, .ref pa2), (2, .int (nI (cntB (fun c => (decide (lookI pf (tk pl ph) lk c < 10) && decide (lookI pf2 (tk pl2 ph2) lk2 c < 10)) && unlk pf pf2 (tk pl ph) (tk pl2 ph2) lk lk2 c) i)))]) C dX5_unlikeByHour_54 4 rfl (nI_1 _) hN (by decide) rfl ?_
            refine v_goto (tgt := 4) C dX5_unlikeByHour_57 (by decide) ?_
            refine v_sub (lv' := [(0, .ref pa), (1, .ref pa2), (2, .int (nI (cntB (fun c => (decide (lookI pf (tk pl ph) lk c < 10) && decide (lookI pf2 (tk pl2 ph2) lk2 c < 10)) && unlk pf pf2 (tk pl ph) (tk pl2 ph2) lk lk2 c) i))), (3, .int (nI (i + 1)))]) [2, 3, 4, 0] rfl ?_
            rw [show cntB (fun c => (decide (lookI pf (tk pl ph) lk c < 10) && decide (lookI pf2 (tk pl2 ph2) lk2 c < 10)) && unlk pf pf2 (tk pl ph) (tk pl2 ph2) lk lk2 c) i = cntB (fun c => (decide (lookI pf (tk pl ph) lk c < 10) && decide (lookI pf2 (tk pl2 ph2) lk2 c < 10)) && unlk pf pf2 (tk pl ph) (tk pl2 ph2) lk lk2 c) (i + 1) by first | (simp [cntB, Int32.not_lt.mpr h17]; done) | (simp [cntB, Int32.not_lt.mpr h27]; done) | (simp [cntB, Int32.not_le.mp h17, Int32.not_le.mp h27, h48]; done)]
            exact ih4 (i + 1) (by omega) (by omega)
          · refine v_iconst C dX5_unlikeByHour_30 (v := 1) rfl ?_
            refine v_goto (tgt := 35) C dX5_unlikeByHour_31 (by decide) ?_
            refine v_istore (lv' := [(4, .int 1), (0, .ref pa), (1, .ref pa2), (2, .int (nI (cntB (fun c => (decide (lookI pf (tk pl ph) lk c < 10) && decide (lookI pf2 (tk pl2 ph2) lk2 c < 10)) && unlk pf pf2 (tk pl ph) (tk pl2 ph2) lk lk2 c) i))), (3, .int (nI i))]) C dX5_unlikeByHour_35 hN (by decide) rfl ?_
            refine v_iload C dX5_unlikeByHour_37 rfl ?_
            refine v_if_eq (tgt := 54) C dX5_unlikeByHour_39 (by decide) (fun hbad => absurd hbad (by decide)) (fun h39 => ?_)
            refine v_aload_n C dX5_unlikeByHour_42 rfl ?_
            refine v_aload_n C dX5_unlikeByHour_43 rfl ?_
            refine v_iload_n C dX5_unlikeByHour_44 rfl ?_
            refine v_callV (As := [.ref pa2, .int (nI i)]) (rest := []) (b := pa) C (c_X5_isUnlike (xl X) (xg X) M pa ca ka ra pf pl ph cn lk pa2 ca2 ka2 ra2 pf2 pl2 ph2 cn2 lk2 i hc hP hQ) pm_X5_isUnlike wI_X5_isUnlike wS_X5_isUnlike wM_X5_102 kX5 hP.2.2.1 ⟨by decide, by decide⟩ ⟨by decide, by decide⟩ (nle rfl) dX5_unlikeByHour_45 rfl (dt1 ?_)
            show V X (rmD 4 0 0) M 0 0 [(4, .int 1), (0, .ref pa), (1, .ref pa2), (2, .int (nI (cntB (fun c => (decide (lookI pf (tk pl ph) lk c < 10) && decide (lookI pf2 (tk pl2 ph2) lk2 c < 10)) && unlk pf pf2 (tk pl ph) (tk pl2 ph2) lk lk2 c) i))), (3, .int (nI i))] 48 [.int (bI (unlk pf pf2 (tk pl ph) (tk pl2 ph2) lk lk2 i))]
            refine v_ifb_eq (tgt := 54) C dX5_unlikeByHour_48 (by decide) (fun h48 => ?_) (fun h48 => ?_)
            · refine v_iinc (lv' := [(3, .int (nI (i + 1))), (4, .int 1), (0, .ref pa), (1, .ref pa2), (2, .int (nI (cntB (fun c => (decide (lookI pf (tk pl ph) lk c < 10) && decide (lookI pf2 (tk pl2 ph2) lk2 c < 10)) && unlk pf pf2 (tk pl ph) (tk pl2 ph2) lk lk2 c) i)))]) C dX5_unlikeByHour_54 4 rfl (nI_1 _) hN (by decide) rfl ?_
              refine v_goto (tgt := 4) C dX5_unlikeByHour_57 (by decide) ?_
              refine v_sub (lv' := [(0, .ref pa), (1, .ref pa2), (2, .int (nI (cntB (fun c => (decide (lookI pf (tk pl ph) lk c < 10) && decide (lookI pf2 (tk pl2 ph2) lk2 c < 10)) && unlk pf pf2 (tk pl ph) (tk pl2 ph2) lk lk2 c) i))), (3, .int (nI (i + 1)))]) [2, 3, 4, 0] rfl ?_
              rw [show cntB (fun c => (decide (lookI pf (tk pl ph) lk c < 10) && decide (lookI pf2 (tk pl2 ph2) lk2 c < 10)) && unlk pf pf2 (tk pl ph) (tk pl2 ph2) lk lk2 c) i = cntB (fun c => (decide (lookI pf (tk pl ph) lk c < 10) && decide (lookI pf2 (tk pl2 ph2) lk2 c < 10)) && unlk pf pf2 (tk pl ph) (tk pl2 ph2) lk lk2 c) (i + 1) by first | (simp [cntB, Int32.not_lt.mpr h17]; done) | (simp [cntB, Int32.not_lt.mpr h27]; done) | (simp [cntB, Int32.not_le.mp h17, Int32.not_le.mp h27, h48]; done)]
              exact ih4 (i + 1) (by omega) (by omega)
            · refine v_iinc (lv' := [(2, .int (nI ((cntB (fun c => (decide (lookI pf (tk pl ph) lk c < 10) && decide (lookI pf2 (tk pl2 ph2) lk2 c < 10)) && unlk pf pf2 (tk pl ph) (tk pl2 ph2) lk lk2 c) i) + 1))), (4, .int 1), (0, .ref pa), (1, .ref pa2), (3, .int (nI i))]) C dX5_unlikeByHour_51 3 rfl (nI_1 _) hN (by decide) rfl ?_
              refine v_iinc (lv' := [(3, .int (nI (i + 1))), (2, .int (nI ((cntB (fun c => (decide (lookI pf (tk pl ph) lk c < 10) && decide (lookI pf2 (tk pl2 ph2) lk2 c < 10)) && unlk pf pf2 (tk pl ph) (tk pl2 ph2) lk lk2 c) i) + 1))), (4, .int 1), (0, .ref pa), (1, .ref pa2)]) C dX5_unlikeByHour_54 4 rfl (nI_1 _) hN (by decide) rfl ?_
              refine v_goto (tgt := 4) C dX5_unlikeByHour_57 (by decide) ?_
              refine v_sub (lv' := [(0, .ref pa), (1, .ref pa2), (2, .int (nI ((cntB (fun c => (decide (lookI pf (tk pl ph) lk c < 10) && decide (lookI pf2 (tk pl2 ph2) lk2 c < 10)) && unlk pf pf2 (tk pl ph) (tk pl2 ph2) lk lk2 c) i) + 1))), (3, .int (nI (i + 1)))]) [3, 4, 1, 0] rfl ?_
              rw [show cntB (fun c => (decide (lookI pf (tk pl ph) lk c < 10) && decide (lookI pf2 (tk pl2 ph2) lk2 c < 10)) && unlk pf pf2 (tk pl ph) (tk pl2 ph2) lk lk2 c) i + 1 = cntB (fun c => (decide (lookI pf (tk pl ph) lk c < 10) && decide (lookI pf2 (tk pl2 ph2) lk2 c < 10)) && unlk pf pf2 (tk pl ph) (tk pl2 ph2) lk lk2 c) (i + 1) by first | (simp [cntB, Int32.not_lt.mpr h17]; done) | (simp [cntB, Int32.not_lt.mpr h27]; done) | (simp [cntB, Int32.not_le.mp h17, Int32.not_le.mp h27, h48]; done)]
              exact ih4 (i + 1) (by omega) (by omega)
  exact lp4 (_ + 1) 0 (Nat.zero_le _) (Nat.lt_succ_self _)


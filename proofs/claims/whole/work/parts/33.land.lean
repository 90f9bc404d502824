/-! Land. -/
set_option maxHeartbeats 4000000 in
set_option maxRecDepth 100000 in
theorem c_X3_size (l : Launch) (g : Gm) (M : Mem) (la ta : Nat) (th mk dn : Nat → Nat) (nT : Nat) (m : Nat → Nat → Nat) (lo hi : Nat → Int64) (hL : LandW g M la ta th mk dn nT m lo hi) : Ct l g yX3_size cX3_size 1 (some .int) 0 0 0 [.ref la] M (fun v N => v = some (.int (nI nT)) ∧ N = M) := by
  refine Ct.of (by decide) (Nat.le_of_ble_eq_true rfl) ?_
  intro X hXl hXg hN C E
  subst hXl; subst hXg
  show V X (rmD 0 0 0) M 0 0 [(0, .ref la)] 0 []
  refine v_aload_n C dX3_size_0 rfl ?_
  refine v_get C kX3 hL.2.1 1 (by decide) wF_X3_17 rfl dX3_size_1 ?_
  exact v_iret C E dX3_size_4 (nle rfl) (nle rfl) ⟨rfl, rfl⟩

set_option maxHeartbeats 4000000 in
set_option maxRecDepth 100000 in
theorem c_X3_isFull (l : Launch) (g : Gm) (M : Mem) (la ta : Nat) (th mk dn : Nat → Nat) (nT : Nat) (m : Nat → Nat → Nat) (lo hi : Nat → Int64) (hL : LandW g M la ta th mk dn nT m lo hi) : Ct l g yX3_isFull cX3_isFull 1 (some .boolean) 0 0 0 [.ref la] M (fun v N => v = some (.int (bI (decide (12 ≤ nT)))) ∧ N = M) := by
  refine Ct.of (by decide) (Nat.le_of_ble_eq_true rfl) ?_
  intro X hXl hXg hN C E
  subst hXl; subst hXg
  show V X (rmD 0 0 0) M 0 0 [(0, .ref la)] 0 []
  refine v_aload_n C dX3_isFull_0 rfl ?_
  refine v_get C kX3 hL.2.1 1 (by decide) wF_X3_17 rfl dX3_isFull_1 ?_
  refine v_bipush C dX3_isFull_4 (v := 12) rfl ?_
  refine v_icmp_lt (tgt := 13) C dX3_isFull_6 (by decide) (fun h6 => ?_) (fun h6 => ?_)
  · refine v_iconst C dX3_isFull_13 (v := 0) rfl ?_
    exact v_zret C E dX3_isFull_14 (nle rfl) (nle rfl) (by decide) ⟨by rw [decide_eq_false (fun q => absurd (nI_ltN (a := nT) (b := 12) (by have := hL.1; omega) (by decide) h6) (Nat.not_lt.mpr q))]; rfl, rfl⟩
  · refine v_iconst C dX3_isFull_9 (v := 1) rfl ?_
    refine v_goto (tgt := 14) C dX3_isFull_10 (by decide) ?_
    exact v_zret C E dX3_isFull_14 (nle rfl) (nle rfl) (by decide) ⟨by rw [decide_eq_true (nI_nltN (a := nT) (b := 12) (by have := hL.1; omega) (by decide) h6)]; rfl, rfl⟩

set_option maxHeartbeats 4000000 in
set_option maxRecDepth 100000 in
theorem c_X3_find (l : Launch) (g : Gm) (M : Mem) (la ta : Nat) (th mk dn : Nat → Nat) (nT : Nat) (m : Nat → Nat → Nat) (lo hi : Nat → Int64) (i : Nat) (lt : i < nT) (hL : LandW g M la ta th mk dn nT m lo hi) : Ct l g yX3_find cX3_find 2 (some (.object "PictureDesk$Thing")) 1 0 0 [.ref la, .int (nI i)] M (fun v N => v = some (.ref (th i)) ∧ N = M) := by
  refine Ct.of (by decide) (Nat.le_of_ble_eq_true rfl) ?_
  intro X hXl hXg hN C E
  subst hXl; subst hXg
  show V X (rmD 1 0 0) M 0 0 [(0, .ref la), (1, .int (nI i))] 0 []
  have h12 := hL.1
  have hq : qin (nI i) 0 11 = true := by rw [show qin (nI i) 0 11 = qin (nI i) (nI 0) (nI 11) from rfl, qin_N (by omega) (by decide) (by decide)]; simp; omega
  refine v_iload_n C dX3_find_0 rfl ?_
  refine v_iconst C dX3_find_1 (v := 0) rfl ?_
  refine v_bipush C dX3_find_2 (v := 11) rfl ?_
  refine v_callSN (As := [.int (nI i), .int 0, .int 11]) (rest := []) C (c_X9_isWithin (xl X) (xg X) (nI i) 0 11 M) pm_X9_isWithin wT_X9_isWithin wMN_X3_28 ⟨by decide, by decide⟩ ⟨by decide, by decide⟩ (nle rfl) dX3_find_4 rfl (dt1 ?_)
  show V X (rmD 1 0 0) M 0 0 [(0, .ref la), (1, .int (nI i))] 7 [.int (bI (qin (nI i) 0 11))]
  refine v_ifb_eq (tgt := 19) C dX3_find_7 (by decide) (fun hbad => absurd hbad (by rw [hq]; decide)) (fun h7 => ?_)
  refine v_aload_n C dX3_find_10 rfl ?_
  refine v_get C kX3 hL.2.1 0 (by decide) wF_X3_11 rfl dX3_find_11 ?_
  refine v_iload_n C dX3_find_14 rfl ?_
  refine v_aald C (by decide) hL.2.2.1 (vp_in_nI (by omega) (by decide)) dX3_find_15 ?_
  rw [nI_clamp (by omega), if_pos lt]
  show V X (rmD 1 0 0) M 0 0 [(0, .ref la), (1, .int (nI i))] 16 [.ref (th i)]
  refine v_goto (tgt := 20) C dX3_find_16 (by decide) ?_
  exact v_aret (r := some (th i)) C E dX3_find_20 (nle rfl) (nle rfl) ⟨rfl, rfl⟩

set_option maxHeartbeats 4000000 in
set_option maxRecDepth 100000 in
theorem c_X3_findN (l : Launch) (g : Gm) (M : Mem) (la ta : Nat) (th mk dn : Nat → Nat) (nT : Nat) (m : Nat → Nat → Nat) (lo hi : Nat → Int64) (x : Int32) (hx : ∀ i, i < nT → ¬ x = nI i) (hL : LandW g M la ta th mk dn nT m lo hi) : Ct l g yX3_find cX3_find 2 (some (.object "PictureDesk$Thing")) 1 0 0 [.ref la, .int x] M (fun v N => v = some .null ∧ N = M) := by
  refine Ct.of (by decide) (Nat.le_of_ble_eq_true rfl) ?_
  intro X hXl hXg hN C E
  subst hXl; subst hXg
  show V X (rmD 1 0 0) M 0 0 [(0, .ref la), (1, .int x)] 0 []
  refine v_iload_n C dX3_find_0 rfl ?_
  refine v_iconst C dX3_find_1 (v := 0) rfl ?_
  refine v_bipush C dX3_find_2 (v := 11) rfl ?_
  refine v_callSN (As := [.int x, .int 0, .int 11]) (rest := []) C (c_X9_isWithin (xl X) (xg X) x 0 11 M) pm_X9_isWithin wT_X9_isWithin wMN_X3_28 ⟨by decide, by decide⟩ ⟨by decide, by decide⟩ (nle rfl) dX3_find_4 rfl (dt1 ?_)
  show V X (rmD 1 0 0) M 0 0 [(0, .ref la), (1, .int x)] 7 [.int (bI (qin x 0 11))]
  refine v_ifb_eq (tgt := 19) C dX3_find_7 (by decide) (fun h7 => ?_) (fun h7 => ?_)
  · refine v_null C dX3_find_19 ?_
    exact v_aret (r := none) C E dX3_find_20 (nle rfl) (nle rfl) ⟨rfl, rfl⟩
  · obtain ⟨j, hj, rfl⟩ := qin_nI (N := 11) (by decide) h7
    show V X (rmD 1 0 0) M 0 0 [(0, .ref la), (1, .int (nI j))] 10 []
    refine v_aload_n C dX3_find_10 rfl ?_
    refine v_get C kX3 hL.2.1 0 (by decide) wF_X3_11 rfl dX3_find_11 ?_
    refine v_iload_n C dX3_find_14 rfl ?_
    refine v_aald C (by decide) hL.2.2.1 (vp_in_nI (by omega) (by decide)) dX3_find_15 ?_
    rw [nI_clamp (by omega), if_neg (fun q => hx j q rfl)]
    show V X (rmD 1 0 0) M 0 0 [(0, .ref la), (1, .int (nI j))] 16 [.null]
    refine v_goto (tgt := 20) C dX3_find_16 (by decide) ?_
    exact v_aret (r := none) C E dX3_find_20 (nle rfl) (nle rfl) ⟨rfl, rfl⟩

set_option maxHeartbeats 4000000 in
set_option maxRecDepth 100000 in
theorem c_X3_counting (l : Launch) (g : Gm) (M : Mem) (la ta : Nat) (th mk dn : Nat → Nat) (nT : Nat) (m : Nat → Nat → Nat) (lo hi : Nat → Int64) (c d : Nat) (hc : c < 96) (hd : d < 100) (hL : LandW g M la ta th mk dn nT m lo hi) : Ct l g yX3_counting cX3_counting 6 (some .int) 2 0 0 [.ref la, .int (nI c), .int (nI d)] M (fun v N => v = some (.int (oI (bst m (c % 12) (c / 12) d nT))) ∧ N = M) := by
  refine Ct.of (by decide) (Nat.le_of_ble_eq_true rfl) ?_
  intro X hXl hXg hN C E
  subst hXl; subst hXg
  show V X (rmD 2 0 0) M 0 0 [(0, .ref la), (1, .int (nI c)), (2, .int (nI d))] 0 []
  have h12 := hL.1
  refine v_null C dX3_counting_0 ?_
  refine v_astore_nN (lv' := [(3, .null), (0, .ref la), (1, .int (nI c)), (2, .int (nI d))]) C dX3_counting_1 hN (by decide) rfl ?_
  refine v_iconst C dX3_counting_2 (v := 0) rfl ?_
  refine v_istore (lv' := [(4, .int 0), (3, .null), (0, .ref la), (1, .int (nI c)), (2, .int (nI d))]) C dX3_counting_3 hN (by decide) rfl ?_
  refine v_sub (lv' := [(0, .ref la), (1, .int (nI c)), (2, .int (nI d)), (3, .null), (4, .int 0)]) [2, 3, 4, 1, 0] rfl ?_
  have lp5 : ∀ (mm : Nat) (i : Nat) (h1 : i ≤ nT), nT - i < mm → V X (rmD 2 0 0) M 0 0 [(0, .ref la), (1, .int (nI c)), (2, .int (nI d)), (3, va_rf ((bst m (c % 12) (c / 12) d i).map th)), (4, .int (nI i))] 5 [] := by
    intro mm
    induction mm with
    | zero => intro i h1 hmu; exact absurd hmu (Nat.not_lt_zero _)
    | succ mm ih5 =>
      intro i h1 hmu
      rcases hb : bst m (c % 12) (c / 12) d i with _ | b
      · show V X (rmD 2 0 0) M 0 0 [(0, .ref la), (1, .int (nI c)), (2, .int (nI d)), (3, .null), (4, .int (nI i))] 5 []
        refine v_iload C dX3_counting_5 rfl ?_
        refine v_aload_n C dX3_counting_7 rfl ?_
        refine v_get C kX3 hL.2.1 1 (by decide) wF_X3_17 rfl dX3_counting_8 ?_
        refine v_icmp_ge (tgt := 70) C dX3_counting_11 (by decide) (fun h11 => ?_) (fun h11 => ?_)
        · have g11 : i = nT := Nat.le_antisymm h1 (nI_leN (by omega) (by omega) h11)
          subst g11
          refine v_aload_nN C dX3_counting_70 rfl ?_
          refine v_ifnonnullN C dX3_counting_71 ?_
          refine v_bipush C dX3_counting_74 (v := (-6)) rfl ?_
          refine v_goto (tgt := 83) C dX3_counting_76 (by decide) ?_
          exact v_iret C E dX3_counting_83 (nle rfl) (nle rfl) ⟨by rw [hb]; rfl, rfl⟩
        · have g11 := nI_nleN (by omega) (by omega) h11
          refine v_aload_n C dX3_counting_14 rfl ?_
          refine v_iload C dX3_counting_15 rfl ?_
          refine v_callV (As := [.int (nI i)]) (rest := []) (b := la) C (c_X3_find (xl X) (xg X) M la ta th mk dn nT m lo hi i g11 hL) pm_X3_find wI_X3_find wS_X3_find wM_X3_32 kX3 hL.2.1 ⟨by decide, by decide⟩ ⟨by decide, by decide⟩ (nle rfl) dX3_counting_17 rfl (dt1 ?_)
          show V X (rmD 2 0 0) M 0 0 [(0, .ref la), (1, .int (nI c)), (2, .int (nI d)), (3, .null), (4, .int (nI i))] 20 [.ref (th i)]
          refine v_astore (lv' := [(5, .ref (th i)), (0, .ref la), (1, .int (nI c)), (2, .int (nI d)), (3, .null), (4, .int (nI i))]) C dX3_counting_20 hN (by decide) rfl ?_
          refine v_aload C dX3_counting_22 rfl ?_
          refine v_ifnull C dX3_counting_24 ?_
          refine v_aload C dX3_counting_27 rfl ?_
          refine v_iload_n C dX3_counting_29 rfl ?_
          refine v_callV (As := [.int (nI d)]) (rest := []) (b := th i) C (c_X6_isThere (xl X) (xg X) M (th i) (mk i) (dn i) (nI i) (fun w => nI (m i w)) (nI d) ((hL.2.2.2 i g11).1) ((hL.2.2.2 i g11).2.1)) pm_X6_isThere wI_X6_isThere wS_X6_isThere wM_X3_36 kX6 ((hL.2.2.2 i g11).1) ⟨by decide, by decide⟩ ⟨by decide, by decide⟩ (nle rfl) dX3_counting_30 rfl (dt1 ?_)
          show V X (rmD 2 0 0) M 0 0 [(5, .ref (th i)), (0, .ref la), (1, .int (nI c)), (2, .int (nI d)), (3, .null), (4, .int (nI i))] 33 [.int (bI (qin (nI d) (nI (m i 6)) (nI (m i 7))))]
          rw [there_N (hL.2.2.2 i g11).2.2.2 (by omega)]
          show V X (rmD 2 0 0) M 0 0 [(5, .ref (th i)), (0, .ref la), (1, .int (nI c)), (2, .int (nI d)), (3, .null), (4, .int (nI i))] 33 [.int (bI (there (m i) d))]
          refine v_ifb_eq (tgt := 64) C dX3_counting_33 (by decide) (fun h33 => ?_) (fun h33 => ?_)
          · refine v_iinc (lv' := [(4, .int (nI (i + 1))), (5, .ref (th i)), (0, .ref la), (1, .int (nI c)), (2, .int (nI d)), (3, .null)]) C dX3_counting_64 5 rfl (nI_1 _) hN (by decide) rfl ?_
            refine v_goto (tgt := 5) C dX3_counting_67 (by decide) ?_
            refine v_sub (lv' := [(0, .ref la), (1, .int (nI c)), (2, .int (nI d)), (3, .null), (4, .int (nI (i + 1)))]) [2, 3, 4, 5, 0] rfl ?_
            have e1 : bst m (c % 12) (c / 12) d (i + 1) = none := by first | (simp [bst, hb, abv, *]; done) | simp_all
            have q := ih5 (i + 1) (by omega) (by omega)
            rw [e1] at q
            exact q
          · refine v_aload C dX3_counting_36 rfl ?_
            refine v_iload_n C dX3_counting_38 rfl ?_
            refine v_bipush C dX3_counting_39 (v := 12) rfl ?_
            refine v_irem C dX3_counting_41 (by decide) ?_
            refine v_iload_n C dX3_counting_42 rfl ?_
            refine v_bipush C dX3_counting_43 (v := 12) rfl ?_
            refine v_idiv C dX3_counting_45 (by decide) ?_
            rw [cell_mod (by omega), cell_div (by omega)]
            show V X (rmD 2 0 0) M 0 0 [(5, .ref (th i)), (0, .ref la), (1, .int (nI c)), (2, .int (nI d)), (3, .null), (4, .int (nI i))] 46 [.int (nI (c / 12)), .int (nI (c % 12)), .ref (th i)]
            refine v_callV (As := [.int (nI (c % 12)), .int (nI (c / 12))]) (rest := []) (b := th i) C (c_X6_liesOn (xl X) (xg X) M (th i) (mk i) (dn i) (nI i) (fun w => nI (m i w)) (nI (c % 12)) (nI (c / 12)) ((hL.2.2.2 i g11).1) ((hL.2.2.2 i g11).2.1)) pm_X6_liesOn wI_X6_liesOn wS_X6_liesOn wM_X3_40 kX6 ((hL.2.2.2 i g11).1) ⟨by decide, by decide⟩ ⟨by decide, by decide⟩ (nle rfl) dX3_counting_46 rfl (dt1 ?_)
            show V X (rmD 2 0 0) M 0 0 [(5, .ref (th i)), (0, .ref la), (1, .int (nI c)), (2, .int (nI d)), (3, .null), (4, .int (nI i))] 49 [.int (bI (lies (fun w => nI (m i w)) (nI (c % 12)) (nI (c / 12))))]
            rw [lies_N (hL.2.2.2 i g11).2.2.2 (by omega) (by omega)]
            show V X (rmD 2 0 0) M 0 0 [(5, .ref (th i)), (0, .ref la), (1, .int (nI c)), (2, .int (nI d)), (3, .null), (4, .int (nI i))] 49 [.int (bI (liesN (m i) (c % 12) (c / 12)))]
            refine v_ifb_eq (tgt := 64) C dX3_counting_49 (by decide) (fun h49 => ?_) (fun h49 => ?_)
            · refine v_iinc (lv' := [(4, .int (nI (i + 1))), (5, .ref (th i)), (0, .ref la), (1, .int (nI c)), (2, .int (nI d)), (3, .null)]) C dX3_counting_64 5 rfl (nI_1 _) hN (by decide) rfl ?_
              refine v_goto (tgt := 5) C dX3_counting_67 (by decide) ?_
              refine v_sub (lv' := [(0, .ref la), (1, .int (nI c)), (2, .int (nI d)), (3, .null), (4, .int (nI (i + 1)))]) [2, 3, 4, 5, 0] rfl ?_
              have e1 : bst m (c % 12) (c / 12) d (i + 1) = none := by first | (simp [bst, hb, abv, *]; done) | simp_all
              have q := ih5 (i + 1) (by omega) (by omega)
              rw [e1] at q
              exact q
            · refine v_aload C dX3_counting_52 rfl ?_
              refine v_aload_nN C dX3_counting_54 rfl ?_
              refine v_callV (As := [.null]) (rest := []) (b := th i) C (c_X6_isAboveN (xl X) (xg X) M (th i) (mk i) (dn i) (nI i) (fun w => nI (m i w)) ((hL.2.2.2 i g11).1) ((hL.2.2.2 i g11).2.1)) pm_X6_isAbove wI_X6_isAbove wS_X6_isAbove wM_X3_44 kX6 ((hL.2.2.2 i g11).1) ⟨by decide, by decide⟩ ⟨by decide, by decide⟩ (nle rfl) dX3_counting_55 rfl (dt1 ?_)
              show V X (rmD 2 0 0) M 0 0 [(5, .ref (th i)), (0, .ref la), (1, .int (nI c)), (2, .int (nI d)), (3, .null), (4, .int (nI i))] 58 [.int (bI true)]
              refine v_ifb_eq (tgt := 64) C dX3_counting_58 (by decide) (fun hbad => absurd hbad (by decide)) (fun h58 => ?_)
              refine v_aload C dX3_counting_61 rfl ?_
              refine v_astore_n (lv' := [(3, .ref (th i)), (5, .ref (th i)), (0, .ref la), (1, .int (nI c)), (2, .int (nI d)), (4, .int (nI i))]) C dX3_counting_63 hN (by decide) rfl ?_
              refine v_iinc (lv' := [(4, .int (nI (i + 1))), (3, .ref (th i)), (5, .ref (th i)), (0, .ref la), (1, .int (nI c)), (2, .int (nI d))]) C dX3_counting_64 5 rfl (nI_1 _) hN (by decide) rfl ?_
              refine v_goto (tgt := 5) C dX3_counting_67 (by decide) ?_
              refine v_sub (lv' := [(0, .ref la), (1, .int (nI c)), (2, .int (nI d)), (3, .ref (th i)), (4, .int (nI (i + 1)))]) [3, 4, 5, 1, 0] rfl ?_
              have e1 : bst m (c % 12) (c / 12) d (i + 1) = some i := by first | (simp [bst, hb, abv, *]; done) | simp_all
              have q := ih5 (i + 1) (by omega) (by omega)
              rw [e1] at q
              exact q
      · have hbi := bst_lt hb
        show V X (rmD 2 0 0) M 0 0 [(0, .ref la), (1, .int (nI c)), (2, .int (nI d)), (3, .ref (th b)), (4, .int (nI i))] 5 []
        refine v_iload C dX3_counting_5 rfl ?_
        refine v_aload_n C dX3_counting_7 rfl ?_
        refine v_get C kX3 hL.2.1 1 (by decide) wF_X3_17 rfl dX3_counting_8 ?_
        refine v_icmp_ge (tgt := 70) C dX3_counting_11 (by decide) (fun h11 => ?_) (fun h11 => ?_)
        · have g11 : i = nT := Nat.le_antisymm h1 (nI_leN (by omega) (by omega) h11)
          subst g11
          refine v_aload_n C dX3_counting_70 rfl ?_
          refine v_ifnonnull (tgt := 79) C dX3_counting_71 (by decide) ?_
          refine v_aload_n C dX3_counting_79 rfl ?_
          refine v_callV (As := []) (rest := []) (b := th b) C (c_X6_number (xl X) (xg X) M (th b) (mk b) (dn b) (nI b) ((hL.2.2.2 b ((by omega))).1)) pm_X6_number wI_X6_number wS_X6_number wM_X3_48 kX6 ((hL.2.2.2 b ((by omega))).1) ⟨by decide, by decide⟩ ⟨by decide, by decide⟩ (nle rfl) dX3_counting_80 rfl (dt1 ?_)
          show V X (rmD 2 0 0) M 0 0 [(0, .ref la), (1, .int (nI c)), (2, .int (nI d)), (3, .ref (th b)), (4, .int (nI i))] 83 [.int (nI b)]
          exact v_iret C E dX3_counting_83 (nle rfl) (nle rfl) ⟨by rw [hb]; rfl, rfl⟩
        · have g11 := nI_nleN (by omega) (by omega) h11
          refine v_aload_n C dX3_counting_14 rfl ?_
          refine v_iload C dX3_counting_15 rfl ?_
          refine v_callV (As := [.int (nI i)]) (rest := []) (b := la) C (c_X3_find (xl X) (xg X) M la ta th mk dn nT m lo hi i g11 hL) pm_X3_find wI_X3_find wS_X3_find wM_X3_32 kX3 hL.2.1 ⟨by decide, by decide⟩ ⟨by decide, by decide⟩ (nle rfl) dX3_counting_17 rfl (dt1 ?_)
          show V X (rmD 2 0 0) M 0 0 [(0, .ref la), (1, .int (nI c)), (2, .int (nI d)), (3, .ref (th b)), (4, .int (nI i))] 20 [.ref (th i)]
          refine v_astore (lv' := [(5, .ref (th i)), (0, .ref la), (1, .int (nI c)), (2, .int (nI d)), (3, .ref (th b)), (4, .int (nI i))]) C dX3_counting_20 hN (by decide) rfl ?_
          refine v_aload C dX3_counting_22 rfl ?_
          refine v_ifnull C dX3_counting_24 ?_
          refine v_aload C dX3_counting_27 rfl ?_
          refine v_iload_n C dX3_counting_29 rfl ?_
          refine v_callV (As := [.int (nI d)]) (rest := []) (b := th i) C (c_X6_isThere (xl X) (xg X) M (th i) (mk i) (dn i) (nI i) (fun w => nI (m i w)) (nI d) ((hL.2.2.2 i g11).1) ((hL.2.2.2 i g11).2.1)) pm_X6_isThere wI_X6_isThere wS_X6_isThere wM_X3_36 kX6 ((hL.2.2.2 i g11).1) ⟨by decide, by decide⟩ ⟨by decide, by decide⟩ (nle rfl) dX3_counting_30 rfl (dt1 ?_)
          show V X (rmD 2 0 0) M 0 0 [(5, .ref (th i)), (0, .ref la), (1, .int (nI c)), (2, .int (nI d)), (3, .ref (th b)), (4, .int (nI i))] 33 [.int (bI (qin (nI d) (nI (m i 6)) (nI (m i 7))))]
          rw [there_N (hL.2.2.2 i g11).2.2.2 (by omega)]
          show V X (rmD 2 0 0) M 0 0 [(5, .ref (th i)), (0, .ref la), (1, .int (nI c)), (2, .int (nI d)), (3, .ref (th b)), (4, .int (nI i))] 33 [.int (bI (there (m i) d))]
          refine v_ifb_eq (tgt := 64) C dX3_counting_33 (by decide) (fun h33 => ?_) (fun h33 => ?_)
          · refine v_iinc (lv' := [(4, .int (nI (i + 1))), (5, .ref (th i)), (0, .ref la), (1, .int (nI c)), (2, .int (nI d)), (3, .ref (th b))]) C dX3_counting_64 5 rfl (nI_1 _) hN (by decide) rfl ?_
            refine v_goto (tgt := 5) C dX3_counting_67 (by decide) ?_
            refine v_sub (lv' := [(0, .ref la), (1, .int (nI c)), (2, .int (nI d)), (3, .ref (th b)), (4, .int (nI (i + 1)))]) [2, 3, 4, 5, 0] rfl ?_
            have e1 : bst m (c % 12) (c / 12) d (i + 1) = some b := by first | (simp [bst, hb, abv, *]; done) | simp_all
            have q := ih5 (i + 1) (by omega) (by omega)
            rw [e1] at q
            exact q
          · refine v_aload C dX3_counting_36 rfl ?_
            refine v_iload_n C dX3_counting_38 rfl ?_
            refine v_bipush C dX3_counting_39 (v := 12) rfl ?_
            refine v_irem C dX3_counting_41 (by decide) ?_
            refine v_iload_n C dX3_counting_42 rfl ?_
            refine v_bipush C dX3_counting_43 (v := 12) rfl ?_
            refine v_idiv C dX3_counting_45 (by decide) ?_
            rw [cell_mod (by omega), cell_div (by omega)]
            show V X (rmD 2 0 0) M 0 0 [(5, .ref (th i)), (0, .ref la), (1, .int (nI c)), (2, .int (nI d)), (3, .ref (th b)), (4, .int (nI i))] 46 [.int (nI (c / 12)), .int (nI (c % 12)), .ref (th i)]
            refine v_callV (As := [.int (nI (c % 12)), .int (nI (c / 12))]) (rest := []) (b := th i) C (c_X6_liesOn (xl X) (xg X) M (th i) (mk i) (dn i) (nI i) (fun w => nI (m i w)) (nI (c % 12)) (nI (c / 12)) ((hL.2.2.2 i g11).1) ((hL.2.2.2 i g11).2.1)) pm_X6_liesOn wI_X6_liesOn wS_X6_liesOn wM_X3_40 kX6 ((hL.2.2.2 i g11).1) ⟨by decide, by decide⟩ ⟨by decide, by decide⟩ (nle rfl) dX3_counting_46 rfl (dt1 ?_)
            show V X (rmD 2 0 0) M 0 0 [(5, .ref (th i)), (0, .ref la), (1, .int (nI c)), (2, .int (nI d)), (3, .ref (th b)), (4, .int (nI i))] 49 [.int (bI (lies (fun w => nI (m i w)) (nI (c % 12)) (nI (c / 12))))]
            rw [lies_N (hL.2.2.2 i g11).2.2.2 (by omega) (by omega)]
            show V X (rmD 2 0 0) M 0 0 [(5, .ref (th i)), (0, .ref la), (1, .int (nI c)), (2, .int (nI d)), (3, .ref (th b)), (4, .int (nI i))] 49 [.int (bI (liesN (m i) (c % 12) (c / 12)))]
            refine v_ifb_eq (tgt := 64) C dX3_counting_49 (by decide) (fun h49 => ?_) (fun h49 => ?_)
            · refine v_iinc (lv' := [(4, .int (nI (i + 1))), (5, .ref (th i)), (0, .ref la), (1, .int (nI c)), (2, .int (nI d)), (3, .ref (th b))]) C dX3_counting_64 5 rfl (nI_1 _) hN (by decide) rfl ?_
              refine v_goto (tgt := 5) C dX3_counting_67 (by decide) ?_
              refine v_sub (lv' := [(0, .ref la), (1, .int (nI c)), (2, .int (nI d)), (3, .ref (th b)), (4, .int (nI (i + 1)))]) [2, 3, 4, 5, 0] rfl ?_
              have e1 : bst m (c % 12) (c / 12) d (i + 1) = some b := by first | (simp [bst, hb, abv, *]; done) | simp_all
              have q := ih5 (i + 1) (by omega) (by omega)
              rw [e1] at q
              exact q
            · refine v_aload C dX3_counting_52 rfl ?_
              refine v_aload_n C dX3_counting_54 rfl ?_
              refine v_callV (As := [.ref (th b)]) (rest := []) (b := th i) C (c_X6_isAbove (xl X) (xg X) M (th i) (mk i) (dn i) (nI i) (fun w => nI (m i w)) (th b) (mk b) (dn b) (nI b) (fun w => nI (m b w)) ((hL.2.2.2 i g11).1) ((hL.2.2.2 i g11).2.1) ((hL.2.2.2 b ((by omega))).1) ((hL.2.2.2 b ((by omega))).2.1)) pm_X6_isAbove wI_X6_isAbove wS_X6_isAbove wM_X3_44 kX6 ((hL.2.2.2 i g11).1) ⟨by decide, by decide⟩ ⟨by decide, by decide⟩ (nle rfl) dX3_counting_55 rfl (dt1 ?_)
              show V X (rmD 2 0 0) M 0 0 [(5, .ref (th i)), (0, .ref la), (1, .int (nI c)), (2, .int (nI d)), (3, .ref (th b)), (4, .int (nI i))] 58 [.int (bI (decide (nI (m b 4) < nI (m i 4))))]
              rw [above_N (hL.2.2.2 i g11).2.2.2 (hL.2.2.2 b (by omega)).2.2.2]
              show V X (rmD 2 0 0) M 0 0 [(5, .ref (th i)), (0, .ref la), (1, .int (nI c)), (2, .int (nI d)), (3, .ref (th b)), (4, .int (nI i))] 58 [.int (bI (decide (m b 4 < m i 4)))]
              refine v_ifb_eq (tgt := 64) C dX3_counting_58 (by decide) (fun h58 => ?_) (fun h58 => ?_)
              · refine v_iinc (lv' := [(4, .int (nI (i + 1))), (5, .ref (th i)), (0, .ref la), (1, .int (nI c)), (2, .int (nI d)), (3, .ref (th b))]) C dX3_counting_64 5 rfl (nI_1 _) hN (by decide) rfl ?_
                refine v_goto (tgt := 5) C dX3_counting_67 (by decide) ?_
                refine v_sub (lv' := [(0, .ref la), (1, .int (nI c)), (2, .int (nI d)), (3, .ref (th b)), (4, .int (nI (i + 1)))]) [2, 3, 4, 5, 0] rfl ?_
                have e1 : bst m (c % 12) (c / 12) d (i + 1) = some b := by first | (simp [bst, hb, abv, *]; done) | simp_all
                have q := ih5 (i + 1) (by omega) (by omega)
                rw [e1] at q
                exact q
              · refine v_aload C dX3_counting_61 rfl ?_
                refine v_astore_n (lv' := [(3, .ref (th i)), (5, .ref (th i)), (0, .ref la), (1, .int (nI c)), (2, .int (nI d)), (4, .int (nI i))]) C dX3_counting_63 hN (by decide) rfl ?_
                refine v_iinc (lv' := [(4, .int (nI (i + 1))), (3, .ref (th i)), (5, .ref (th i)), (0, .ref la), (1, .int (nI c)), (2, .int (nI d))]) C dX3_counting_64 5 rfl (nI_1 _) hN (by decide) rfl ?_
                refine v_goto (tgt := 5) C dX3_counting_67 (by decide) ?_
                refine v_sub (lv' := [(0, .ref la), (1, .int (nI c)), (2, .int (nI d)), (3, .ref (th i)), (4, .int (nI (i + 1)))]) [3, 4, 5, 1, 0] rfl ?_
                have e1 : bst m (c % 12) (c / 12) d (i + 1) = some i := by first | (simp [bst, hb, abv, *]; done) | simp_all
                have q := ih5 (i + 1) (by omega) (by omega)
                rw [e1] at q
                exact q
  exact lp5 (_ + 1) 0 (Nat.zero_le _) (Nat.lt_succ_self _)

theorem LandW.set {g : Gm} {M : Mem} {la ta : Nat} {th mk dn : Nat → Nat} {nT : Nat} {m : Nat → Nat → Nat} {lo hi : Nat → Int64} (hL : LandW g M la ta th mk dn nT m lo hi) {ra : Nat} (e : va_E) (h : la ≠ ra ∧ ta ≠ ra ∧ ∀ i, i < nT → th i ≠ ra ∧ mk i ≠ ra ∧ dn i ≠ ra) : LandW g (mset M ra e) la ta th mk dn nT m lo hi := by
  obtain ⟨h1, h2, h3, h4⟩ := hL
  refine ⟨h1, (mset_ne h.1).trans h2, (mset_ne h.2.1).trans h3, fun i hi => ?_⟩
  obtain ⟨q1, q2, q3, q4⟩ := h4 i hi
  obtain ⟨r1, r2, r3⟩ := h.2.2 i hi
  exact ⟨(mset_ne r1).trans q1, (mset_ne r2).trans q2, (mset_ne r3).trans q3, q4⟩
theorem LandW.setI {g : Gm} {M : Mem} {la ta : Nat} {th mk dn : Nat → Nat} {nT : Nat} {m : Nat → Nat → Nat} {lo hi : Nat → Int64} (hL : LandW g M la ta th mk dn nT m lo hi) {ra len : Nat} {f : Nat → Int32} (hR : M ra = some (aI g len f)) (hl : len ≠ 11) (e : va_E) : LandW g (mset M ra e) la ta th mk dn nT m lo hi := by
  have ⟨h1, h2, h3, h4⟩ := hL
  refine hL.set e ⟨cell_ne h2 hR (by simp), cell_ne h3 hR (by simp), fun i hi => ?_⟩
  obtain ⟨q1, q2, q3, q4⟩ := h4 i hi
  exact ⟨cell_ne q1 hR (by simp), cell_ne q2 hR (fun q => hl (by simp at q; exact q.1.symm)), cell_ne q3 hR (by simp)⟩
theorem LandW.setO {g : Gm} {M : Mem} {la ta : Nat} {th mk dn : Nat → Nat} {nT : Nat} {m : Nat → Nat → Nat} {lo hi : Nat → Int64} (hL : LandW g M la ta th mk dn nT m lo hi) {ra ci : Nat} {fs : List Value} (hR : M ra = some (.inr (ci, fs))) (hc : ci ≠ 3 ∧ ci ≠ 6 ∧ ci ≠ 7) (e : va_E) : LandW g (mset M ra e) la ta th mk dn nT m lo hi := by
  have ⟨h1, h2, h3, h4⟩ := hL
  refine hL.set e ⟨cell_ne h2 hR (fun q => hc.1 (by simp at q; exact q.1.symm)), cell_ne h3 hR (by simp), fun i hi => ?_⟩
  obtain ⟨q1, q2, q3, q4⟩ := h4 i hi
  exact ⟨cell_ne q1 hR (fun q => hc.2.1 (by simp at q; exact q.1.symm)), cell_ne q2 hR (by simp), cell_ne q3 hR (fun q => hc.2.2 (by simp at q; exact q.1.symm))⟩
theorem LandW.setJ {g : Gm} {M : Mem} {la ta : Nat} {th mk dn : Nat → Nat} {nT : Nat} {m : Nat → Nat → Nat} {lo hi : Nat → Int64} (hL : LandW g M la ta th mk dn nT m lo hi) {ra len : Nat} {f : Nat → Int64} (hR : M ra = some (aJ g len f)) (e : va_E) : LandW g (mset M ra e) la ta th mk dn nT m lo hi := by
  have ⟨h1, h2, h3, h4⟩ := hL
  refine hL.set e ⟨cell_ne h2 hR (by simp), cell_ne h3 hR (by simp), fun i hi => ?_⟩
  obtain ⟨q1, q2, q3, q4⟩ := h4 i hi
  exact ⟨cell_ne q1 hR (by simp), cell_ne q2 hR (by simp), cell_ne q3 hR (by simp)⟩
/-- the k-th CELL that a THING lies on, and which one a CELL is -/
def layC (m : Nat → Nat) (k : Nat) : Nat := 12 * (m 1 + k / m 2) + (m 0 + k % m 2)
def layK (m : Nat → Nat) (c : Nat) : Nat := (c / 12 - m 1) * m 2 + (c % 12 - m 0)
theorem lay_c {m : Nat → Nat} (h : okM m) {k : Nat} (hk : k < m 2 * m 3) : layC m k < 96 ∧ layC m k % 12 = m 0 + k % m 2 ∧ layC m k / 12 = m 1 + k / m 2 ∧ layK m (layC m k) = k ∧ liesN m (layC m k % 12) (layC m k / 12) = true := by
  unfold okM at h
  have h1 : k % m 2 < m 2 := Nat.mod_lt _ (by omega)
  have h2 : k / m 2 < m 3 := Nat.div_lt_of_lt_mul hk
  have h3 := Nat.div_add_mod k (m 2)
  unfold layK liesN layC
  generalize k / m 2 = q at *
  generalize k % m 2 = r at *
  have e1 : (12 * (m 1 + q) + (m 0 + r)) % 12 = m 0 + r := by omega
  have e2 : (12 * (m 1 + q) + (m 0 + r)) / 12 = m 1 + q := by omega
  rw [e1, e2]
  refine ⟨by omega, rfl, rfl, ?_, ?_⟩
  · rw [show m 1 + q - m 1 = q by omega, show m 0 + r - m 0 = r by omega, Nat.mul_comm]
    exact h3
  · simp only [Bool.and_eq_true, decide_eq_true_eq]
    omega
theorem lay_k {m : Nat → Nat} (h : okM m) {c : Nat} (hl : liesN m (c % 12) (c / 12) = true) : layK m c < m 2 * m 3 ∧ layC m (layK m c) = c := by
  unfold okM at h
  unfold liesN at hl
  simp only [Bool.and_eq_true, decide_eq_true_eq] at hl
  have e1 : layK m c % m 2 = c % 12 - m 0 := by
    unfold layK
    rw [Nat.mul_comm, Nat.mul_add_mod, Nat.mod_eq_of_lt (a := c % 12 - m 0) (b := m 2) (by omega)]
  have e2 : layK m c / m 2 = c / 12 - m 1 := by
    unfold layK
    rw [Nat.mul_comm, Nat.mul_add_div (by omega), Nat.div_eq_of_lt (a := c % 12 - m 0) (b := m 2) (by omega), Nat.add_zero]
  refine ⟨?_, ?_⟩
  · have : layK m c < (c / 12 - m 1) * m 2 + m 2 := by unfold layK; omega
    have h2 : (c / 12 - m 1) * m 2 + m 2 = (c / 12 - m 1 + 1) * m 2 := by rw [Nat.add_mul, Nat.one_mul]
    have h3 : (c / 12 - m 1 + 1) * m 2 ≤ m 3 * m 2 := Nat.mul_le_mul_right _ (by omega)
    rw [Nat.mul_comm (m 2)]
    omega
  · unfold layC
    rw [e1, e2]
    omega
/-- the row of a picture while THING i is laid on it: k CELLS are done -/
def layF (m : Nat → Nat → Nat) (d i k c : Nat) : Option Nat := if (liesN (m i) (c % 12) (c / 12) && decide (layK (m i) c < k)) && abv m (bst m (c % 12) (c / 12) d i) i then some i else bst m (c % 12) (c / 12) d i
theorem layF_0 (m : Nat → Nat → Nat) (d i c : Nat) : layF m d i 0 c = bst m (c % 12) (c / 12) d i := by simp [layF]
theorem layF_end {m : Nat → Nat → Nat} {d i : Nat} (h : okM (m i)) (ht : there (m i) d = true) (c : Nat) : layF m d i (m i 2 * m i 3) c = bst m (c % 12) (c / 12) d (i + 1) := by
  unfold layF
  rw [bst, ht]
  by_cases hl : liesN (m i) (c % 12) (c / 12) = true
  · have := (lay_k h hl).1
    simp [hl, this]
  · simp [hl]
theorem layF_here {m : Nat → Nat → Nat} {d i k : Nat} (h : okM (m i)) (hk : k < m i 2 * m i 3) : layF m d i k (layC (m i) k) = bst m (m i 0 + k % m i 2) (m i 1 + k / m i 2) d i := by
  obtain ⟨-, e1, e2, e3, -⟩ := lay_c h hk
  unfold layF
  rw [e3]
  simp [e1, e2]
theorem layF_step {m : Nat → Nat → Nat} {d i k : Nat} (h : okM (m i)) (hk : k < m i 2 * m i 3) (c : Nat) : layF m d i (k + 1) c = if c = layC (m i) k ∧ abv m (bst m (m i 0 + k % m i 2) (m i 1 + k / m i 2) d i) i = true then some i else layF m d i k c := by
  obtain ⟨-, e1, e2, e3, e4⟩ := lay_c h hk
  by_cases hc : c = layC (m i) k
  · subst hc
    unfold layF
    rw [e4, e3, e1, e2]
    simp
  · have hne : liesN (m i) (c % 12) (c / 12) = true → layK (m i) c ≠ k := fun hl q => hc (by rw [← (lay_k h hl).2, q])
    unfold layF
    simp only [hc, false_and, if_false]
    by_cases hl : liesN (m i) (c % 12) (c / 12) = true
    · have h1 := hne hl
      have h2 : decide (layK (m i) c < k + 1) = decide (layK (m i) c < k) := decide_eq_decide.mpr (by omega)
      rw [h2]
    · simp [hl]
theorem oI_find {o : Option Nat} {n : Nat} (h : ∀ b, o = some b → b < n) : (o = none ∧ oI o = -6) ∨ ∃ b, o = some b ∧ b < n ∧ oI o = nI b := by
  cases o with
  | none => exact Or.inl ⟨rfl, rfl⟩
  | some b => exact Or.inr ⟨b, rfl, h b rfl, rfl⟩
theorem m6_ne {n : Nat} (h : n < 2 ^ 31) : ¬ (-6 : Int32) = nI n := fun q => by
  have h1 : (nI n).toInt = -6 := by rw [← q]; rfl
  rw [nI_toInt h] at h1
  omega

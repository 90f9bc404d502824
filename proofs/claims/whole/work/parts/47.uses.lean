/-! Uses. -/
set_option maxHeartbeats 4000000 in
set_option maxRecDepth 100000 in
theorem c_X1_knownI (l : Launch) (g : Gm) (M : Mem) (fa va : Nat) (bc bs : Bool) (vf : Nat → Int32) (x : Int32) (hF : M fa = some (.inr (1, [.ref va, .int (bI bc), .int (bI bs)]))) (hV : M va = some (aI g 9 vf)) : Ct l g yX1_known cX1_known 2 (some .int) 0 0 0 [.ref fa, .int x] M (fun v N => v = some (.int (knI vf x)) ∧ N = M) := by
  refine Ct.of (by decide) (Nat.le_of_ble_eq_true rfl) ?_
  intro X hXl hXg hN C E
  subst hXl; subst hXg
  show V X (rmD 0 0 0) M 0 0 [(0, .ref fa), (1, .int x)] 0 []
  refine v_iload_n C dX1_known_0 rfl ?_
  refine v_if_lt (tgt := 19) C dX1_known_1 (by decide) (fun h1 => ?_) (fun h1 => ?_)
  · refine v_bipush C dX1_known_19 (v := (-6)) rfl ?_
    exact v_iret C E dX1_known_21 (nle rfl) (nle rfl) ⟨by rw [knI]; first | rw [if_neg (fun q => absurd h1 (Int32.not_lt.mpr q.1))] | rw [if_neg (fun q => absurd h7 (Int32.not_le.mpr q.2))], rfl⟩
  · refine v_iload_n C dX1_known_4 rfl ?_
    refine v_bipush C dX1_known_5 (v := 9) rfl ?_
    refine v_icmp_ge (tgt := 19) C dX1_known_7 (by decide) (fun h7 => ?_) (fun h7 => ?_)
    · refine v_bipush C dX1_known_19 (v := (-6)) rfl ?_
      exact v_iret C E dX1_known_21 (nle rfl) (nle rfl) ⟨by rw [knI]; first | rw [if_neg (fun q => absurd h1 (Int32.not_lt.mpr q.1))] | rw [if_neg (fun q => absurd h7 (Int32.not_le.mpr q.2))], rfl⟩
    · refine v_aload_n C dX1_known_10 rfl ?_
      refine v_get C kX1 hF 0 (by decide) wF_X1_11 rfl dX1_known_11 ?_
      refine v_iload_n C dX1_known_14 rfl ?_
      refine v_iald C hV (vp_in_iff.mpr ⟨by have := Int32.le_iff_toInt_le.mp (Int32.not_lt.mp h1); exact this, by have := Int32.lt_iff_toInt_lt.mp (Int32.not_le.mp h7); exact this⟩) dX1_known_15 ?_
      refine v_goto (tgt := 21) C dX1_known_16 (by decide) ?_
      exact v_iret C E dX1_known_21 (nle rfl) (nle rfl) ⟨by rw [knI, if_pos ⟨Int32.not_lt.mp h1, Int32.not_le.mp h7⟩], rfl⟩

set_option maxHeartbeats 4000000 in
set_option maxRecDepth 100000 in
theorem c_X8_isDigit (l : Launch) (g : Gm) (a : Int32) (M : Mem) : Ct l g yX8_isDigit cX8_isDigit 1 (some .boolean) 1 0 0 [.int a] M (fun w N => w = some (.int (bI (qin a 48 57))) ∧ N = M) := by
  refine Ct.of (by decide) (Nat.le_of_ble_eq_true rfl) ?_
  intro X hXl hXg hN C E
  subst hXl; subst hXg
  show V X (rmD 1 0 0) M 0 0 [(0, .int a)] 0 []
  refine v_iload_n C dX8_isDigit_0 rfl ?_
  refine v_bipush C dX8_isDigit_1 (v := 48) rfl ?_
  refine v_bipush C dX8_isDigit_3 (v := 57) rfl ?_
  refine v_callSN (As := [.int a, .int 48, .int 57]) (rest := []) C (c_X9_isWithin (xl X) (xg X) a 48 57 M) pm_X9_isWithin wT_X9_isWithin wMN_X8_35 ⟨by decide, by decide⟩ ⟨by decide, by decide⟩ (nle rfl) dX8_isDigit_5 rfl (dt1 ?_)
  show V X (rmD 1 0 0) M 0 0 [(0, .int a)] 8 [.int (bI (qin a 48 57))]
  exact v_zret C E dX8_isDigit_8 (nle rfl) (nle rfl) (bI_01 _) ⟨rfl, rfl⟩

set_option maxHeartbeats 4000000 in
set_option maxRecDepth 100000 in
theorem c_X8_behindFact (l : Launch) (g : Gm) (a : Int32) (M : Mem) : Ct l g yX8_behindFact cX8_behindFact 1 (some .int) 0 0 0 [.int a] M (fun w N => w = some (.int (nI (stp 0 a))) ∧ N = M) := by
  refine Ct.of (by decide) (Nat.le_of_ble_eq_true rfl) ?_
  intro X hXl hXg hN C E
  subst hXl; subst hXg
  show V X (rmD 0 0 0) M 0 0 [(0, .int a)] 0 []
  refine v_iload_n C dX8_behindFact_0 rfl ?_
  refine v_bipush C dX8_behindFact_1 (v := 110) rfl ?_
  refine v_icmp_ne (tgt := 8) C dX8_behindFact_3 (by decide) (fun h3 => ?_) (fun h3 => ?_)
  · refine v_iload_n C dX8_behindFact_8 rfl ?_
    refine v_bipush C dX8_behindFact_9 (v := 115) rfl ?_
    refine v_icmp_eq (tgt := 26) C dX8_behindFact_11 (by decide) (fun h11 => ?_) (fun h11 => ?_)
    · refine v_iconst C dX8_behindFact_26 (v := 2) rfl ?_
      refine v_goto (tgt := 32) C dX8_behindFact_27 (by decide) ?_
      exact v_iret C E dX8_behindFact_32 (nle rfl) (nle rfl) ⟨by simp [stp, *]; rfl, rfl⟩
    · refine v_iload_n C dX8_behindFact_14 rfl ?_
      refine v_bipush C dX8_behindFact_15 (v := 107) rfl ?_
      refine v_icmp_eq (tgt := 26) C dX8_behindFact_17 (by decide) (fun h17 => ?_) (fun h17 => ?_)
      · refine v_iconst C dX8_behindFact_26 (v := 2) rfl ?_
        refine v_goto (tgt := 32) C dX8_behindFact_27 (by decide) ?_
        exact v_iret C E dX8_behindFact_32 (nle rfl) (nle rfl) ⟨by simp [stp, *]; rfl, rfl⟩
      · refine v_iload_n C dX8_behindFact_20 rfl ?_
        refine v_bipush C dX8_behindFact_21 (v := 104) rfl ?_
        refine v_icmp_ne (tgt := 30) C dX8_behindFact_23 (by decide) (fun h23 => ?_) (fun h23 => ?_)
        · refine v_bipush C dX8_behindFact_30 (v := 6) rfl ?_
          exact v_iret C E dX8_behindFact_32 (nle rfl) (nle rfl) ⟨by simp [stp, *]; rfl, rfl⟩
        · refine v_iconst C dX8_behindFact_26 (v := 2) rfl ?_
          refine v_goto (tgt := 32) C dX8_behindFact_27 (by decide) ?_
          exact v_iret C E dX8_behindFact_32 (nle rfl) (nle rfl) ⟨by simp [stp, *]; rfl, rfl⟩
  · refine v_iconst C dX8_behindFact_6 (v := 1) rfl ?_
    exact v_iret C E dX8_behindFact_7 (nle rfl) (nle rfl) ⟨by simp [stp, *]; rfl, rfl⟩

set_option maxHeartbeats 4000000 in
set_option maxRecDepth 100000 in
theorem c_X8_behindJoint (l : Launch) (g : Gm) (a : Int32) (M : Mem) : Ct l g yX8_behindJoint cX8_behindJoint 1 (some .int) 0 0 0 [.int a] M (fun w N => w = some (.int (nI (stp 5 a))) ∧ N = M) := by
  refine Ct.of (by decide) (Nat.le_of_ble_eq_true rfl) ?_
  intro X hXl hXg hN C E
  subst hXl; subst hXg
  show V X (rmD 0 0 0) M 0 0 [(0, .int a)] 0 []
  refine v_iload_n C dX8_behindJoint_0 rfl ?_
  refine v_bipush C dX8_behindJoint_1 (v := 38) rfl ?_
  refine v_icmp_eq (tgt := 12) C dX8_behindJoint_3 (by decide) (fun h3 => ?_) (fun h3 => ?_)
  · refine v_iconst C dX8_behindJoint_12 (v := 0) rfl ?_
    refine v_goto (tgt := 18) C dX8_behindJoint_13 (by decide) ?_
    exact v_iret C E dX8_behindJoint_18 (nle rfl) (nle rfl) ⟨by simp [stp, *]; rfl, rfl⟩
  · refine v_iload_n C dX8_behindJoint_6 rfl ?_
    refine v_bipush C dX8_behindJoint_7 (v := 124) rfl ?_
    refine v_icmp_ne (tgt := 16) C dX8_behindJoint_9 (by decide) (fun h9 => ?_) (fun h9 => ?_)
    · refine v_bipush C dX8_behindJoint_16 (v := 6) rfl ?_
      exact v_iret C E dX8_behindJoint_18 (nle rfl) (nle rfl) ⟨by simp [stp, *]; rfl, rfl⟩
    · refine v_iconst C dX8_behindJoint_12 (v := 0) rfl ?_
      refine v_goto (tgt := 18) C dX8_behindJoint_13 (by decide) ?_
      exact v_iret C E dX8_behindJoint_18 (nle rfl) (nle rfl) ⟨by simp [stp, *]; rfl, rfl⟩

set_option maxHeartbeats 4000000 in
set_option maxRecDepth 100000 in
theorem c_X8_test (l : Launch) (g : Gm) (a b c : Int32) (M : Mem) : Ct l g yX8_test cX8_test 3 (some .int) 0 0 0 [.int a, .int b, .int c] M (fun w N => w = some (.int (jtest a b c)) ∧ N = M) := by
  refine Ct.of (by decide) (Nat.le_of_ble_eq_true rfl) ?_
  intro X hXl hXg hN C E
  subst hXl; subst hXg
  show V X (rmD 0 0 0) M 0 0 [(0, .int a), (1, .int b), (2, .int c)] 0 []
  refine v_iload_n C dX8_test_0 rfl ?_
  refine v_bipush C dX8_test_1 (v := (-6)) rfl ?_
  refine v_icmp_ne (tgt := 8) C dX8_test_3 (by decide) (fun h3 => ?_) (fun h3 => ?_)
  · refine v_iload_n C dX8_test_8 rfl ?_
    refine v_bipush C dX8_test_9 (v := 60) rfl ?_
    refine v_icmp_ne (tgt := 25) C dX8_test_11 (by decide) (fun h11 => ?_) (fun h11 => ?_)
    · refine v_iload_n C dX8_test_25 rfl ?_
      refine v_bipush C dX8_test_26 (v := 62) rfl ?_
      refine v_icmp_ne (tgt := 42) C dX8_test_28 (by decide) (fun h28 => ?_) (fun h28 => ?_)
      · refine v_iload_n C dX8_test_42 rfl ?_
        refine v_iload_n C dX8_test_43 rfl ?_
        refine v_icmp_ne (tgt := 51) C dX8_test_44 (by decide) (fun h44 => ?_) (fun h44 => ?_)
        · refine v_iconst C dX8_test_51 (v := 0) rfl ?_
          exact v_iret C E dX8_test_52 (nle rfl) (nle rfl) ⟨by first | (simp [jtest, i32_lt_nle, i32_nle, *]; done) | simp_all [jtest], rfl⟩
        · refine v_iconst C dX8_test_47 (v := 2) rfl ?_
          refine v_goto (tgt := 52) C dX8_test_48 (by decide) ?_
          exact v_iret C E dX8_test_52 (nle rfl) (nle rfl) ⟨by first | (simp [jtest, i32_lt_nle, i32_nle, *]; done) | simp_all [jtest], rfl⟩
      · refine v_iload_n C dX8_test_31 rfl ?_
        refine v_iload_n C dX8_test_32 rfl ?_
        refine v_icmp_le (tgt := 40) C dX8_test_33 (by decide) (fun h33 => ?_) (fun h33 => ?_)
        · refine v_iconst C dX8_test_40 (v := 0) rfl ?_
          exact v_iret C E dX8_test_41 (nle rfl) (nle rfl) ⟨by first | (simp [jtest, i32_lt_nle, i32_nle, *]; done) | simp_all [jtest], rfl⟩
        · refine v_iconst C dX8_test_36 (v := 2) rfl ?_
          refine v_goto (tgt := 41) C dX8_test_37 (by decide) ?_
          exact v_iret C E dX8_test_41 (nle rfl) (nle rfl) ⟨by first | (simp [jtest, i32_lt_nle, i32_nle, *]; done) | simp_all [jtest], rfl⟩
    · refine v_iload_n C dX8_test_14 rfl ?_
      refine v_iload_n C dX8_test_15 rfl ?_
      refine v_icmp_ge (tgt := 23) C dX8_test_16 (by decide) (fun h16 => ?_) (fun h16 => ?_)
      · refine v_iconst C dX8_test_23 (v := 0) rfl ?_
        exact v_iret C E dX8_test_24 (nle rfl) (nle rfl) ⟨by first | (simp [jtest, i32_lt_nle, i32_nle, *]; done) | simp_all [jtest], rfl⟩
      · refine v_iconst C dX8_test_19 (v := 2) rfl ?_
        refine v_goto (tgt := 24) C dX8_test_20 (by decide) ?_
        exact v_iret C E dX8_test_24 (nle rfl) (nle rfl) ⟨by first | (simp [jtest, i32_lt_nle, i32_nle, *]; done) | simp_all [jtest], rfl⟩
  · refine v_iconst C dX8_test_6 (v := 1) rfl ?_
    exact v_iret C E dX8_test_7 (nle rfl) (nle rfl) ⟨by first | (simp [jtest, i32_lt_nle, i32_nle, *]; done) | simp_all [jtest], rfl⟩

set_option maxHeartbeats 4000000 in
set_option maxRecDepth 100000 in
theorem c_X8_behind0 (l : Launch) (g : Gm) (a : Int32) (M : Mem) : Ct l g yX8_behind cX8_behind 2 (some .int) 2 0 0 [.int (nI 0), .int a] M (fun w N => w = some (.int (nI (stp 0 a))) ∧ N = M) := by
  refine Ct.of (by decide) (Nat.le_of_ble_eq_true rfl) ?_
  intro X hXl hXg hN C E
  subst hXl; subst hXg
  show V X (rmD 2 0 0) M 0 0 [(0, .int (nI 0)), (1, .int a)] 0 []
  refine v_iload_n C dX8_behind_0 rfl ?_
  refine v_tableIn (tgt := 40) C dX8_behind_1 (by decide) (by decide) (off := 39) rfl (by decide) ?_
  refine v_iload_n C dX8_behind_40 rfl ?_
  refine v_callS (As := [.int a]) (rest := []) C (c_X8_behindFact (xl X) (xg X) a M) pm_X8_behindFact wT_X8_behindFact wM_X8_31 ⟨by decide, by decide⟩ ⟨by decide, by decide⟩ (nle rfl) dX8_behind_41 rfl (dt1 ?_)
  show V X (rmD 2 0 0) M 0 0 [(0, .int (nI 0)), (1, .int a)] 44 [.int (nI (stp 0 a))]
  exact v_iret C E dX8_behind_44 (nle rfl) (nle rfl) ⟨by first | rfl | (simp [stp, *]; done) | (simp [stp, *]; rfl), rfl⟩

set_option maxHeartbeats 4000000 in
set_option maxRecDepth 100000 in
theorem c_X8_behind1 (l : Launch) (g : Gm) (a : Int32) (M : Mem) : Ct l g yX8_behind cX8_behind 2 (some .int) 2 0 0 [.int (nI 1), .int a] M (fun w N => w = some (.int (nI (stp 1 a))) ∧ N = M) := by
  refine Ct.of (by decide) (Nat.le_of_ble_eq_true rfl) ?_
  intro X hXl hXg hN C E
  subst hXl; subst hXg
  show V X (rmD 2 0 0) M 0 0 [(0, .int (nI 1)), (1, .int a)] 0 []
  refine v_iload_n C dX8_behind_0 rfl ?_
  refine v_tableIn (tgt := 45) C dX8_behind_1 (by decide) (by decide) (off := 44) rfl (by decide) ?_
  refine v_iload_n C dX8_behind_45 rfl ?_
  refine v_bipush C dX8_behind_46 (v := 48) rfl ?_
  refine v_bipush C dX8_behind_48 (v := 53) rfl ?_
  refine v_callSN (As := [.int a, .int 48, .int 53]) (rest := []) C (c_X9_isWithin (xl X) (xg X) a 48 53 M) pm_X9_isWithin wT_X9_isWithin wMN_X8_35 ⟨by decide, by decide⟩ ⟨by decide, by decide⟩ (nle rfl) dX8_behind_50 rfl (dt1 ?_)
  show V X (rmD 2 0 0) M 0 0 [(0, .int (nI 1)), (1, .int a)] 53 [.int (bI (qin a 48 53))]
  refine v_ifb_eq (tgt := 60) C dX8_behind_53 (by decide) (fun h53 => ?_) (fun h53 => ?_)
  · refine v_bipush C dX8_behind_60 (v := 6) rfl ?_
    exact v_iret C E dX8_behind_62 (nle rfl) (nle rfl) ⟨by first | rfl | (simp [stp, *]; done) | (simp [stp, *]; rfl), rfl⟩
  · refine v_iconst C dX8_behind_56 (v := 2) rfl ?_
    refine v_goto (tgt := 62) C dX8_behind_57 (by decide) ?_
    exact v_iret C E dX8_behind_62 (nle rfl) (nle rfl) ⟨by first | rfl | (simp [stp, *]; done) | (simp [stp, *]; rfl), rfl⟩

set_option maxHeartbeats 4000000 in
set_option maxRecDepth 100000 in
theorem c_X8_behind2 (l : Launch) (g : Gm) (a : Int32) (M : Mem) : Ct l g yX8_behind cX8_behind 2 (some .int) 2 0 0 [.int (nI 2), .int a] M (fun w N => w = some (.int (nI (stp 2 a))) ∧ N = M) := by
  refine Ct.of (by decide) (Nat.le_of_ble_eq_true rfl) ?_
  intro X hXl hXg hN C E
  subst hXl; subst hXg
  show V X (rmD 2 0 0) M 0 0 [(0, .int (nI 2)), (1, .int a)] 0 []
  refine v_iload_n C dX8_behind_0 rfl ?_
  refine v_tableIn (tgt := 63) C dX8_behind_1 (by decide) (by decide) (off := 62) rfl (by decide) ?_
  refine v_iload_n C dX8_behind_63 rfl ?_
  refine v_bipush C dX8_behind_64 (v := 60) rfl ?_
  refine v_icmp_eq (tgt := 81) C dX8_behind_66 (by decide) (fun h66 => ?_) (fun h66 => ?_)
  · refine v_iconst C dX8_behind_81 (v := 3) rfl ?_
    refine v_goto (tgt := 87) C dX8_behind_82 (by decide) ?_
    exact v_iret C E dX8_behind_87 (nle rfl) (nle rfl) ⟨by first | rfl | (simp [stp, *]; done) | (simp [stp, *]; rfl), rfl⟩
  · refine v_iload_n C dX8_behind_69 rfl ?_
    refine v_bipush C dX8_behind_70 (v := 62) rfl ?_
    refine v_icmp_eq (tgt := 81) C dX8_behind_72 (by decide) (fun h72 => ?_) (fun h72 => ?_)
    · refine v_iconst C dX8_behind_81 (v := 3) rfl ?_
      refine v_goto (tgt := 87) C dX8_behind_82 (by decide) ?_
      exact v_iret C E dX8_behind_87 (nle rfl) (nle rfl) ⟨by first | rfl | (simp [stp, *]; done) | (simp [stp, *]; rfl), rfl⟩
    · refine v_iload_n C dX8_behind_75 rfl ?_
      refine v_bipush C dX8_behind_76 (v := 61) rfl ?_
      refine v_icmp_ne (tgt := 85) C dX8_behind_78 (by decide) (fun h78 => ?_) (fun h78 => ?_)
      · refine v_bipush C dX8_behind_85 (v := 6) rfl ?_
        exact v_iret C E dX8_behind_87 (nle rfl) (nle rfl) ⟨by first | rfl | (simp [stp, *]; done) | (simp [stp, *]; rfl), rfl⟩
      · refine v_iconst C dX8_behind_81 (v := 3) rfl ?_
        refine v_goto (tgt := 87) C dX8_behind_82 (by decide) ?_
        exact v_iret C E dX8_behind_87 (nle rfl) (nle rfl) ⟨by first | rfl | (simp [stp, *]; done) | (simp [stp, *]; rfl), rfl⟩

set_option maxHeartbeats 4000000 in
set_option maxRecDepth 100000 in
theorem c_X8_behind3 (l : Launch) (g : Gm) (a : Int32) (M : Mem) : Ct l g yX8_behind cX8_behind 2 (some .int) 2 0 0 [.int (nI 3), .int a] M (fun w N => w = some (.int (nI (stp 3 a))) ∧ N = M) := by
  refine Ct.of (by decide) (Nat.le_of_ble_eq_true rfl) ?_
  intro X hXl hXg hN C E
  subst hXl; subst hXg
  show V X (rmD 2 0 0) M 0 0 [(0, .int (nI 3)), (1, .int a)] 0 []
  refine v_iload_n C dX8_behind_0 rfl ?_
  refine v_tableIn (tgt := 88) C dX8_behind_1 (by decide) (by decide) (off := 87) rfl (by decide) ?_
  refine v_iload_n C dX8_behind_88 rfl ?_
  refine v_callS (As := [.int a]) (rest := []) C (c_X8_isDigit (xl X) (xg X) a M) pm_X8_isDigit wT_X8_isDigit wM_X8_39 ⟨by decide, by decide⟩ ⟨by decide, by decide⟩ (nle rfl) dX8_behind_89 rfl (dt1 ?_)
  show V X (rmD 2 0 0) M 0 0 [(0, .int (nI 3)), (1, .int a)] 92 [.int (bI (qin a 48 57))]
  refine v_ifb_eq (tgt := 99) C dX8_behind_92 (by decide) (fun h92 => ?_) (fun h92 => ?_)
  · refine v_bipush C dX8_behind_99 (v := 6) rfl ?_
    exact v_iret C E dX8_behind_101 (nle rfl) (nle rfl) ⟨by first | rfl | (simp [stp, *]; done) | (simp [stp, *]; rfl), rfl⟩
  · refine v_iconst C dX8_behind_95 (v := 4) rfl ?_
    refine v_goto (tgt := 101) C dX8_behind_96 (by decide) ?_
    exact v_iret C E dX8_behind_101 (nle rfl) (nle rfl) ⟨by first | rfl | (simp [stp, *]; done) | (simp [stp, *]; rfl), rfl⟩

set_option maxHeartbeats 4000000 in
set_option maxRecDepth 100000 in
theorem c_X8_behind4 (l : Launch) (g : Gm) (a : Int32) (M : Mem) : Ct l g yX8_behind cX8_behind 2 (some .int) 2 0 0 [.int (nI 4), .int a] M (fun w N => w = some (.int (nI (stp 4 a))) ∧ N = M) := by
  refine Ct.of (by decide) (Nat.le_of_ble_eq_true rfl) ?_
  intro X hXl hXg hN C E
  subst hXl; subst hXg
  show V X (rmD 2 0 0) M 0 0 [(0, .int (nI 4)), (1, .int a)] 0 []
  refine v_iload_n C dX8_behind_0 rfl ?_
  refine v_tableIn (tgt := 102) C dX8_behind_1 (by decide) (by decide) (off := 101) rfl (by decide) ?_
  refine v_iload_n C dX8_behind_102 rfl ?_
  refine v_callS (As := [.int a]) (rest := []) C (c_X8_isDigit (xl X) (xg X) a M) pm_X8_isDigit wT_X8_isDigit wM_X8_39 ⟨by decide, by decide⟩ ⟨by decide, by decide⟩ (nle rfl) dX8_behind_103 rfl (dt1 ?_)
  show V X (rmD 2 0 0) M 0 0 [(0, .int (nI 4)), (1, .int a)] 106 [.int (bI (qin a 48 57))]
  refine v_ifb_eq (tgt := 113) C dX8_behind_106 (by decide) (fun h106 => ?_) (fun h106 => ?_)
  · refine v_iload_n C dX8_behind_113 rfl ?_
    refine v_callS (As := [.int a]) (rest := []) C (c_X8_behindJoint (xl X) (xg X) a M) pm_X8_behindJoint wT_X8_behindJoint wM_X8_43 ⟨by decide, by decide⟩ ⟨by decide, by decide⟩ (nle rfl) dX8_behind_114 rfl (dt1 ?_)
    show V X (rmD 2 0 0) M 0 0 [(0, .int (nI 4)), (1, .int a)] 117 [.int (nI (stp 5 a))]
    exact v_iret C E dX8_behind_117 (nle rfl) (nle rfl) ⟨by first | rfl | (simp [stp, *]; done) | (simp [stp, *]; rfl), rfl⟩
  · refine v_iconst C dX8_behind_109 (v := 5) rfl ?_
    refine v_goto (tgt := 117) C dX8_behind_110 (by decide) ?_
    exact v_iret C E dX8_behind_117 (nle rfl) (nle rfl) ⟨by first | rfl | (simp [stp, *]; done) | (simp [stp, *]; rfl), rfl⟩

set_option maxHeartbeats 4000000 in
set_option maxRecDepth 100000 in
theorem c_X8_behind5 (l : Launch) (g : Gm) (a : Int32) (M : Mem) : Ct l g yX8_behind cX8_behind 2 (some .int) 2 0 0 [.int (nI 5), .int a] M (fun w N => w = some (.int (nI (stp 5 a))) ∧ N = M) := by
  refine Ct.of (by decide) (Nat.le_of_ble_eq_true rfl) ?_
  intro X hXl hXg hN C E
  subst hXl; subst hXg
  show V X (rmD 2 0 0) M 0 0 [(0, .int (nI 5)), (1, .int a)] 0 []
  refine v_iload_n C dX8_behind_0 rfl ?_
  refine v_tableIn (tgt := 118) C dX8_behind_1 (by decide) (by decide) (off := 117) rfl (by decide) ?_
  refine v_iload_n C dX8_behind_118 rfl ?_
  refine v_callS (As := [.int a]) (rest := []) C (c_X8_behindJoint (xl X) (xg X) a M) pm_X8_behindJoint wT_X8_behindJoint wM_X8_43 ⟨by decide, by decide⟩ ⟨by decide, by decide⟩ (nle rfl) dX8_behind_119 rfl (dt1 ?_)
  show V X (rmD 2 0 0) M 0 0 [(0, .int (nI 5)), (1, .int a)] 122 [.int (nI (stp 5 a))]
  exact v_iret C E dX8_behind_122 (nle rfl) (nle rfl) ⟨by first | rfl | (simp [stp, *]; done) | (simp [stp, *]; rfl), rfl⟩

theorem c_X8_behind (l : Launch) (g : Gm) (k : Nat) (hk : k < 6) (a : Int32) (M : Mem) : Ct l g yX8_behind cX8_behind 2 (some .int) 2 0 0 [.int (nI k), .int a] M (fun w N => w = some (.int (nI (stp k a))) ∧ N = M) := by
  rcases (show k = 0 ∨ k = 1 ∨ k = 2 ∨ k = 3 ∨ k = 4 ∨ k = 5 by omega) with rfl | rfl | rfl | rfl | rfl | rfl
  · exact c_X8_behind0 l g a M
  · exact c_X8_behind1 l g a M
  · exact c_X8_behind2 l g a M
  · exact c_X8_behind3 l g a M
  · exact c_X8_behind4 l g a M
  · exact c_X8_behind5 l g a M
set_option maxHeartbeats 4000000 in
set_option maxRecDepth 100000 in
theorem c_X8_signs (l : Launch) (g : Gm) (M : Mem) (ua sa xa na : Nat) (ta : Nat → Nat) (nS : Nat) (sg : Nat → Int32) (ln : Nat → Nat) (tx : Nat → Nat → Int32) (hU : UseW g M ua sa xa na ta nS sg ln tx) : Ct l g yX8_signs cX8_signs 1 (some .int) 0 0 0 [.ref ua] M (fun v N => v = some (.int (nI nS)) ∧ N = M) := by
  refine Ct.of (by decide) (Nat.le_of_ble_eq_true rfl) ?_
  intro X hXl hXg hN C E
  subst hXl; subst hXg
  show V X (rmD 0 0 0) M 0 0 [(0, .ref ua)] 0 []
  refine v_aload_n C dX8_signs_0 rfl ?_
  refine v_get C kX8 hU.2.1 1 (by decide) wF_X8_23 rfl dX8_signs_1 ?_
  exact v_iret C E dX8_signs_4 (nle rfl) (nle rfl) ⟨rfl, rfl⟩

set_option maxHeartbeats 4000000 in
set_option maxRecDepth 100000 in
theorem c_X8_append (l : Launch) (g : Gm) (M : Mem) (ua sa xa na : Nat) (ta : Nat → Nat) (nS : Nat) (sg : Nat → Int32) (ln : Nat → Nat) (tx : Nat → Nat → Int32) (x : Int32) (hU : UseW g M ua sa xa na ta nS sg ln tx) : Ct l g yX8_append cX8_append 2 (some .int) 0 0 0 [.ref ua, .int x] M (fun v N => (40 ≤ nS ∧ v = some (.int (-4)) ∧ N = M) ∨ (nS < 40 ∧ v = some (.int (nI (nS + 1))) ∧ N = mset (mset M sa (aI g 40 (upd sg nS x))) ua (.inr (8, [.ref sa, .int (nI (nS + 1)), .ref xa, .ref na])))) := by
  refine Ct.of (by decide) (Nat.le_of_ble_eq_true rfl) ?_
  intro X hXl hXg hN C E
  subst hXl; subst hXg
  show V X (rmD 0 0 0) M 0 0 [(0, .ref ua), (1, .int x)] 0 []
  refine v_aload_n C dX8_append_0 rfl ?_
  refine v_get C kX8 hU.2.1 1 (by decide) wF_X8_23 rfl dX8_append_1 ?_
  refine v_bipush C dX8_append_4 (v := 40) rfl ?_
  refine v_icmp_lt (tgt := 12) C dX8_append_6 (by decide) (fun h6 => ?_) (fun h6 => ?_)
  · have g6 := nI_ltN (b := 40) (by have := hU.1; omega) (by decide) h6
    refine v_aload_n C dX8_append_12 rfl ?_
    refine v_get C kX8 hU.2.1 0 (by decide) wF_X8_11 rfl dX8_append_13 ?_
    refine v_aload_n C dX8_append_16 rfl ?_
    refine v_get C kX8 hU.2.1 1 (by decide) wF_X8_23 rfl dX8_append_17 ?_
    refine v_iload_n C dX8_append_20 rfl ?_
    refine v_iast C hU.2.2.1 (vp_in_nI g6 (by decide)) dX8_append_21 ?_
    show V X (rmD 0 0 0) (mset M sa (aI (xg X) 40 (upd sg (nI nS : Int32).toNatClampNeg x))) 0 0 [(0, .ref ua), (1, .int x)] 22 []
    refine v_aload_n C dX8_append_22 rfl ?_
    refine v_dup C dX8_append_23 rfl ?_
    refine v_get C kX8 ((mset_ne (cell_ne hU.2.1 hU.2.2.1 (by simp))).trans hU.2.1) 1 (by decide) wF_X8_23 rfl dX8_append_24 ?_
    refine v_iconst C dX8_append_27 (v := 1) rfl ?_
    refine v_iadd C dX8_append_28 ?_
    refine v_put C kX8 ((mset_ne (cell_ne hU.2.1 hU.2.2.1 (by simp))).trans hU.2.1) 1 (by decide) wF_X8_23 rfl rfl rfl (nle rfl) dX8_append_29 ?_
    show V X (rmD 0 0 0) (mset (mset M sa (aI (xg X) 40 (upd sg (nI nS : Int32).toNatClampNeg x))) ua (.inr (8, [.ref sa, .int ((nI nS) + 1), .ref xa, .ref na]))) 0 0 [(0, .ref ua), (1, .int x)] 32 []
    refine v_aload_n C dX8_append_32 rfl ?_
    refine v_get C kX8 (mset_same _ _ _) 1 (by decide) wF_X8_23 rfl dX8_append_33 ?_
    exact v_iret C E dX8_append_36 (nle rfl) (nle rfl) (Or.inr ⟨g6, by rw [← nI_1 nS], by rw [nI_clamp (by omega), ← nI_1 nS]⟩)
  · refine v_bipush C dX8_append_9 (v := (-4)) rfl ?_
    exact v_iret C E dX8_append_11 (nle rfl) (nle rfl) (Or.inl ⟨nI_nltN (b := 40) (by have := hU.1; omega) (by decide) h6, rfl, rfl⟩)

set_option maxHeartbeats 4000000 in
set_option maxRecDepth 100000 in
theorem c_X8_clear (l : Launch) (g : Gm) (M : Mem) (ua sa xa na : Nat) (ta : Nat → Nat) (nS : Nat) (sg : Nat → Int32) (ln : Nat → Nat) (tx : Nat → Nat → Int32) (hU : UseW g M ua sa xa na ta nS sg ln tx) : Ct l g yX8_clear cX8_clear 2 (some .int) 0 0 0 [.ref ua] M (fun v N => v = some (.int (nI nS)) ∧ N = mset M ua (.inr (8, [.ref sa, .int 0, .ref xa, .ref na]))) := by
  refine Ct.of (by decide) (Nat.le_of_ble_eq_true rfl) ?_
  intro X hXl hXg hN C E
  subst hXl; subst hXg
  show V X (rmD 0 0 0) M 0 0 [(0, .ref ua)] 0 []
  refine v_aload_n C dX8_clear_0 rfl ?_
  refine v_get C kX8 hU.2.1 1 (by decide) wF_X8_23 rfl dX8_clear_1 ?_
  refine v_istore_n (lv' := [(1, .int (nI nS)), (0, .ref ua)]) C dX8_clear_4 hN (by decide) rfl ?_
  refine v_aload_n C dX8_clear_5 rfl ?_
  refine v_iconst C dX8_clear_6 (v := 0) rfl ?_
  refine v_put C kX8 hU.2.1 1 (by decide) wF_X8_23 rfl rfl rfl (nle rfl) dX8_clear_7 ?_
  show V X (rmD 0 0 0) (mset M ua (.inr (8, [.ref sa, .int 0, .ref xa, .ref na]))) 0 0 [(1, .int (nI nS)), (0, .ref ua)] 10 []
  refine v_iload_n C dX8_clear_10 rfl ?_
  exact v_iret C E dX8_clear_11 (nle rfl) (nle rfl) ⟨rfl, rfl⟩

set_option maxHeartbeats 4000000 in
set_option maxRecDepth 100000 in
theorem c_X8_firstFault (l : Launch) (g : Gm) (M : Mem) (ua sa xa na : Nat) (ta : Nat → Nat) (nS : Nat) (sg : Nat → Int32) (ln : Nat → Nat) (tx : Nat → Nat → Int32) (hU : UseW g M ua sa xa na ta nS sg ln tx) : Ct l g yX8_firstFault cX8_firstFault 3 (some .int) 3 0 0 [.ref ua] M (fun v N => v = some (.int (oI (faultN sg nS))) ∧ N = M) := by
  refine Ct.of (by decide) (Nat.le_of_ble_eq_true rfl) ?_
  intro X hXl hXg hN C E
  subst hXl; subst hXg
  show V X (rmD 3 0 0) M 0 0 [(0, .ref ua)] 0 []
  have h40 := hU.1
  refine v_iconst C dX8_firstFault_0 (v := 0) rfl ?_
  refine v_istore_n (lv' := [(1, .int 0), (0, .ref ua)]) C dX8_firstFault_1 hN (by decide) rfl ?_
  refine v_iconst C dX8_firstFault_2 (v := 0) rfl ?_
  refine v_istore_n (lv' := [(2, .int 0), (1, .int 0), (0, .ref ua)]) C dX8_firstFault_3 hN (by decide) rfl ?_
  refine v_sub (lv' := [(0, .ref ua), (1, .int 0), (2, .int 0)]) [2, 1, 0] rfl ?_
  have lp4 : ∀ (mm : Nat) (k : Nat) (h1 : k ≤ nS) (h2 : fstB (fun i => decide (aut sg (i + 1) = 6)) k = none) (h3 : aut sg k < 6), nS - k < mm → V X (rmD 3 0 0) M 0 0 [(0, .ref ua), (1, .int (nI (aut sg k))), (2, .int (nI k))] 4 [] := by
    intro mm
    induction mm with
    | zero => intro k h1 h2 h3 hmu; exact absurd hmu (Nat.not_lt_zero _)
    | succ mm ih4 =>
      intro k h1 h2 h3 hmu
      refine v_iload_n C dX8_firstFault_4 rfl ?_
      refine v_aload_n C dX8_firstFault_5 rfl ?_
      refine v_get C kX8 hU.2.1 1 (by decide) wF_X8_23 rfl dX8_firstFault_6 ?_
      refine v_icmp_ge (tgt := 43) C dX8_firstFault_9 (by decide) (fun h9 => ?_) (fun h9 => ?_)
      · have g9 : k = nS := Nat.le_antisymm h1 (nI_leN (by omega) (by omega) h9)
        refine v_iload_n C dX8_firstFault_43 rfl ?_
        refine v_iconst C dX8_firstFault_44 (v := 4) rfl ?_
        refine v_icmp_eq (tgt := 53) C dX8_firstFault_45 (by decide) (fun h45 => ?_) (fun h45 => ?_)
        · refine v_bipush C dX8_firstFault_53 (v := (-6)) rfl ?_
          refine v_goto (tgt := 62) C dX8_firstFault_55 (by decide) ?_
          exact v_iret C E dX8_firstFault_62 (nle rfl) (nle rfl) ⟨by rw [faultN, ← g9, h2]; first | (rw [if_pos (Or.inl (nI_eqN (b := 4) (by omega) (by decide) h45))]; rfl) | (rw [if_pos (Or.inr (nI_eqN (b := 5) (by omega) (by decide) h50))]; rfl), rfl⟩
        · refine v_iload_n C dX8_firstFault_48 rfl ?_
          refine v_iconst C dX8_firstFault_49 (v := 5) rfl ?_
          refine v_icmp_ne (tgt := 58) C dX8_firstFault_50 (by decide) (fun h50 => ?_) (fun h50 => ?_)
          · refine v_aload_n C dX8_firstFault_58 rfl ?_
            refine v_get C kX8 hU.2.1 1 (by decide) wF_X8_23 rfl dX8_firstFault_59 ?_
            exact v_iret C E dX8_firstFault_62 (nle rfl) (nle rfl) ⟨by rw [faultN, ← g9, h2]; simp only [nI_neN (b := 4) (by omega) (by decide) h45, nI_neN (b := 5) (by omega) (by decide) h50, or_self, if_false]; rfl, rfl⟩
          · refine v_bipush C dX8_firstFault_53 (v := (-6)) rfl ?_
            refine v_goto (tgt := 62) C dX8_firstFault_55 (by decide) ?_
            exact v_iret C E dX8_firstFault_62 (nle rfl) (nle rfl) ⟨by rw [faultN, ← g9, h2]; first | (rw [if_pos (Or.inl (nI_eqN (b := 4) (by omega) (by decide) h45))]; rfl) | (rw [if_pos (Or.inr (nI_eqN (b := 5) (by omega) (by decide) h50))]; rfl), rfl⟩
      · have g9 := nI_nleN (by omega) (by omega) h9
        refine v_iload_n C dX8_firstFault_12 rfl ?_
        refine v_bipush C dX8_firstFault_13 (v := 40) rfl ?_
        refine v_icmp_ge (tgt := 43) C dX8_firstFault_15 (by decide) (fun hbad => absurd hbad (nI_ge (b := 40) (by omega) (by decide))) (fun h15 => ?_)
        refine v_iload_n C dX8_firstFault_18 rfl ?_
        refine v_aload_n C dX8_firstFault_19 rfl ?_
        refine v_get C kX8 hU.2.1 0 (by decide) wF_X8_11 rfl dX8_firstFault_20 ?_
        refine v_iload_n C dX8_firstFault_23 rfl ?_
        refine v_iald C hU.2.2.1 (vp_in_nI (by omega) (by decide)) dX8_firstFault_24 ?_
        rw [nI_clamp (by omega)]
        show V X (rmD 3 0 0) M 0 0 [(0, .ref ua), (1, .int (nI (aut sg k))), (2, .int (nI k))] 25 [.int (sg k), .int (nI (aut sg k))]
        refine v_callS (As := [.int (nI (aut sg k)), .int (sg k)]) (rest := []) C (c_X8_behind (xl X) (xg X) (aut sg k) h3 (sg k) M) pm_X8_behind wT_X8_behind wM_X8_27 ⟨by decide, by decide⟩ ⟨by decide, by decide⟩ (nle rfl) dX8_firstFault_25 rfl (dt1 ?_)
        show V X (rmD 3 0 0) M 0 0 [(0, .ref ua), (1, .int (nI (aut sg k))), (2, .int (nI k))] 28 [.int (nI (aut sg (k + 1)))]
        refine v_istore_n (lv' := [(1, .int (nI (aut sg (k + 1)))), (0, .ref ua), (2, .int (nI k))]) C dX8_firstFault_28 hN (by decide) rfl ?_
        refine v_iload_n C dX8_firstFault_29 rfl ?_
        refine v_bipush C dX8_firstFault_30 (v := 6) rfl ?_
        refine v_icmp_ne (tgt := 37) C dX8_firstFault_32 (by decide) (fun h32 => ?_) (fun h32 => ?_)
        · have g32 : ¬ aut sg (k + 1) = 6 := nI_neN (b := 6) (by have := aut_le sg (k + 1); omega) (by decide) h32
          refine v_iinc (lv' := [(2, .int (nI (k + 1))), (1, .int (nI (aut sg (k + 1)))), (0, .ref ua)]) C dX8_firstFault_37 2 rfl (nI_1 _) hN (by decide) rfl ?_
          refine v_goto (tgt := 4) C dX8_firstFault_40 (by decide) ?_
          refine v_sub (lv' := [(0, .ref ua), (1, .int (nI (aut sg (k + 1)))), (2, .int (nI (k + 1)))]) [2, 1, 0] rfl ?_
          exact ih4 (k + 1) (by omega) (fstB_step h2 (decide_eq_false g32)) (by have := aut_le sg (k + 1); omega) (by omega)
        · have g32 : aut sg (k + 1) = 6 := nI_eqN (b := 6) (by have := aut_le sg (k + 1); omega) (by decide) h32
          refine v_iload_n C dX8_firstFault_35 rfl ?_
          exact v_iret C E dX8_firstFault_36 (nle rfl) (nle rfl) ⟨by rw [faultN, fstB_hit h2 (decide_eq_true g32) g9]; rfl, rfl⟩
  exact lp4 (_ + 1) 0 (Nat.zero_le _) rfl (Nat.succ_pos 5) (Nat.lt_succ_self _)


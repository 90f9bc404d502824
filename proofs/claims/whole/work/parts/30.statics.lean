/-! The class's small static methods. -/
def qin (a b c : Int32) : Bool := decide (b ≤ a) && decide (a ≤ c)
theorem i32_nle {a b : Int32} (h : ¬ a ≤ b) : b < a := Int32.not_le.mp h
theorem i32_nlt {a b : Int32} (h : ¬ a < b) : b ≤ a := Int32.not_lt.mp h
theorem i32_lt_nle {a b : Int32} (h : a < b) : ¬ b ≤ a := Int32.not_le.mpr h
theorem i32_le95 (a : Int32) : a ≤ 95 ↔ a < 96 := by
  rw [Int32.le_iff_toInt_le, Int32.lt_iff_toInt_lt, show (95 : Int32).toInt = 95 from rfl, show (96 : Int32).toInt = 96 from rfl]
  omega
/-- the end of a counted loop -/
theorem lp_lt {i N : Nat} {c : Int32} (hc : c = nI N) (hN : N < 2 ^ 31) (hi : i ≤ N) (h : ¬ c ≤ nI i) : i < N := by
  subst hc
  rcases Nat.lt_or_ge i N with q | q
  · exact q
  · exact absurd (nI_le q (by omega)) h
theorem lp_eq {i N : Nat} {c : Int32} (hc : c = nI N) (hN : N < 2 ^ 31) (hi : i ≤ N) (h : c ≤ nI i) : i = N := by
  subst hc
  rcases Nat.lt_or_ge i N with q | q
  · exact absurd h (nI_ge q (by omega))
  · omega
set_option maxHeartbeats 4000000 in
set_option maxRecDepth 100000 in
theorem c_X9_isWithin (l : Launch) (g : Gm) (a b c : Int32) (M : Mem) : Ct l g yX9_isWithin cX9_isWithin 3 (some .boolean) 0 0 0 [.int a, .int b, .int c] M (fun w N => w = some (.int (bI (qin a b c))) ∧ N = M) := by
  refine Ct.of (by decide) (Nat.le_of_ble_eq_true rfl) ?_
  intro X hXl hXg hN C E
  subst hXl; subst hXg
  show V X (rmD 0 0 0) M 0 0 [(0, .int a), (1, .int b), (2, .int c)] 0 []
  refine v_iload_n C dX9_isWithin_0 rfl ?_
  refine v_iload_n C dX9_isWithin_1 rfl ?_
  refine v_icmp_lt (tgt := 14) C dX9_isWithin_2 (by decide) (fun h2 => ?_) (fun h2 => ?_)
  · refine v_iconst C dX9_isWithin_14 (v := 0) rfl ?_
    exact v_zret C E dX9_isWithin_15 (nle rfl) (nle rfl) (by decide) ⟨by simp_all [qin, bI, i32_nle, i32_nlt, i32_lt_nle], rfl⟩
  · refine v_iload_n C dX9_isWithin_5 rfl ?_
    refine v_iload_n C dX9_isWithin_6 rfl ?_
    refine v_icmp_gt (tgt := 14) C dX9_isWithin_7 (by decide) (fun h7 => ?_) (fun h7 => ?_)
    · refine v_iconst C dX9_isWithin_14 (v := 0) rfl ?_
      exact v_zret C E dX9_isWithin_15 (nle rfl) (nle rfl) (by decide) ⟨by simp_all [qin, bI, i32_nle, i32_nlt, i32_lt_nle], rfl⟩
    · refine v_iconst C dX9_isWithin_10 (v := 1) rfl ?_
      refine v_goto (tgt := 15) C dX9_isWithin_11 (by decide) ?_
      exact v_zret C E dX9_isWithin_15 (nle rfl) (nle rfl) (by decide) ⟨by simp_all [qin, bI, i32_nle, i32_nlt, i32_lt_nle], rfl⟩

set_option maxHeartbeats 4000000 in
set_option maxRecDepth 100000 in
theorem c_X9_isOnLand (l : Launch) (g : Gm) (a b : Int32) (M : Mem) : Ct l g yX9_isOnLand cX9_isOnLand 2 (some .boolean) 1 0 0 [.int a, .int b] M (fun w N => w = some (.int (bI (qin a 0 11 && qin b 0 7))) ∧ N = M) := by
  refine Ct.of (by decide) (Nat.le_of_ble_eq_true rfl) ?_
  intro X hXl hXg hN C E
  subst hXl; subst hXg
  show V X (rmD 1 0 0) M 0 0 [(0, .int a), (1, .int b)] 0 []
  refine v_iload_n C dX9_isOnLand_0 rfl ?_
  refine v_iconst C dX9_isOnLand_1 (v := 0) rfl ?_
  refine v_bipush C dX9_isOnLand_2 (v := 11) rfl ?_
  refine v_callS (As := [.int a, .int 0, .int 11]) (rest := []) C (c_X9_isWithin (xl X) (xg X) a 0 11 M) pm_X9_isWithin wT_X9_isWithin wM_X9_55 ⟨by decide, by decide⟩ ⟨by decide, by decide⟩ (nle rfl) dX9_isOnLand_4 rfl (dt1 ?_)
  show V X (rmD 1 0 0) M 0 0 [(0, .int a), (1, .int b)] 7 [.int (bI (qin a 0 11))]
  refine v_ifb_eq (tgt := 24) C dX9_isOnLand_7 (by decide) (fun h7 => ?_) (fun h7 => ?_)
  · refine v_iconst C dX9_isOnLand_24 (v := 0) rfl ?_
    exact v_zret C E dX9_isOnLand_25 (nle rfl) (nle rfl) (by decide) ⟨by simp_all [bI], rfl⟩
  · refine v_iload_n C dX9_isOnLand_10 rfl ?_
    refine v_iconst C dX9_isOnLand_11 (v := 0) rfl ?_
    refine v_bipush C dX9_isOnLand_12 (v := 7) rfl ?_
    refine v_callS (As := [.int b, .int 0, .int 7]) (rest := []) C (c_X9_isWithin (xl X) (xg X) b 0 7 M) pm_X9_isWithin wT_X9_isWithin wM_X9_55 ⟨by decide, by decide⟩ ⟨by decide, by decide⟩ (nle rfl) dX9_isOnLand_14 rfl (dt1 ?_)
    show V X (rmD 1 0 0) M 0 0 [(0, .int a), (1, .int b)] 17 [.int (bI (qin b 0 7))]
    refine v_ifb_eq (tgt := 24) C dX9_isOnLand_17 (by decide) (fun h17 => ?_) (fun h17 => ?_)
    · refine v_iconst C dX9_isOnLand_24 (v := 0) rfl ?_
      exact v_zret C E dX9_isOnLand_25 (nle rfl) (nle rfl) (by decide) ⟨by simp_all [bI], rfl⟩
    · refine v_iconst C dX9_isOnLand_20 (v := 1) rfl ?_
      refine v_goto (tgt := 25) C dX9_isOnLand_21 (by decide) ?_
      exact v_zret C E dX9_isOnLand_25 (nle rfl) (nle rfl) (by decide) ⟨by simp_all [bI], rfl⟩

set_option maxHeartbeats 4000000 in
set_option maxRecDepth 100000 in
theorem c_X9_isCell (l : Launch) (g : Gm) (a : Int32) (M : Mem) : Ct l g yX9_isCell cX9_isCell 1 (some .boolean) 0 0 0 [.int a] M (fun w N => w = some (.int (bI (qin a 0 95))) ∧ N = M) := by
  refine Ct.of (by decide) (Nat.le_of_ble_eq_true rfl) ?_
  intro X hXl hXg hN C E
  subst hXl; subst hXg
  show V X (rmD 0 0 0) M 0 0 [(0, .int a)] 0 []
  refine v_iload_n C dX9_isCell_0 rfl ?_
  refine v_if_lt (tgt := 14) C dX9_isCell_1 (by decide) (fun h1 => ?_) (fun h1 => ?_)
  · refine v_iconst C dX9_isCell_14 (v := 0) rfl ?_
    exact v_zret C E dX9_isCell_15 (nle rfl) (nle rfl) (by decide) ⟨by simp_all [qin, bI, i32_le95, i32_nle, i32_nlt, i32_lt_nle], rfl⟩
  · refine v_iload_n C dX9_isCell_4 rfl ?_
    refine v_bipush C dX9_isCell_5 (v := 96) rfl ?_
    refine v_icmp_ge (tgt := 14) C dX9_isCell_7 (by decide) (fun h7 => ?_) (fun h7 => ?_)
    · refine v_iconst C dX9_isCell_14 (v := 0) rfl ?_
      exact v_zret C E dX9_isCell_15 (nle rfl) (nle rfl) (by decide) ⟨by simp_all [qin, bI, i32_le95, i32_nle, i32_nlt, i32_lt_nle], rfl⟩
    · refine v_iconst C dX9_isCell_10 (v := 1) rfl ?_
      refine v_goto (tgt := 15) C dX9_isCell_11 (by decide) ?_
      exact v_zret C E dX9_isCell_15 (nle rfl) (nle rfl) (by decide) ⟨by simp_all [qin, bI, i32_le95, i32_nle, i32_nlt, i32_lt_nle], rfl⟩

set_option maxHeartbeats 4000000 in
set_option maxRecDepth 100000 in
theorem c_X9_isDay (l : Launch) (g : Gm) (a : Int32) (M : Mem) : Ct l g yX9_isDay cX9_isDay 1 (some .boolean) 1 0 0 [.int a] M (fun w N => w = some (.int (bI (qin a 0 99))) ∧ N = M) := by
  refine Ct.of (by decide) (Nat.le_of_ble_eq_true rfl) ?_
  intro X hXl hXg hN C E
  subst hXl; subst hXg
  show V X (rmD 1 0 0) M 0 0 [(0, .int a)] 0 []
  refine v_iload_n C dX9_isDay_0 rfl ?_
  refine v_iconst C dX9_isDay_1 (v := 0) rfl ?_
  refine v_bipush C dX9_isDay_2 (v := 99) rfl ?_
  refine v_callS (As := [.int a, .int 0, .int 99]) (rest := []) C (c_X9_isWithin (xl X) (xg X) a 0 99 M) pm_X9_isWithin wT_X9_isWithin wM_X9_55 ⟨by decide, by decide⟩ ⟨by decide, by decide⟩ (nle rfl) dX9_isDay_4 rfl (dt1 ?_)
  show V X (rmD 1 0 0) M 0 0 [(0, .int a)] 7 [.int (bI (qin a 0 99))]
  exact v_zret C E dX9_isDay_7 (nle rfl) (nle rfl) (bI_01 _) ⟨rfl, rfl⟩

set_option maxHeartbeats 4000000 in
set_option maxRecDepth 100000 in
theorem c_X9_isPart (l : Launch) (g : Gm) (a : Int32) (M : Mem) : Ct l g yX9_isPart cX9_isPart 1 (some .boolean) 1 0 0 [.int a] M (fun w N => w = some (.int (bI (qin a 0 1))) ∧ N = M) := by
  refine Ct.of (by decide) (Nat.le_of_ble_eq_true rfl) ?_
  intro X hXl hXg hN C E
  subst hXl; subst hXg
  show V X (rmD 1 0 0) M 0 0 [(0, .int a)] 0 []
  refine v_iload_n C dX9_isPart_0 rfl ?_
  refine v_iconst C dX9_isPart_1 (v := 0) rfl ?_
  refine v_iconst C dX9_isPart_2 (v := 1) rfl ?_
  refine v_callS (As := [.int a, .int 0, .int 1]) (rest := []) C (c_X9_isWithin (xl X) (xg X) a 0 1 M) pm_X9_isWithin wT_X9_isWithin wM_X9_55 ⟨by decide, by decide⟩ ⟨by decide, by decide⟩ (nle rfl) dX9_isPart_3 rfl (dt1 ?_)
  show V X (rmD 1 0 0) M 0 0 [(0, .int a)] 6 [.int (bI (qin a 0 1))]
  exact v_zret C E dX9_isPart_6 (nle rfl) (nle rfl) (bI_01 _) ⟨rfl, rfl⟩

set_option maxHeartbeats 4000000 in
set_option maxRecDepth 100000 in
theorem c_X9_isStrip (l : Launch) (g : Gm) (a b : Int32) (M : Mem) : Ct l g yX9_isStrip cX9_isStrip 2 (some .boolean) 1 0 0 [.int a, .int b] M (fun w N => w = some (.int (bI (qin a 0 11 && qin b a 11))) ∧ N = M) := by
  refine Ct.of (by decide) (Nat.le_of_ble_eq_true rfl) ?_
  intro X hXl hXg hN C E
  subst hXl; subst hXg
  show V X (rmD 1 0 0) M 0 0 [(0, .int a), (1, .int b)] 0 []
  refine v_iload_n C dX9_isStrip_0 rfl ?_
  refine v_iconst C dX9_isStrip_1 (v := 0) rfl ?_
  refine v_bipush C dX9_isStrip_2 (v := 11) rfl ?_
  refine v_callS (As := [.int a, .int 0, .int 11]) (rest := []) C (c_X9_isWithin (xl X) (xg X) a 0 11 M) pm_X9_isWithin wT_X9_isWithin wM_X9_55 ⟨by decide, by decide⟩ ⟨by decide, by decide⟩ (nle rfl) dX9_isStrip_4 rfl (dt1 ?_)
  show V X (rmD 1 0 0) M 0 0 [(0, .int a), (1, .int b)] 7 [.int (bI (qin a 0 11))]
  refine v_ifb_eq (tgt := 24) C dX9_isStrip_7 (by decide) (fun h7 => ?_) (fun h7 => ?_)
  · refine v_iconst C dX9_isStrip_24 (v := 0) rfl ?_
    exact v_zret C E dX9_isStrip_25 (nle rfl) (nle rfl) (by decide) ⟨by simp_all [bI], rfl⟩
  · refine v_iload_n C dX9_isStrip_10 rfl ?_
    refine v_iload_n C dX9_isStrip_11 rfl ?_
    refine v_bipush C dX9_isStrip_12 (v := 11) rfl ?_
    refine v_callS (As := [.int b, .int a, .int 11]) (rest := []) C (c_X9_isWithin (xl X) (xg X) b a 11 M) pm_X9_isWithin wT_X9_isWithin wM_X9_55 ⟨by decide, by decide⟩ ⟨by decide, by decide⟩ (nle rfl) dX9_isStrip_14 rfl (dt1 ?_)
    show V X (rmD 1 0 0) M 0 0 [(0, .int a), (1, .int b)] 17 [.int (bI (qin b a 11))]
    refine v_ifb_eq (tgt := 24) C dX9_isStrip_17 (by decide) (fun h17 => ?_) (fun h17 => ?_)
    · refine v_iconst C dX9_isStrip_24 (v := 0) rfl ?_
      exact v_zret C E dX9_isStrip_25 (nle rfl) (nle rfl) (by decide) ⟨by simp_all [bI], rfl⟩
    · refine v_iconst C dX9_isStrip_20 (v := 1) rfl ?_
      refine v_goto (tgt := 25) C dX9_isStrip_21 (by decide) ?_
      exact v_zret C E dX9_isStrip_25 (nle rfl) (nle rfl) (by decide) ⟨by simp_all [bI], rfl⟩

set_option maxHeartbeats 4000000 in
set_option maxRecDepth 100000 in
theorem c_X9_cellOf (l : Launch) (g : Gm) (a b : Int32) (M : Mem) : Ct l g yX9_cellOf cX9_cellOf 2 (some .int) 0 0 0 [.int a, .int b] M (fun w N => w = some (.int (12 * b + a)) ∧ N = M) := by
  refine Ct.of (by decide) (Nat.le_of_ble_eq_true rfl) ?_
  intro X hXl hXg hN C E
  subst hXl; subst hXg
  show V X (rmD 0 0 0) M 0 0 [(0, .int a), (1, .int b)] 0 []
  refine v_bipush C dX9_cellOf_0 (v := 12) rfl ?_
  refine v_iload_n C dX9_cellOf_2 rfl ?_
  refine v_imul C dX9_cellOf_3 ?_
  refine v_iload_n C dX9_cellOf_4 rfl ?_
  refine v_iadd C dX9_cellOf_5 ?_
  exact v_iret C E dX9_cellOf_6 (nle rfl) (nle rfl) ⟨rfl, rfl⟩

set_option maxHeartbeats 4000000 in
set_option maxRecDepth 100000 in
theorem c_X10_in (l : Launch) (g : Gm) (a b c : Int32) (M : Mem) : Ct l g yX10_in cX10_in 3 (some .boolean) 0 0 0 [.int a, .int b, .int c] M (fun w N => w = some (.int (bI (qin a b c))) ∧ N = M) := by
  refine Ct.of (by decide) (Nat.le_of_ble_eq_true rfl) ?_
  intro X hXl hXg hN C E
  subst hXl; subst hXg
  show V X (rmD 0 0 0) M 0 0 [(0, .int a), (1, .int b), (2, .int c)] 0 []
  refine v_iload_n C dX10_in_0 rfl ?_
  refine v_iload_n C dX10_in_1 rfl ?_
  refine v_icmp_lt (tgt := 14) C dX10_in_2 (by decide) (fun h2 => ?_) (fun h2 => ?_)
  · refine v_iconst C dX10_in_14 (v := 0) rfl ?_
    exact v_zret C E dX10_in_15 (nle rfl) (nle rfl) (by decide) ⟨by simp_all [qin, bI, i32_nle, i32_nlt, i32_lt_nle], rfl⟩
  · refine v_iload_n C dX10_in_5 rfl ?_
    refine v_iload_n C dX10_in_6 rfl ?_
    refine v_icmp_gt (tgt := 14) C dX10_in_7 (by decide) (fun h7 => ?_) (fun h7 => ?_)
    · refine v_iconst C dX10_in_14 (v := 0) rfl ?_
      exact v_zret C E dX10_in_15 (nle rfl) (nle rfl) (by decide) ⟨by simp_all [qin, bI, i32_nle, i32_nlt, i32_lt_nle], rfl⟩
    · refine v_iconst C dX10_in_10 (v := 1) rfl ?_
      refine v_goto (tgt := 15) C dX10_in_11 (by decide) ?_
      exact v_zret C E dX10_in_15 (nle rfl) (nle rfl) (by decide) ⟨by simp_all [qin, bI, i32_nle, i32_nlt, i32_lt_nle], rfl⟩

set_option maxHeartbeats 4000000 in
set_option maxRecDepth 100000 in
theorem c_X10_isDay (l : Launch) (g : Gm) (a : Int32) (M : Mem) : Ct l g yX10_isDay cX10_isDay 1 (some .boolean) 1 0 0 [.int a] M (fun w N => w = some (.int (bI (qin a 0 99))) ∧ N = M) := by
  refine Ct.of (by decide) (Nat.le_of_ble_eq_true rfl) ?_
  intro X hXl hXg hN C E
  subst hXl; subst hXg
  show V X (rmD 1 0 0) M 0 0 [(0, .int a)] 0 []
  refine v_iload_n C dX10_isDay_0 rfl ?_
  refine v_iconst C dX10_isDay_1 (v := 0) rfl ?_
  refine v_bipush C dX10_isDay_2 (v := 99) rfl ?_
  refine v_callS (As := [.int a, .int 0, .int 99]) (rest := []) C (c_X10_in (xl X) (xg X) a 0 99 M) pm_X10_in wT_X10_in wM_X10_35 ⟨by decide, by decide⟩ ⟨by decide, by decide⟩ (nle rfl) dX10_isDay_4 rfl (dt1 ?_)
  show V X (rmD 1 0 0) M 0 0 [(0, .int a)] 7 [.int (bI (qin a 0 99))]
  exact v_zret C E dX10_isDay_7 (nle rfl) (nle rfl) (bI_01 _) ⟨rfl, rfl⟩

set_option maxHeartbeats 4000000 in
set_option maxRecDepth 100000 in
theorem c_X10_isCell (l : Launch) (g : Gm) (a : Int32) (M : Mem) : Ct l g yX10_isCell cX10_isCell 1 (some .boolean) 1 0 0 [.int a] M (fun w N => w = some (.int (bI (qin a 0 95))) ∧ N = M) := by
  refine Ct.of (by decide) (Nat.le_of_ble_eq_true rfl) ?_
  intro X hXl hXg hN C E
  subst hXl; subst hXg
  show V X (rmD 1 0 0) M 0 0 [(0, .int a)] 0 []
  refine v_iload_n C dX10_isCell_0 rfl ?_
  refine v_iconst C dX10_isCell_1 (v := 0) rfl ?_
  refine v_bipush C dX10_isCell_2 (v := 95) rfl ?_
  refine v_callS (As := [.int a, .int 0, .int 95]) (rest := []) C (c_X10_in (xl X) (xg X) a 0 95 M) pm_X10_in wT_X10_in wM_X10_35 ⟨by decide, by decide⟩ ⟨by decide, by decide⟩ (nle rfl) dX10_isCell_4 rfl (dt1 ?_)
  show V X (rmD 1 0 0) M 0 0 [(0, .int a)] 7 [.int (bI (qin a 0 95))]
  exact v_zret C E dX10_isCell_7 (nle rfl) (nle rfl) (bI_01 _) ⟨rfl, rfl⟩

set_option maxHeartbeats 4000000 in
set_option maxRecDepth 100000 in
theorem c_X10_isPart (l : Launch) (g : Gm) (a : Int32) (M : Mem) : Ct l g yX10_isPart cX10_isPart 1 (some .boolean) 1 0 0 [.int a] M (fun w N => w = some (.int (bI (qin a 0 1))) ∧ N = M) := by
  refine Ct.of (by decide) (Nat.le_of_ble_eq_true rfl) ?_
  intro X hXl hXg hN C E
  subst hXl; subst hXg
  show V X (rmD 1 0 0) M 0 0 [(0, .int a)] 0 []
  refine v_iload_n C dX10_isPart_0 rfl ?_
  refine v_iconst C dX10_isPart_1 (v := 0) rfl ?_
  refine v_iconst C dX10_isPart_2 (v := 1) rfl ?_
  refine v_callS (As := [.int a, .int 0, .int 1]) (rest := []) C (c_X10_in (xl X) (xg X) a 0 1 M) pm_X10_in wT_X10_in wM_X10_35 ⟨by decide, by decide⟩ ⟨by decide, by decide⟩ (nle rfl) dX10_isPart_3 rfl (dt1 ?_)
  show V X (rmD 1 0 0) M 0 0 [(0, .int a)] 6 [.int (bI (qin a 0 1))]
  exact v_zret C E dX10_isPart_6 (nle rfl) (nle rfl) (bI_01 _) ⟨rfl, rfl⟩


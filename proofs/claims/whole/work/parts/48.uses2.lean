/-! Uses: places, texts kept, judged. -/
set_option maxHeartbeats 4000000 in
set_option maxRecDepth 100000 in
theorem c_X8_isPlace (l : Launch) (g : Gm) (ua : Nat) (a : Int32) (M : Mem) : Ct l g yX8_isPlace cX8_isPlace 2 (some .boolean) 1 0 0 [.ref ua, .int a] M (fun w N => w = some (.int (bI (qin a 0 4))) ∧ N = M) := by
  refine Ct.of (by decide) (Nat.le_of_ble_eq_true rfl) ?_
  intro X hXl hXg hN C E
  subst hXl; subst hXg
  show V X (rmD 1 0 0) M 0 0 [(0, .ref ua), (1, .int a)] 0 []
  refine v_iload_n C dX8_isPlace_0 rfl ?_
  refine v_iconst C dX8_isPlace_1 (v := 0) rfl ?_
  refine v_iconst C dX8_isPlace_2 (v := 4) rfl ?_
  refine v_callSN (As := [.int a, .int 0, .int 4]) (rest := []) C (c_X9_isWithin (xl X) (xg X) a 0 4 M) pm_X9_isWithin wT_X9_isWithin wMN_X8_35 ⟨by decide, by decide⟩ ⟨by decide, by decide⟩ (nle rfl) dX8_isPlace_3 rfl (dt1 ?_)
  show V X (rmD 1 0 0) M 0 0 [(0, .ref ua), (1, .int a)] 6 [.int (bI (qin a 0 4))]
  exact v_zret C E dX8_isPlace_6 (nle rfl) (nle rfl) (bI_01 _) ⟨rfl, rfl⟩

theorem orB_t {p : Nat → Bool} {n : Nat} (h : p n = true) : orB p (n + 1) = orB p n ||| ((1 : Int32) <<< (nI n &&& 31)) := by simp [orB, h]
theorem orB_f {p : Nat → Bool} {n : Nat} (h : p n = false) : orB p (n + 1) = orB p n := by simp [orB, h]
theorem qin_u {u : Nat} (hu : u < 5) : qin (nI u) 0 4 = true := by
  rw [show qin (nI u) 0 4 = qin (nI u) (nI 0) (nI 4) from rfl, qin_N (by omega) (by decide) (by decide)]
  simp
  omega
set_option maxHeartbeats 4000000 in
set_option maxRecDepth 100000 in
theorem c_X8_has (l : Launch) (g : Gm) (M : Mem) (ua sa xa na : Nat) (ta : Nat → Nat) (nS : Nat) (sg : Nat → Int32) (ln : Nat → Nat) (tx : Nat → Nat → Int32) (u : Nat) (hu : u < 5) (hU : UseW g M ua sa xa na ta nS sg ln tx) : Ct l g yX8_has cX8_has 2 (some .boolean) 2 0 0 [.ref ua, .int (nI u)] M (fun v N => v = some (.int (bI (decide (0 < ln u)))) ∧ N = M) := by
  refine Ct.of (by decide) (Nat.le_of_ble_eq_true rfl) ?_
  intro X hXl hXg hN C E
  subst hXl; subst hXg
  show V X (rmD 2 0 0) M 0 0 [(0, .ref ua), (1, .int (nI u))] 0 []
  refine v_aload_n C dX8_has_0 rfl ?_
  refine v_iload_n C dX8_has_1 rfl ?_
  refine v_callV (As := [.int (nI u)]) (rest := []) (b := ua) C (c_X8_isPlace (xl X) (xg X) ua (nI u) M) pm_X8_isPlace wI_X8_isPlace wS_X8_isPlace wM_X8_46 kX8 hU.2.1 ⟨by decide, by decide⟩ ⟨by decide, by decide⟩ (nle rfl) dX8_has_2 rfl (dt1 ?_)
  show V X (rmD 2 0 0) M 0 0 [(0, .ref ua), (1, .int (nI u))] 5 [.int (bI (qin (nI u) 0 4))]
  refine v_ifb_eq (tgt := 21) C dX8_has_5 (by decide) (fun hbad => absurd hbad (by rw [qin_u hu]; decide)) (fun h5 => ?_)
  refine v_aload_n C dX8_has_8 rfl ?_
  refine v_get C kX8 hU.2.1 3 (by decide) wF_X8_20 rfl dX8_has_9 ?_
  refine v_iload_n C dX8_has_12 rfl ?_
  refine v_iald C hU.2.2.2.2.1 (vp_in_nI hu (by decide)) dX8_has_13 ?_
  rw [nI_clamp (by omega)]
  show V X (rmD 2 0 0) M 0 0 [(0, .ref ua), (1, .int (nI u))] 14 [.int (nI (ln u))]
  refine v_if_le (tgt := 21) C dX8_has_14 (by decide) (fun h14 => ?_) (fun h14 => ?_)
  · have g14 : ¬ 0 < ln u := Nat.not_lt.mpr (nI_leN (b := 0) (by have := (hU.2.2.2.2.2 u hu).2.1; omega) (by decide) h14)
    refine v_iconst C dX8_has_21 (v := 0) rfl ?_
    exact v_zret C E dX8_has_22 (nle rfl) (nle rfl) (by decide) ⟨by rw [decide_eq_false g14]; rfl, rfl⟩
  · have g14 : 0 < ln u := nI_nleN (b := 0) (by have := (hU.2.2.2.2.2 u hu).2.1; omega) (by decide) h14
    refine v_iconst C dX8_has_17 (v := 1) rfl ?_
    refine v_goto (tgt := 22) C dX8_has_18 (by decide) ?_
    exact v_zret C E dX8_has_22 (nle rfl) (nle rfl) (by decide) ⟨by rw [decide_eq_true g14]; rfl, rfl⟩


set_option maxHeartbeats 4000000 in
set_option maxRecDepth 100000 in
theorem c_X8_signOf (l : Launch) (g : Gm) (M : Mem) (ua sa xa na : Nat) (ta : Nat → Nat) (nS : Nat) (sg : Nat → Int32) (ln : Nat → Nat) (tx : Nat → Nat → Int32) (u i : Nat) (hu : u < 5) (hi : i ≤ 40) (hU : UseW g M ua sa xa na ta nS sg ln tx) : Ct l g yX8_signOf cX8_signOf 3 (some .int) 2 0 0 [.ref ua, .int (nI u), .int (nI i)] M (fun v N => v = some (.int (txE (tx u) (ln u) i)) ∧ N = M) := by
  refine Ct.of (by decide) (Nat.le_of_ble_eq_true rfl) ?_
  intro X hXl hXg hN C E
  subst hXl; subst hXg
  show V X (rmD 2 0 0) M 0 0 [(0, .ref ua), (1, .int (nI u)), (2, .int (nI i))] 0 []
  have hl40 := (hU.2.2.2.2.2 u hu).2.1
  refine v_aload_n C dX8_signOf_0 rfl ?_
  refine v_iload_n C dX8_signOf_1 rfl ?_
  refine v_callV (As := [.int (nI u)]) (rest := []) (b := ua) C (c_X8_isPlace (xl X) (xg X) ua (nI u) M) pm_X8_isPlace wI_X8_isPlace wS_X8_isPlace wM_X8_46 kX8 hU.2.1 ⟨by decide, by decide⟩ ⟨by decide, by decide⟩ (nle rfl) dX8_signOf_2 rfl (dt1 ?_)
  show V X (rmD 2 0 0) M 0 0 [(0, .ref ua), (1, .int (nI u)), (2, .int (nI i))] 5 [.int (bI (qin (nI u) 0 4))]
  refine v_ifb_eq (tgt := 28) C dX8_signOf_5 (by decide) (fun hbad => absurd hbad (by rw [qin_u hu]; decide)) (fun h5 => ?_)
  refine v_iload_n C dX8_signOf_8 rfl ?_
  refine v_if_lt (tgt := 28) C dX8_signOf_9 (by decide) (fun hbad => absurd hbad (nI_pos (by omega))) (fun h9 => ?_)
  refine v_iload_n C dX8_signOf_12 rfl ?_
  refine v_aload_n C dX8_signOf_13 rfl ?_
  refine v_get C kX8 hU.2.1 3 (by decide) wF_X8_20 rfl dX8_signOf_14 ?_
  refine v_iload_n C dX8_signOf_17 rfl ?_
  refine v_iald C hU.2.2.2.2.1 (vp_in_nI hu (by decide)) dX8_signOf_18 ?_
  rw [nI_clamp (by omega)]
  show V X (rmD 2 0 0) M 0 0 [(0, .ref ua), (1, .int (nI u)), (2, .int (nI i))] 19 [.int (nI (ln u)), .int (nI i)]
  refine v_icmp_ge (tgt := 28) C dX8_signOf_19 (by decide) (fun h19 => ?_) (fun h19 => ?_)
  · refine v_bipush C dX8_signOf_28 (v := 124) rfl ?_
    exact v_iret C E dX8_signOf_30 (nle rfl) (nle rfl) ⟨by rw [txE]; first | rw [if_neg (Nat.not_lt.mpr (nI_leN (by omega) (by omega) h19))] | rw [if_neg (by have := nI_nltN (b := 40) (by omega) (by decide) h25; omega)], rfl⟩
  · refine v_iload_n C dX8_signOf_22 rfl ?_
    refine v_bipush C dX8_signOf_23 (v := 40) rfl ?_
    refine v_icmp_lt (tgt := 31) C dX8_signOf_25 (by decide) (fun h25 => ?_) (fun h25 => ?_)
    · refine v_aload_n C dX8_signOf_31 rfl ?_
      refine v_get C kX8 hU.2.1 2 (by decide) wF_X8_17 rfl dX8_signOf_32 ?_
      refine v_iload_n C dX8_signOf_35 rfl ?_
      refine v_aald C (by decide) hU.2.2.2.1 (vp_in_nI hu (by decide)) dX8_signOf_36 ?_
      rw [nI_clamp (n := u) (by omega), if_pos hu]
      show V X (rmD 2 0 0) M 0 0 [(0, .ref ua), (1, .int (nI u)), (2, .int (nI i))] 37 [.ref (ta u)]
      refine v_iload_n C dX8_signOf_37 rfl ?_
      refine v_iald C ((hU.2.2.2.2.2 u hu).1) (vp_in_nI (nI_ltN (b := 40) (by omega) (by decide) h25) (by decide)) dX8_signOf_38 ?_
      exact v_iret C E dX8_signOf_39 (nle rfl) (nle rfl) ⟨by rw [txE, if_pos (nI_nleN (by omega) (by omega) h19), nI_clamp (by omega)], rfl⟩
    · refine v_bipush C dX8_signOf_28 (v := 124) rfl ?_
      exact v_iret C E dX8_signOf_30 (nle rfl) (nle rfl) ⟨by rw [txE]; first | rw [if_neg (Nat.not_lt.mpr (nI_leN (by omega) (by omega) h19))] | rw [if_neg (by have := nI_nltN (b := 40) (by omega) (by decide) h25; omega)], rfl⟩

set_option maxHeartbeats 4000000 in
set_option maxRecDepth 100000 in
theorem c_X8_bits (l : Launch) (g : Gm) (M : Mem) (ua sa xa na : Nat) (ta : Nat → Nat) (nS : Nat) (sg : Nat → Int32) (ln : Nat → Nat) (tx : Nat → Nat → Int32) (hU : UseW g M ua sa xa na ta nS sg ln tx) : Ct l g yX8_bits cX8_bits 3 (some .int) 3 0 0 [.ref ua] M (fun v N => v = some (.int (orB (fun u => decide (0 < ln u)) 5)) ∧ N = M) := by
  refine Ct.of (by decide) (Nat.le_of_ble_eq_true rfl) ?_
  intro X hXl hXg hN C E
  subst hXl; subst hXg
  show V X (rmD 3 0 0) M 0 0 [(0, .ref ua)] 0 []
  refine v_iconst C dX8_bits_0 (v := 0) rfl ?_
  refine v_istore_n (lv' := [(1, .int 0), (0, .ref ua)]) C dX8_bits_1 hN (by decide) rfl ?_
  refine v_iconst C dX8_bits_2 (v := 0) rfl ?_
  refine v_istore_n (lv' := [(2, .int 0), (1, .int 0), (0, .ref ua)]) C dX8_bits_3 hN (by decide) rfl ?_
  refine v_sub (lv' := [(0, .ref ua), (1, .int 0), (2, .int 0)]) [2, 1, 0] rfl ?_
  have lp4 : ∀ (mm : Nat) (u : Nat) (h1 : u ≤ 5), 5 - u < mm → V X (rmD 3 0 0) M 0 0 [(0, .ref ua), (1, .int (orB (fun u => decide (0 < ln u)) u)), (2, .int (nI u))] 4 [] := by
    intro mm
    induction mm with
    | zero => intro u h1 hmu; exact absurd hmu (Nat.not_lt_zero _)
    | succ mm ih4 =>
      intro u h1 hmu
      refine v_iload_n C dX8_bits_4 rfl ?_
      refine v_iconst C dX8_bits_5 (v := 5) rfl ?_
      refine v_icmp_ge (tgt := 29) C dX8_bits_6 (by decide) (fun h6 => ?_) (fun h6 => ?_)
      · have g6 : u = 5 := Nat.le_antisymm h1 (nI_leN (a := 5) (by decide) (by omega) h6)
        refine v_iload_n C dX8_bits_29 rfl ?_
        exact v_iret C E dX8_bits_30 (nle rfl) (nle rfl) ⟨by rw [g6], rfl⟩
      · have g6 := nI_nleN (a := 5) (by decide) (by omega) h6
        refine v_aload_n C dX8_bits_9 rfl ?_
        refine v_iload_n C dX8_bits_10 rfl ?_
        refine v_callV (As := [.int (nI u)]) (rest := []) (b := ua) C (c_X8_has (xl X) (xg X) M ua sa xa na ta nS sg ln tx u g6 hU) pm_X8_has wI_X8_has wS_X8_has wM_X8_49 kX8 hU.2.1 ⟨by decide, by decide⟩ ⟨by decide, by decide⟩ (nle rfl) dX8_bits_11 rfl (dt1 ?_)
        show V X (rmD 3 0 0) M 0 0 [(0, .ref ua), (1, .int (orB (fun u => decide (0 < ln u)) u)), (2, .int (nI u))] 14 [.int (bI (decide (0 < ln u)))]
        refine v_ifb_eq (tgt := 23) C dX8_bits_14 (by decide) (fun h14 => ?_) (fun h14 => ?_)
        · refine v_iinc (lv' := [(2, .int (nI (u + 1))), (0, .ref ua), (1, .int (orB (fun u => decide (0 < ln u)) u))]) C dX8_bits_23 2 rfl (nI_1 _) hN (by decide) rfl ?_
          refine v_goto (tgt := 4) C dX8_bits_26 (by decide) ?_
          refine v_sub (lv' := [(0, .ref ua), (1, .int (orB (fun u => decide (0 < ln u)) u)), (2, .int (nI (u + 1)))]) [1, 2, 0] rfl ?_
          rw [show orB (fun u => decide (0 < ln u)) u = orB (fun u => decide (0 < ln u)) (u + 1) from (orB_f h14).symm]
          exact ih4 (u + 1) (by omega) (by omega)
        · refine v_iload_n C dX8_bits_17 rfl ?_
          refine v_iconst C dX8_bits_18 (v := 1) rfl ?_
          refine v_iload_n C dX8_bits_19 rfl ?_
          refine v_ishl C dX8_bits_20 ?_
          refine v_ior C dX8_bits_21 ?_
          refine v_istore_n (lv' := [(1, .int ((orB (fun u => decide (0 < ln u)) u) ||| (1 <<< ((nI u) &&& 31)))), (0, .ref ua), (2, .int (nI u))]) C dX8_bits_22 hN (by decide) rfl ?_
          refine v_iinc (lv' := [(2, .int (nI (u + 1))), (1, .int ((orB (fun u => decide (0 < ln u)) u) ||| (1 <<< ((nI u) &&& 31)))), (0, .ref ua)]) C dX8_bits_23 2 rfl (nI_1 _) hN (by decide) rfl ?_
          refine v_goto (tgt := 4) C dX8_bits_26 (by decide) ?_
          refine v_sub (lv' := [(0, .ref ua), (1, .int ((orB (fun u => decide (0 < ln u)) u) ||| (1 <<< ((nI u) &&& 31)))), (2, .int (nI (u + 1)))]) [2, 1, 0] rfl ?_
          rw [show (orB (fun u => decide (0 < ln u)) u) ||| (1 <<< ((nI u) &&& 31)) = orB (fun u => decide (0 < ln u)) (u + 1) from (orB_t h14).symm]
          exact ih4 (u + 1) (by omega) (by omega)
  exact lp4 (_ + 1) 0 (Nat.zero_le _) (Nat.lt_succ_self _)

set_option maxHeartbeats 4000000 in
set_option maxRecDepth 100000 in
theorem c_X8_judge (l : Launch) (g : Gm) (M : Mem) (ua sa xa na : Nat) (ta : Nat → Nat) (nS : Nat) (sg : Nat → Int32) (ln : Nat → Nat) (tx : Nat → Nat → Int32) (hU : UseW g M ua sa xa na ta nS sg ln tx) (fa va : Nat) (bc bs : Bool) (vf : Nat → Int32) (hF : M fa = some (.inr (1, [.ref va, .int (bI bc), .int (bI bs)]))) (hV : M va = some (aI g 9 vf)) (u : Nat) (hu : u < 5) (hpos : 0 < ln u) : Ct l g yX8_judge cX8_judge 10 (some .int) 3 0 0 [.ref ua, .int (nI u), .ref fa] M (fun v N => v = some (.int (jud (knI vf) (tx u) (ln u))) ∧ N = M) := by
  refine Ct.of (by decide) (Nat.le_of_ble_eq_true rfl) ?_
  intro X hXl hXg hN C E
  subst hXl; subst hXg
  show V X (rmD 3 0 0) M 0 0 [(0, .ref ua), (1, .int (nI u)), (2, .ref fa)] 0 []
  have hl40 := (hU.2.2.2.2.2 u hu).2.1
  refine v_aload_n C dX8_judge_0 rfl ?_
  refine v_iload_n C dX8_judge_1 rfl ?_
  refine v_callV (As := [.int (nI u)]) (rest := []) (b := ua) C (c_X8_has (xl X) (xg X) M ua sa xa na ta nS sg ln tx u hu hU) pm_X8_has wI_X8_has wS_X8_has wM_X8_49 kX8 hU.2.1 ⟨by decide, by decide⟩ ⟨by decide, by decide⟩ (nle rfl) dX8_judge_2 rfl (dt1 ?_)
  show V X (rmD 3 0 0) M 0 0 [(0, .ref ua), (1, .int (nI u)), (2, .ref fa)] 5 [.int (bI (decide (0 < ln u)))]
  refine v_ifb_ne (tgt := 10) C dX8_judge_5 (by decide) (fun h5 => ?_) (fun hbad => absurd hbad (by rw [decide_eq_true hpos]; decide))
  refine v_iconst C dX8_judge_10 (v := 0) rfl ?_
  refine v_istore_n (lv' := [(3, .int 0), (0, .ref ua), (1, .int (nI u)), (2, .ref fa)]) C dX8_judge_11 hN (by decide) rfl ?_
  refine v_iconst C dX8_judge_12 (v := 2) rfl ?_
  refine v_istore (lv' := [(4, .int 2), (3, .int 0), (0, .ref ua), (1, .int (nI u)), (2, .ref fa)]) C dX8_judge_13 hN (by decide) rfl ?_
  refine v_iconst C dX8_judge_15 (v := 0) rfl ?_
  refine v_istore (lv' := [(5, .int 0), (4, .int 2), (3, .int 0), (0, .ref ua), (1, .int (nI u)), (2, .ref fa)]) C dX8_judge_16 hN (by decide) rfl ?_
  refine v_iconst C dX8_judge_18 (v := 0) rfl ?_
  refine v_istore (lv' := [(6, .int 0), (5, .int 0), (4, .int 2), (3, .int 0), (0, .ref ua), (1, .int (nI u)), (2, .ref fa)]) C dX8_judge_19 hN (by decide) rfl ?_
  refine v_iconst C dX8_judge_21 (v := 0) rfl ?_
  refine v_istore (lv' := [(7, .int 0), (6, .int 0), (5, .int 0), (4, .int 2), (3, .int 0), (0, .ref ua), (1, .int (nI u)), (2, .ref fa)]) C dX8_judge_22 hN (by decide) rfl ?_
  refine v_iconst C dX8_judge_24 (v := 0) rfl ?_
  refine v_istore (lv' := [(8, .int 0), (7, .int 0), (6, .int 0), (5, .int 0), (4, .int 2), (3, .int 0), (0, .ref ua), (1, .int (nI u)), (2, .ref fa)]) C dX8_judge_25 hN (by decide) rfl ?_
  refine v_sub (lv' := [(0, .ref ua), (1, .int (nI u)), (2, .ref fa), (3, .int 0), (4, .int 2), (5, .int 0), (6, .int 0), (7, .int 0), (8, .int 0)]) [6, 7, 8, 5, 4, 3, 2, 1, 0] rfl ?_
  have lp27 : ∀ (mm : Nat) (k : Nat) (wh : Int32) (bo : Int32) (wt : Int32) (re : Int32) (nu : Int32) (h1 : k ≤ ln u + 1) (h2 : jrun (knI vf) (txE (tx u) (ln u)) k = (wh, bo, wt, re, nu)), ln u + 1 - k < mm → V X (rmD 3 0 0) M 0 0 [(0, .ref ua), (1, .int (nI u)), (2, .ref fa), (3, .int wh), (4, .int bo), (5, .int wt), (6, .int re), (7, .int nu), (8, .int (nI k))] 27 [] := by
    intro mm
    induction mm with
    | zero => intro k wh bo wt re nu h1 h2 hmu; exact absurd hmu (Nat.not_lt_zero _)
    | succ mm ih27 =>
      intro k wh bo wt re nu h1 h2 hmu
      refine v_iload C dX8_judge_27 rfl ?_
      refine v_aload_n C dX8_judge_29 rfl ?_
      refine v_get C kX8 hU.2.1 3 (by decide) wF_X8_20 rfl dX8_judge_30 ?_
      refine v_iload_n C dX8_judge_33 rfl ?_
      refine v_iald C hU.2.2.2.2.1 (vp_in_nI hu (by decide)) dX8_judge_34 ?_
      rw [nI_clamp (by omega)]
      show V X (rmD 3 0 0) M 0 0 [(0, .ref ua), (1, .int (nI u)), (2, .ref fa), (3, .int wh), (4, .int bo), (5, .int wt), (6, .int re), (7, .int nu), (8, .int (nI k))] 35 [.int (nI (ln u)), .int (nI k)]
      refine v_icmp_gt (tgt := 207) C dX8_judge_35 (by decide) (fun h35 => ?_) (fun h35 => ?_)
      · have g35 : k = ln u + 1 := by have := nI_ltN (by omega) (by omega) h35; omega
        refine v_iload_n C dX8_judge_207 rfl ?_
        exact v_iret C E dX8_judge_208 (nle rfl) (nle rfl) ⟨by rw [jud, ← g35, h2], rfl⟩
      · have g35 := nI_nltN (by omega) (by omega) h35
        refine v_aload_n C dX8_judge_38 rfl ?_
        refine v_iload_n C dX8_judge_39 rfl ?_
        refine v_iload C dX8_judge_40 rfl ?_
        refine v_callV (As := [.int (nI u), .int (nI k)]) (rest := []) (b := ua) C (c_X8_signOf (xl X) (xg X) M ua sa xa na ta nS sg ln tx u k hu (by omega) hU) pm_X8_signOf wI_X8_signOf wS_X8_signOf wM_X8_52 kX8 hU.2.1 ⟨by decide, by decide⟩ ⟨by decide, by decide⟩ (nle rfl) dX8_judge_42 rfl (dt1 ?_)
        show V X (rmD 3 0 0) M 0 0 [(0, .ref ua), (1, .int (nI u)), (2, .ref fa), (3, .int wh), (4, .int bo), (5, .int wt), (6, .int re), (7, .int nu), (8, .int (nI k))] 45 [.int (txE (tx u) (ln u) k)]
        obtain ⟨sgn, hsg⟩ : ∃ z, z = txE (tx u) (ln u) k := ⟨_, rfl⟩
        rw [← hsg]
        show V X (rmD 3 0 0) M 0 0 [(0, .ref ua), (1, .int (nI u)), (2, .ref fa), (3, .int wh), (4, .int bo), (5, .int wt), (6, .int re), (7, .int nu), (8, .int (nI k))] 45 [.int sgn]
        refine v_istore (lv' := [(9, .int sgn), (0, .ref ua), (1, .int (nI u)), (2, .ref fa), (3, .int wh), (4, .int bo), (5, .int wt), (6, .int re), (7, .int nu), (8, .int (nI k))]) C dX8_judge_45 hN (by decide) rfl ?_
        refine v_iload C dX8_judge_47 rfl ?_
        refine v_bipush C dX8_judge_49 (v := 38) rfl ?_
        refine v_icmp_eq (tgt := 61) C dX8_judge_51 (by decide) (fun h51 => ?_) (fun h51 => ?_)
        · refine v_iload C dX8_judge_61 rfl ?_
          refine v_aload_n C dX8_judge_63 rfl ?_
          refine v_iload C dX8_judge_64 rfl ?_
          refine v_callV (As := [.int wt]) (rest := [.int bo]) (b := fa) C (c_X1_knownI (xl X) (xg X) M fa va bc bs vf wt hF hV) pm_X1_known wI_X1_known wS_X1_known wM_X8_55 kX1 hF ⟨by decide, by decide⟩ ⟨by decide, by decide⟩ (nle rfl) dX8_judge_66 rfl (dt1 ?_)
          show V X (rmD 3 0 0) M 0 0 [(9, .int sgn), (0, .ref ua), (1, .int (nI u)), (2, .ref fa), (3, .int wh), (4, .int bo), (5, .int wt), (6, .int re), (7, .int nu), (8, .int (nI k))] 69 [.int (knI vf wt), .int bo]
          refine v_iload C dX8_judge_69 rfl ?_
          refine v_iload C dX8_judge_71 rfl ?_
          refine v_callS (As := [.int (knI vf wt), .int re, .int nu]) (rest := [.int bo]) C (c_X8_test (xl X) (xg X) (knI vf wt) re nu M) pm_X8_test wT_X8_test wM_X8_60 ⟨by decide, by decide⟩ ⟨by decide, by decide⟩ (nle rfl) dX8_judge_73 rfl (dt1 ?_)
          show V X (rmD 3 0 0) M 0 0 [(9, .int sgn), (0, .ref ua), (1, .int (nI u)), (2, .ref fa), (3, .int wh), (4, .int bo), (5, .int wt), (6, .int re), (7, .int nu), (8, .int (nI k))] 76 [.int (jtest (knI vf wt) re nu), .int bo]
          refine v_min C wM_X8_64 wT_J9_min_7cf53 wN_J9 wC_J9_min_7cf53 (by decide) (nle rfl) ⟨by decide, by decide⟩ dX8_judge_76 ?_
          refine v_istore (lv' := [(4, .int (if (jtest (knI vf wt) re nu) < bo then (jtest (knI vf wt) re nu) else bo)), (9, .int sgn), (0, .ref ua), (1, .int (nI u)), (2, .ref fa), (3, .int wh), (5, .int wt), (6, .int re), (7, .int nu), (8, .int (nI k))]) C dX8_judge_79 hN (by decide) rfl ?_
          refine v_iconst C dX8_judge_81 (v := 0) rfl ?_
          refine v_istore (lv' := [(6, .int 0), (4, .int (if (jtest (knI vf wt) re nu) < bo then (jtest (knI vf wt) re nu) else bo)), (9, .int sgn), (0, .ref ua), (1, .int (nI u)), (2, .ref fa), (3, .int wh), (5, .int wt), (7, .int nu), (8, .int (nI k))]) C dX8_judge_82 hN (by decide) rfl ?_
          refine v_iconst C dX8_judge_84 (v := 0) rfl ?_
          refine v_istore (lv' := [(7, .int 0), (6, .int 0), (4, .int (if (jtest (knI vf wt) re nu) < bo then (jtest (knI vf wt) re nu) else bo)), (9, .int sgn), (0, .ref ua), (1, .int (nI u)), (2, .ref fa), (3, .int wh), (5, .int wt), (8, .int (nI k))]) C dX8_judge_85 hN (by decide) rfl ?_
          refine v_iload C dX8_judge_87 rfl ?_
          refine v_bipush C dX8_judge_89 (v := 124) rfl ?_
          refine v_icmp_ne (tgt := 201) C dX8_judge_91 (by decide) (fun h91 => ?_) (fun h91 => ?_)
          · refine v_iinc (lv' := [(8, .int (nI (k + 1))), (7, .int 0), (6, .int 0), (4, .int (if (jtest (knI vf wt) re nu) < bo then (jtest (knI vf wt) re nu) else bo)), (9, .int sgn), (0, .ref ua), (1, .int (nI u)), (2, .ref fa), (3, .int wh), (5, .int wt)]) C dX8_judge_201 9 rfl (nI_1 _) hN (by decide) rfl ?_
            refine v_goto (tgt := 27) C dX8_judge_204 (by decide) ?_
            refine v_sub (lv' := [(0, .ref ua), (1, .int (nI u)), (2, .ref fa), (3, .int wh), (4, .int (if (jtest (knI vf wt) re nu) < bo then (jtest (knI vf wt) re nu) else bo)), (5, .int wt), (6, .int 0), (7, .int 0), (8, .int (nI (k + 1)))]) [5, 6, 7, 8, 3, 9, 2, 1, 0] rfl ?_
            refine ih27 (k + 1) _ _ _ _ _ (by omega) ?_ (by omega)
            rw [jrun, h2, ← hsg]
            clear hsg ih27
            first | exact absurd (h51.symm.trans h91) (by decide) | exact absurd h58 h91 | (simp [jst, *]; done) | (simp [jst, *]; intro q; exact absurd q (by decide))
          · refine v_iload_n C dX8_judge_94 rfl ?_
            refine v_iload C dX8_judge_95 rfl ?_
            refine v_max C wM_X8_69 wT_J9_max_7cf53 wN_J9 wC_J9_max_7cf53 (by decide) (nle rfl) ⟨by decide, by decide⟩ dX8_judge_97 ?_
            refine v_istore_n (lv' := [(3, .int (if wh < (if (jtest (knI vf wt) re nu) < bo then (jtest (knI vf wt) re nu) else bo) then (if (jtest (knI vf wt) re nu) < bo then (jtest (knI vf wt) re nu) else bo) else wh)), (7, .int 0), (6, .int 0), (4, .int (if (jtest (knI vf wt) re nu) < bo then (jtest (knI vf wt) re nu) else bo)), (9, .int sgn), (0, .ref ua), (1, .int (nI u)), (2, .ref fa), (5, .int wt), (8, .int (nI k))]) C dX8_judge_100 hN (by decide) rfl ?_
            refine v_iconst C dX8_judge_101 (v := 2) rfl ?_
            refine v_istore (lv' := [(4, .int 2), (3, .int (if wh < (if (jtest (knI vf wt) re nu) < bo then (jtest (knI vf wt) re nu) else bo) then (if (jtest (knI vf wt) re nu) < bo then (jtest (knI vf wt) re nu) else bo) else wh)), (7, .int 0), (6, .int 0), (9, .int sgn), (0, .ref ua), (1, .int (nI u)), (2, .ref fa), (5, .int wt), (8, .int (nI k))]) C dX8_judge_102 hN (by decide) rfl ?_
            refine v_goto (tgt := 201) C dX8_judge_104 (by decide) ?_
            refine v_iinc (lv' := [(8, .int (nI (k + 1))), (4, .int 2), (3, .int (if wh < (if (jtest (knI vf wt) re nu) < bo then (jtest (knI vf wt) re nu) else bo) then (if (jtest (knI vf wt) re nu) < bo then (jtest (knI vf wt) re nu) else bo) else wh)), (7, .int 0), (6, .int 0), (9, .int sgn), (0, .ref ua), (1, .int (nI u)), (2, .ref fa), (5, .int wt)]) C dX8_judge_201 9 rfl (nI_1 _) hN (by decide) rfl ?_
            refine v_goto (tgt := 27) C dX8_judge_204 (by decide) ?_
            refine v_sub (lv' := [(0, .ref ua), (1, .int (nI u)), (2, .ref fa), (3, .int (if wh < (if (jtest (knI vf wt) re nu) < bo then (jtest (knI vf wt) re nu) else bo) then (if (jtest (knI vf wt) re nu) < bo then (jtest (knI vf wt) re nu) else bo) else wh)), (4, .int 2), (5, .int wt), (6, .int 0), (7, .int 0), (8, .int (nI (k + 1)))]) [6, 7, 8, 2, 1, 9, 4, 3, 0] rfl ?_
            refine ih27 (k + 1) _ _ _ _ _ (by omega) ?_ (by omega)
            rw [jrun, h2, ← hsg]
            clear hsg ih27
            first | exact absurd (h51.symm.trans h91) (by decide) | exact absurd h58 h91 | (simp [jst, *]; done) | (simp [jst, *]; intro q; exact absurd q (by decide))
        · refine v_iload C dX8_judge_54 rfl ?_
          refine v_bipush C dX8_judge_56 (v := 124) rfl ?_
          refine v_icmp_ne (tgt := 107) C dX8_judge_58 (by decide) (fun h58 => ?_) (fun h58 => ?_)
          · refine v_iload C dX8_judge_107 rfl ?_
            refine v_callS (As := [.int sgn]) (rest := []) C (c_X8_isDigit (xl X) (xg X) sgn M) pm_X8_isDigit wT_X8_isDigit wM_X8_39 ⟨by decide, by decide⟩ ⟨by decide, by decide⟩ (nle rfl) dX8_judge_109 rfl (dt1 ?_)
            show V X (rmD 3 0 0) M 0 0 [(9, .int sgn), (0, .ref ua), (1, .int (nI u)), (2, .ref fa), (3, .int wh), (4, .int bo), (5, .int wt), (6, .int re), (7, .int nu), (8, .int (nI k))] 112 [.int (bI (qin sgn 48 57))]
            refine v_ifb_eq (tgt := 148) C dX8_judge_112 (by decide) (fun h112 => ?_) (fun h112 => ?_)
            · refine v_iload C dX8_judge_148 rfl ?_
              refine v_bipush C dX8_judge_150 (v := 60) rfl ?_
              refine v_icmp_eq (tgt := 169) C dX8_judge_152 (by decide) (fun h152 => ?_) (fun h152 => ?_)
              · refine v_iload C dX8_judge_169 rfl ?_
                refine v_istore (lv' := [(6, .int sgn), (9, .int sgn), (0, .ref ua), (1, .int (nI u)), (2, .ref fa), (3, .int wh), (4, .int bo), (5, .int wt), (7, .int nu), (8, .int (nI k))]) C dX8_judge_171 hN (by decide) rfl ?_
                refine v_goto (tgt := 201) C dX8_judge_173 (by decide) ?_
                refine v_iinc (lv' := [(8, .int (nI (k + 1))), (6, .int sgn), (9, .int sgn), (0, .ref ua), (1, .int (nI u)), (2, .ref fa), (3, .int wh), (4, .int bo), (5, .int wt), (7, .int nu)]) C dX8_judge_201 9 rfl (nI_1 _) hN (by decide) rfl ?_
                refine v_goto (tgt := 27) C dX8_judge_204 (by decide) ?_
                refine v_sub (lv' := [(0, .ref ua), (1, .int (nI u)), (2, .ref fa), (3, .int wh), (4, .int bo), (5, .int wt), (6, .int sgn), (7, .int nu), (8, .int (nI (k + 1)))]) [3, 4, 5, 6, 7, 8, 1, 9, 0] rfl ?_
                refine ih27 (k + 1) _ _ _ _ _ (by omega) ?_ (by omega)
                rw [jrun, h2, ← hsg]
                clear hsg ih27
                first | exact absurd (h51.symm.trans h91) (by decide) | exact absurd h58 h91 | (simp [jst, *]; done) | (simp [jst, *]; intro q; exact absurd q (by decide))
              · refine v_iload C dX8_judge_155 rfl ?_
                refine v_bipush C dX8_judge_157 (v := 62) rfl ?_
                refine v_icmp_eq (tgt := 169) C dX8_judge_159 (by decide) (fun h159 => ?_) (fun h159 => ?_)
                · refine v_iload C dX8_judge_169 rfl ?_
                  refine v_istore (lv' := [(6, .int sgn), (9, .int sgn), (0, .ref ua), (1, .int (nI u)), (2, .ref fa), (3, .int wh), (4, .int bo), (5, .int wt), (7, .int nu), (8, .int (nI k))]) C dX8_judge_171 hN (by decide) rfl ?_
                  refine v_goto (tgt := 201) C dX8_judge_173 (by decide) ?_
                  refine v_iinc (lv' := [(8, .int (nI (k + 1))), (6, .int sgn), (9, .int sgn), (0, .ref ua), (1, .int (nI u)), (2, .ref fa), (3, .int wh), (4, .int bo), (5, .int wt), (7, .int nu)]) C dX8_judge_201 9 rfl (nI_1 _) hN (by decide) rfl ?_
                  refine v_goto (tgt := 27) C dX8_judge_204 (by decide) ?_
                  refine v_sub (lv' := [(0, .ref ua), (1, .int (nI u)), (2, .ref fa), (3, .int wh), (4, .int bo), (5, .int wt), (6, .int sgn), (7, .int nu), (8, .int (nI (k + 1)))]) [3, 4, 5, 6, 7, 8, 1, 9, 0] rfl ?_
                  refine ih27 (k + 1) _ _ _ _ _ (by omega) ?_ (by omega)
                  rw [jrun, h2, ← hsg]
                  clear hsg ih27
                  first | exact absurd (h51.symm.trans h91) (by decide) | exact absurd h58 h91 | (simp [jst, *]; done) | (simp [jst, *]; intro q; exact absurd q (by decide))
                · refine v_iload C dX8_judge_162 rfl ?_
                  refine v_bipush C dX8_judge_164 (v := 61) rfl ?_
                  refine v_icmp_ne (tgt := 176) C dX8_judge_166 (by decide) (fun h166 => ?_) (fun h166 => ?_)
                  · refine v_iload C dX8_judge_176 rfl ?_
                    refine v_bipush C dX8_judge_178 (v := 115) rfl ?_
                    refine v_icmp_ne (tgt := 187) C dX8_judge_180 (by decide) (fun h180 => ?_) (fun h180 => ?_)
                    · refine v_iload C dX8_judge_187 rfl ?_
                      refine v_bipush C dX8_judge_189 (v := 107) rfl ?_
                      refine v_icmp_ne (tgt := 198) C dX8_judge_191 (by decide) (fun h191 => ?_) (fun h191 => ?_)
                      · refine v_iconst C dX8_judge_198 (v := 2) rfl ?_
                        refine v_istore (lv' := [(5, .int 2), (9, .int sgn), (0, .ref ua), (1, .int (nI u)), (2, .ref fa), (3, .int wh), (4, .int bo), (6, .int re), (7, .int nu), (8, .int (nI k))]) C dX8_judge_199 hN (by decide) rfl ?_
                        refine v_iinc (lv' := [(8, .int (nI (k + 1))), (5, .int 2), (9, .int sgn), (0, .ref ua), (1, .int (nI u)), (2, .ref fa), (3, .int wh), (4, .int bo), (6, .int re), (7, .int nu)]) C dX8_judge_201 9 rfl (nI_1 _) hN (by decide) rfl ?_
                        refine v_goto (tgt := 27) C dX8_judge_204 (by decide) ?_
                        refine v_sub (lv' := [(0, .ref ua), (1, .int (nI u)), (2, .ref fa), (3, .int wh), (4, .int bo), (5, .int 2), (6, .int re), (7, .int nu), (8, .int (nI (k + 1)))]) [3, 4, 5, 6, 7, 1, 8, 9, 0] rfl ?_
                        refine ih27 (k + 1) _ _ _ _ _ (by omega) ?_ (by omega)
                        rw [jrun, h2, ← hsg]
                        clear hsg ih27
                        first | exact absurd (h51.symm.trans h91) (by decide) | exact absurd h58 h91 | (simp [jst, *]; done) | (simp [jst, *]; intro q; exact absurd q (by decide))
                      · refine v_iconst C dX8_judge_194 (v := 1) rfl ?_
                        refine v_goto (tgt := 199) C dX8_judge_195 (by decide) ?_
                        refine v_istore (lv' := [(5, .int 1), (9, .int sgn), (0, .ref ua), (1, .int (nI u)), (2, .ref fa), (3, .int wh), (4, .int bo), (6, .int re), (7, .int nu), (8, .int (nI k))]) C dX8_judge_199 hN (by decide) rfl ?_
                        refine v_iinc (lv' := [(8, .int (nI (k + 1))), (5, .int 1), (9, .int sgn), (0, .ref ua), (1, .int (nI u)), (2, .ref fa), (3, .int wh), (4, .int bo), (6, .int re), (7, .int nu)]) C dX8_judge_201 9 rfl (nI_1 _) hN (by decide) rfl ?_
                        refine v_goto (tgt := 27) C dX8_judge_204 (by decide) ?_
                        refine v_sub (lv' := [(0, .ref ua), (1, .int (nI u)), (2, .ref fa), (3, .int wh), (4, .int bo), (5, .int 1), (6, .int re), (7, .int nu), (8, .int (nI (k + 1)))]) [3, 4, 5, 6, 7, 1, 8, 9, 0] rfl ?_
                        refine ih27 (k + 1) _ _ _ _ _ (by omega) ?_ (by omega)
                        rw [jrun, h2, ← hsg]
                        clear hsg ih27
                        first | exact absurd (h51.symm.trans h91) (by decide) | exact absurd h58 h91 | (simp [jst, *]; done) | (simp [jst, *]; intro q; exact absurd q (by decide))
                    · refine v_iconst C dX8_judge_183 (v := 0) rfl ?_
                      refine v_goto (tgt := 199) C dX8_judge_184 (by decide) ?_
                      refine v_istore (lv' := [(5, .int 0), (9, .int sgn), (0, .ref ua), (1, .int (nI u)), (2, .ref fa), (3, .int wh), (4, .int bo), (6, .int re), (7, .int nu), (8, .int (nI k))]) C dX8_judge_199 hN (by decide) rfl ?_
                      refine v_iinc (lv' := [(8, .int (nI (k + 1))), (5, .int 0), (9, .int sgn), (0, .ref ua), (1, .int (nI u)), (2, .ref fa), (3, .int wh), (4, .int bo), (6, .int re), (7, .int nu)]) C dX8_judge_201 9 rfl (nI_1 _) hN (by decide) rfl ?_
                      refine v_goto (tgt := 27) C dX8_judge_204 (by decide) ?_
                      refine v_sub (lv' := [(0, .ref ua), (1, .int (nI u)), (2, .ref fa), (3, .int wh), (4, .int bo), (5, .int 0), (6, .int re), (7, .int nu), (8, .int (nI (k + 1)))]) [3, 4, 5, 6, 7, 1, 8, 9, 0] rfl ?_
                      refine ih27 (k + 1) _ _ _ _ _ (by omega) ?_ (by omega)
                      rw [jrun, h2, ← hsg]
                      clear hsg ih27
                      first | exact absurd (h51.symm.trans h91) (by decide) | exact absurd h58 h91 | (simp [jst, *]; done) | (simp [jst, *]; intro q; exact absurd q (by decide))
                  · refine v_iload C dX8_judge_169 rfl ?_
                    refine v_istore (lv' := [(6, .int sgn), (9, .int sgn), (0, .ref ua), (1, .int (nI u)), (2, .ref fa), (3, .int wh), (4, .int bo), (5, .int wt), (7, .int nu), (8, .int (nI k))]) C dX8_judge_171 hN (by decide) rfl ?_
                    refine v_goto (tgt := 201) C dX8_judge_173 (by decide) ?_
                    refine v_iinc (lv' := [(8, .int (nI (k + 1))), (6, .int sgn), (9, .int sgn), (0, .ref ua), (1, .int (nI u)), (2, .ref fa), (3, .int wh), (4, .int bo), (5, .int wt), (7, .int nu)]) C dX8_judge_201 9 rfl (nI_1 _) hN (by decide) rfl ?_
                    refine v_goto (tgt := 27) C dX8_judge_204 (by decide) ?_
                    refine v_sub (lv' := [(0, .ref ua), (1, .int (nI u)), (2, .ref fa), (3, .int wh), (4, .int bo), (5, .int wt), (6, .int sgn), (7, .int nu), (8, .int (nI (k + 1)))]) [3, 4, 5, 6, 7, 8, 1, 9, 0] rfl ?_
                    refine ih27 (k + 1) _ _ _ _ _ (by omega) ?_ (by omega)
                    rw [jrun, h2, ← hsg]
                    clear hsg ih27
                    first | exact absurd (h51.symm.trans h91) (by decide) | exact absurd h58 h91 | (simp [jst, *]; done) | (simp [jst, *]; intro q; exact absurd q (by decide))
            · refine v_iload C dX8_judge_115 rfl ?_
              refine v_if_ne (tgt := 132) C dX8_judge_117 (by decide) (fun h117 => ?_) (fun h117 => ?_)
              · refine v_bipush C dX8_judge_132 (v := 10) rfl ?_
                refine v_iload C dX8_judge_134 rfl ?_
                refine v_imul C dX8_judge_136 ?_
                refine v_iload C dX8_judge_137 rfl ?_
                refine v_iadd C dX8_judge_139 ?_
                refine v_bipush C dX8_judge_140 (v := 48) rfl ?_
                refine v_isub C dX8_judge_142 ?_
                refine v_istore (lv' := [(7, .int (((10 * nu) + sgn) - 48)), (9, .int sgn), (0, .ref ua), (1, .int (nI u)), (2, .ref fa), (3, .int wh), (4, .int bo), (5, .int wt), (6, .int re), (8, .int (nI k))]) C dX8_judge_143 hN (by decide) rfl ?_
                refine v_goto (tgt := 201) C dX8_judge_145 (by decide) ?_
                refine v_iinc (lv' := [(8, .int (nI (k + 1))), (7, .int (((10 * nu) + sgn) - 48)), (9, .int sgn), (0, .ref ua), (1, .int (nI u)), (2, .ref fa), (3, .int wh), (4, .int bo), (5, .int wt), (6, .int re)]) C dX8_judge_201 9 rfl (nI_1 _) hN (by decide) rfl ?_
                refine v_goto (tgt := 27) C dX8_judge_204 (by decide) ?_
                refine v_sub (lv' := [(0, .ref ua), (1, .int (nI u)), (2, .ref fa), (3, .int wh), (4, .int bo), (5, .int wt), (6, .int re), (7, .int (((10 * nu) + sgn) - 48)), (8, .int (nI (k + 1)))]) [3, 4, 5, 6, 7, 8, 9, 1, 0] rfl ?_
                refine ih27 (k + 1) _ _ _ _ _ (by omega) ?_ (by omega)
                rw [jrun, h2, ← hsg]
                clear hsg ih27
                first | exact absurd (h51.symm.trans h91) (by decide) | exact absurd h58 h91 | (simp [jst, *]; done) | (simp [jst, *]; intro q; exact absurd q (by decide))
              · refine v_iconst C dX8_judge_120 (v := 3) rfl ?_
                refine v_iload C dX8_judge_121 rfl ?_
                refine v_iadd C dX8_judge_123 ?_
                refine v_bipush C dX8_judge_124 (v := 48) rfl ?_
                refine v_isub C dX8_judge_126 ?_
                refine v_istore (lv' := [(5, .int ((3 + sgn) - 48)), (9, .int sgn), (0, .ref ua), (1, .int (nI u)), (2, .ref fa), (3, .int wh), (4, .int bo), (6, .int re), (7, .int nu), (8, .int (nI k))]) C dX8_judge_127 hN (by decide) rfl ?_
                refine v_goto (tgt := 201) C dX8_judge_129 (by decide) ?_
                refine v_iinc (lv' := [(8, .int (nI (k + 1))), (5, .int ((3 + sgn) - 48)), (9, .int sgn), (0, .ref ua), (1, .int (nI u)), (2, .ref fa), (3, .int wh), (4, .int bo), (6, .int re), (7, .int nu)]) C dX8_judge_201 9 rfl (nI_1 _) hN (by decide) rfl ?_
                refine v_goto (tgt := 27) C dX8_judge_204 (by decide) ?_
                refine v_sub (lv' := [(0, .ref ua), (1, .int (nI u)), (2, .ref fa), (3, .int wh), (4, .int bo), (5, .int ((3 + sgn) - 48)), (6, .int re), (7, .int nu), (8, .int (nI (k + 1)))]) [3, 4, 5, 6, 7, 1, 8, 9, 0] rfl ?_
                refine ih27 (k + 1) _ _ _ _ _ (by omega) ?_ (by omega)
                rw [jrun, h2, ← hsg]
                clear hsg ih27
                first | exact absurd (h51.symm.trans h91) (by decide) | exact absurd h58 h91 | (simp [jst, *]; done) | (simp [jst, *]; intro q; exact absurd q (by decide))
          · refine v_iload C dX8_judge_61 rfl ?_
            refine v_aload_n C dX8_judge_63 rfl ?_
            refine v_iload C dX8_judge_64 rfl ?_
            refine v_callV (As := [.int wt]) (rest := [.int bo]) (b := fa) C (c_X1_knownI (xl X) (xg X) M fa va bc bs vf wt hF hV) pm_X1_known wI_X1_known wS_X1_known wM_X8_55 kX1 hF ⟨by decide, by decide⟩ ⟨by decide, by decide⟩ (nle rfl) dX8_judge_66 rfl (dt1 ?_)
            show V X (rmD 3 0 0) M 0 0 [(9, .int sgn), (0, .ref ua), (1, .int (nI u)), (2, .ref fa), (3, .int wh), (4, .int bo), (5, .int wt), (6, .int re), (7, .int nu), (8, .int (nI k))] 69 [.int (knI vf wt), .int bo]
            refine v_iload C dX8_judge_69 rfl ?_
            refine v_iload C dX8_judge_71 rfl ?_
            refine v_callS (As := [.int (knI vf wt), .int re, .int nu]) (rest := [.int bo]) C (c_X8_test (xl X) (xg X) (knI vf wt) re nu M) pm_X8_test wT_X8_test wM_X8_60 ⟨by decide, by decide⟩ ⟨by decide, by decide⟩ (nle rfl) dX8_judge_73 rfl (dt1 ?_)
            show V X (rmD 3 0 0) M 0 0 [(9, .int sgn), (0, .ref ua), (1, .int (nI u)), (2, .ref fa), (3, .int wh), (4, .int bo), (5, .int wt), (6, .int re), (7, .int nu), (8, .int (nI k))] 76 [.int (jtest (knI vf wt) re nu), .int bo]
            refine v_min C wM_X8_64 wT_J9_min_7cf53 wN_J9 wC_J9_min_7cf53 (by decide) (nle rfl) ⟨by decide, by decide⟩ dX8_judge_76 ?_
            refine v_istore (lv' := [(4, .int (if (jtest (knI vf wt) re nu) < bo then (jtest (knI vf wt) re nu) else bo)), (9, .int sgn), (0, .ref ua), (1, .int (nI u)), (2, .ref fa), (3, .int wh), (5, .int wt), (6, .int re), (7, .int nu), (8, .int (nI k))]) C dX8_judge_79 hN (by decide) rfl ?_
            refine v_iconst C dX8_judge_81 (v := 0) rfl ?_
            refine v_istore (lv' := [(6, .int 0), (4, .int (if (jtest (knI vf wt) re nu) < bo then (jtest (knI vf wt) re nu) else bo)), (9, .int sgn), (0, .ref ua), (1, .int (nI u)), (2, .ref fa), (3, .int wh), (5, .int wt), (7, .int nu), (8, .int (nI k))]) C dX8_judge_82 hN (by decide) rfl ?_
            refine v_iconst C dX8_judge_84 (v := 0) rfl ?_
            refine v_istore (lv' := [(7, .int 0), (6, .int 0), (4, .int (if (jtest (knI vf wt) re nu) < bo then (jtest (knI vf wt) re nu) else bo)), (9, .int sgn), (0, .ref ua), (1, .int (nI u)), (2, .ref fa), (3, .int wh), (5, .int wt), (8, .int (nI k))]) C dX8_judge_85 hN (by decide) rfl ?_
            refine v_iload C dX8_judge_87 rfl ?_
            refine v_bipush C dX8_judge_89 (v := 124) rfl ?_
            refine v_icmp_ne (tgt := 201) C dX8_judge_91 (by decide) (fun h91 => ?_) (fun h91 => ?_)
            · refine v_iinc (lv' := [(8, .int (nI (k + 1))), (7, .int 0), (6, .int 0), (4, .int (if (jtest (knI vf wt) re nu) < bo then (jtest (knI vf wt) re nu) else bo)), (9, .int sgn), (0, .ref ua), (1, .int (nI u)), (2, .ref fa), (3, .int wh), (5, .int wt)]) C dX8_judge_201 9 rfl (nI_1 _) hN (by decide) rfl ?_
              refine v_goto (tgt := 27) C dX8_judge_204 (by decide) ?_
              refine v_sub (lv' := [(0, .ref ua), (1, .int (nI u)), (2, .ref fa), (3, .int wh), (4, .int (if (jtest (knI vf wt) re nu) < bo then (jtest (knI vf wt) re nu) else bo)), (5, .int wt), (6, .int 0), (7, .int 0), (8, .int (nI (k + 1)))]) [5, 6, 7, 8, 3, 9, 2, 1, 0] rfl ?_
              refine ih27 (k + 1) _ _ _ _ _ (by omega) ?_ (by omega)
              rw [jrun, h2, ← hsg]
              clear hsg ih27
              first | exact absurd (h51.symm.trans h91) (by decide) | exact absurd h58 h91 | (simp [jst, *]; done) | (simp [jst, *]; intro q; exact absurd q (by decide))
            · refine v_iload_n C dX8_judge_94 rfl ?_
              refine v_iload C dX8_judge_95 rfl ?_
              refine v_max C wM_X8_69 wT_J9_max_7cf53 wN_J9 wC_J9_max_7cf53 (by decide) (nle rfl) ⟨by decide, by decide⟩ dX8_judge_97 ?_
              refine v_istore_n (lv' := [(3, .int (if wh < (if (jtest (knI vf wt) re nu) < bo then (jtest (knI vf wt) re nu) else bo) then (if (jtest (knI vf wt) re nu) < bo then (jtest (knI vf wt) re nu) else bo) else wh)), (7, .int 0), (6, .int 0), (4, .int (if (jtest (knI vf wt) re nu) < bo then (jtest (knI vf wt) re nu) else bo)), (9, .int sgn), (0, .ref ua), (1, .int (nI u)), (2, .ref fa), (5, .int wt), (8, .int (nI k))]) C dX8_judge_100 hN (by decide) rfl ?_
              refine v_iconst C dX8_judge_101 (v := 2) rfl ?_
              refine v_istore (lv' := [(4, .int 2), (3, .int (if wh < (if (jtest (knI vf wt) re nu) < bo then (jtest (knI vf wt) re nu) else bo) then (if (jtest (knI vf wt) re nu) < bo then (jtest (knI vf wt) re nu) else bo) else wh)), (7, .int 0), (6, .int 0), (9, .int sgn), (0, .ref ua), (1, .int (nI u)), (2, .ref fa), (5, .int wt), (8, .int (nI k))]) C dX8_judge_102 hN (by decide) rfl ?_
              refine v_goto (tgt := 201) C dX8_judge_104 (by decide) ?_
              refine v_iinc (lv' := [(8, .int (nI (k + 1))), (4, .int 2), (3, .int (if wh < (if (jtest (knI vf wt) re nu) < bo then (jtest (knI vf wt) re nu) else bo) then (if (jtest (knI vf wt) re nu) < bo then (jtest (knI vf wt) re nu) else bo) else wh)), (7, .int 0), (6, .int 0), (9, .int sgn), (0, .ref ua), (1, .int (nI u)), (2, .ref fa), (5, .int wt)]) C dX8_judge_201 9 rfl (nI_1 _) hN (by decide) rfl ?_
              refine v_goto (tgt := 27) C dX8_judge_204 (by decide) ?_
              refine v_sub (lv' := [(0, .ref ua), (1, .int (nI u)), (2, .ref fa), (3, .int (if wh < (if (jtest (knI vf wt) re nu) < bo then (jtest (knI vf wt) re nu) else bo) then (if (jtest (knI vf wt) re nu) < bo then (jtest (knI vf wt) re nu) else bo) else wh)), (4, .int 2), (5, .int wt), (6, .int 0), (7, .int 0), (8, .int (nI (k + 1)))]) [6, 7, 8, 2, 1, 9, 4, 3, 0] rfl ?_
              refine ih27 (k + 1) _ _ _ _ _ (by omega) ?_ (by omega)
              rw [jrun, h2, ← hsg]
              clear hsg ih27
              first | exact absurd (h51.symm.trans h91) (by decide) | exact absurd h58 h91 | (simp [jst, *]; done) | (simp [jst, *]; intro q; exact absurd q (by decide))
  exact lp27 (_ + 1) 0 0 2 0 0 0 (Nat.zero_le _) rfl (Nat.lt_succ_self _)

theorem UseW.app {g : Gm} {M : Mem} {ua sa xa na : Nat} {ta : Nat → Nat} {nS : Nat} {sg : Nat → Int32} {ln : Nat → Nat} {tx : Nat → Nat → Int32} (hU : UseW g M ua sa xa na ta nS sg ln tx) {n : Nat} (hn : n ≤ 40) (f : Nat → Int32) : UseW g (mset (mset M sa (aI g 40 f)) ua (.inr (8, [.ref sa, .int (nI n), .ref xa, .ref na]))) ua sa xa na ta n f ln tx := by
  obtain ⟨h1, h2, h3, h4, h5, h6⟩ := hU
  refine ⟨hn, mset_same _ _ _, (mset_ne (cell_ne h3 h2 (by simp))).trans (mset_same _ _ _), ?_, ?_, fun u hu => ?_⟩
  · rw [mset_ne (cell_ne h4 h2 (by simp)), mset_ne (cell_ne h4 h3 (by simp))]; exact h4
  · rw [mset_ne (cell_ne h5 h2 (by simp)), mset_ne (cell_ne h5 h3 (by simp))]; exact h5
  · obtain ⟨q1, q2, q3, q4⟩ := h6 u hu
    refine ⟨?_, q2, q3, q4⟩
    rw [mset_ne (cell_ne q1 h2 (by simp)), mset_ne (Ne.symm q3)]; exact q1
theorem UseW.keep {g : Gm} {M : Mem} {ua sa xa na : Nat} {ta : Nat → Nat} {nS : Nat} {sg : Nat → Int32} {ln : Nat → Nat} {tx : Nat → Nat → Int32} (hU : UseW g M ua sa xa na ta nS sg ln tx) {u : Nat} (hu : u < 5) (f : Nat → Int32) : UseW g (mset (mset (mset M (ta u) (aI g 40 f)) na (aI g 5 (upd (fun v => nI (ln v)) u (nI nS)))) ua (.inr (8, [.ref sa, .int 0, .ref xa, .ref na]))) ua sa xa na ta 0 sg (fun v => if v = u then nS else ln v) (fun v => if v = u then f else tx v) := by
  obtain ⟨h1, h2, h3, h4, h5, h6⟩ := hU
  obtain ⟨r1, r2, r3, r4⟩ := h6 u hu
  refine ⟨Nat.zero_le _, mset_same _ _ _, ?_, ?_, ?_, fun v hv => ?_⟩
  · rw [mset_ne (cell_ne h3 h2 (by simp)), mset_ne (cell_ne h3 h5 (by simp)), mset_ne r3]; exact h3
  · rw [mset_ne (cell_ne h4 h2 (by simp)), mset_ne (cell_ne h4 h5 (by simp)), mset_ne (cell_ne h4 r1 (by simp))]; exact h4
  · rw [mset_ne (cell_ne h5 h2 (by simp)), mset_same]
    congr 4
    funext v
    by_cases q : v = u <;> simp [upd, q]
  · obtain ⟨q1, q2, q3, q4⟩ := h6 v hv
    refine ⟨?_, by by_cases q : v = u <;> simp [q] <;> omega, q3, q4⟩
    rw [mset_ne (cell_ne q1 h2 (by simp)), mset_ne (cell_ne q1 h5 (by simp))]
    by_cases q : v = u
    · subst q
      rw [mset_same]; simp
    · rw [mset_ne (q4 u hu q)]; simp only [q, if_false]; exact q1
set_option maxHeartbeats 4000000 in
set_option maxRecDepth 100000 in
theorem c_X8_keep (l : Launch) (g : Gm) (M : Mem) (ua sa xa na : Nat) (ta : Nat → Nat) (nS : Nat) (sg : Nat → Int32) (ln : Nat → Nat) (tx : Nat → Nat → Int32) (hU : UseW g M ua sa xa na ta nS sg ln tx) (u : Nat) (hu : u < 5) : Ct l g yX8_keep cX8_keep 3 none 2 0 0 [.ref ua, .int (nI u)] M (fun v N => v = none ∧ ∃ f, UseW g N ua sa xa na ta 0 sg (fun v => if v = u then nS else ln v) (fun v => if v = u then f else tx v) ∧ (∀ j, j < nS → f j = sg j) ∧ ∀ a, a ≠ ua → a ≠ na → a ≠ ta u → N a = M a) := by
  refine Ct.of (by decide) (Nat.le_of_ble_eq_true rfl) ?_
  intro X hXl hXg hN C E
  subst hXl; subst hXg
  show V X (rmD 2 0 0) M 0 0 [(0, .ref ua), (1, .int (nI u))] 0 []
  have h40 := hU.1
  have hT := (hU.2.2.2.2.2 u hu).1
  refine v_aload_n C dX8_keep_0 rfl ?_
  refine v_iload_n C dX8_keep_1 rfl ?_
  refine v_callV (As := [.int (nI u)]) (rest := []) (b := ua) C (c_X8_isPlace (xl X) (xg X) ua (nI u) M) pm_X8_isPlace wI_X8_isPlace wS_X8_isPlace wM_X8_46 kX8 hU.2.1 ⟨by decide, by decide⟩ ⟨by decide, by decide⟩ (nle rfl) dX8_keep_2 rfl (dt1 ?_)
  show V X (rmD 2 0 0) M 0 0 [(0, .ref ua), (1, .int (nI u))] 5 [.int (bI (qin (nI u) 0 4))]
  refine v_ifb_ne (tgt := 9) C dX8_keep_5 (by decide) (fun h5 => ?_) (fun hbad => absurd hbad (by rw [qin_u hu]; decide))
  refine v_iconst C dX8_keep_9 (v := 0) rfl ?_
  refine v_istore_n (lv' := [(2, .int 0), (0, .ref ua), (1, .int (nI u))]) C dX8_keep_10 hN (by decide) rfl ?_
  refine v_sub (lv' := [(0, .ref ua), (1, .int (nI u)), (2, .int 0)]) [1, 2, 0] rfl ?_
  have lp11 : ∀ (mm : Nat) (k : Nat) (f : Nat → Int32) (h1 : k ≤ nS) (h2 : ∀ j, j < k → f j = sg j), nS - k < mm → V X (rmD 2 0 0) (mset M (ta u) (aI (xg X) 40 f)) 0 0 [(0, .ref ua), (1, .int (nI u)), (2, .int (nI k))] 11 [] := by
    intro mm
    induction mm with
    | zero => intro k f h1 h2 hmu; exact absurd hmu (Nat.not_lt_zero _)
    | succ mm ih11 =>
      intro k f h1 h2 hmu
      refine v_iload_n C dX8_keep_11 rfl ?_
      refine v_aload_n C dX8_keep_12 rfl ?_
      refine v_get C kX8 ((mset_ne (cell_ne hU.2.1 hT (by simp))).trans hU.2.1) 1 (by decide) wF_X8_23 rfl dX8_keep_13 ?_
      refine v_icmp_ge (tgt := 45) C dX8_keep_16 (by decide) (fun h16 => ?_) (fun h16 => ?_)
      · have g16 : k = nS := Nat.le_antisymm h1 (nI_leN (by omega) (by omega) h16)
        refine v_aload_n C dX8_keep_45 rfl ?_
        refine v_get C kX8 ((mset_ne (cell_ne hU.2.1 hT (by simp))).trans hU.2.1) 3 (by decide) wF_X8_20 rfl dX8_keep_46 ?_
        refine v_iload_n C dX8_keep_49 rfl ?_
        refine v_aload_n C dX8_keep_50 rfl ?_
        refine v_get C kX8 ((mset_ne (cell_ne hU.2.1 hT (by simp))).trans hU.2.1) 1 (by decide) wF_X8_23 rfl dX8_keep_51 ?_
        refine v_iast C ((mset_ne (cell_ne hU.2.2.2.2.1 hT (by simp))).trans hU.2.2.2.2.1) (vp_in_nI hu (by decide)) dX8_keep_54 ?_
        show V X (rmD 2 0 0) (mset (mset M (ta u) (aI (xg X) 40 f)) na (aI (xg X) 5 (upd (fun u => nI (ln u)) (nI u : Int32).toNatClampNeg (nI nS)))) 0 0 [(0, .ref ua), (1, .int (nI u)), (2, .int (nI k))] 55 []
        refine v_aload_n C dX8_keep_55 rfl ?_
        refine v_iconst C dX8_keep_56 (v := 0) rfl ?_
        refine v_put C kX8 ((mset_ne (cell_ne hU.2.1 hU.2.2.2.2.1 (by simp))).trans ((mset_ne (cell_ne hU.2.1 hT (by simp))).trans hU.2.1)) 1 (by decide) wF_X8_23 rfl rfl rfl (nle rfl) dX8_keep_57 ?_
        show V X (rmD 2 0 0) (mset (mset (mset M (ta u) (aI (xg X) 40 f)) na (aI (xg X) 5 (upd (fun u => nI (ln u)) (nI u : Int32).toNatClampNeg (nI nS)))) ua (.inr (8, [.ref sa, .int 0, .ref xa, .ref na]))) 0 0 [(0, .ref ua), (1, .int (nI u)), (2, .int (nI k))] 60 []
        exact v_vret C E dX8_keep_60 (nle rfl) (nle rfl) ⟨rfl, f, by rw [nI_clamp (by omega)]; exact hU.keep hu f, fun j hj => h2 j (by omega), fun a h1 h2 h3 => by rw [mset_ne h1, mset_ne h2, mset_ne h3]⟩
      · have g16 := nI_nleN (by omega) (by omega) h16
        refine v_iload_n C dX8_keep_19 rfl ?_
        refine v_bipush C dX8_keep_20 (v := 40) rfl ?_
        refine v_icmp_ge (tgt := 45) C dX8_keep_22 (by decide) (fun hbad => absurd hbad (nI_ge (b := 40) (by omega) (by decide))) (fun h22 => ?_)
        refine v_aload_n C dX8_keep_25 rfl ?_
        refine v_get C kX8 ((mset_ne (cell_ne hU.2.1 hT (by simp))).trans hU.2.1) 2 (by decide) wF_X8_17 rfl dX8_keep_26 ?_
        refine v_iload_n C dX8_keep_29 rfl ?_
        refine v_aald C (by decide) ((mset_ne (cell_ne hU.2.2.2.1 hT (by simp))).trans hU.2.2.2.1) (vp_in_nI hu (by decide)) dX8_keep_30 ?_
        rw [nI_clamp (by omega), if_pos hu]
        show V X (rmD 2 0 0) (mset M (ta u) (aI (xg X) 40 f)) 0 0 [(0, .ref ua), (1, .int (nI u)), (2, .int (nI k))] 31 [.ref (ta u)]
        refine v_iload_n C dX8_keep_31 rfl ?_
        refine v_aload_n C dX8_keep_32 rfl ?_
        refine v_get C kX8 ((mset_ne (cell_ne hU.2.1 hT (by simp))).trans hU.2.1) 0 (by decide) wF_X8_11 rfl dX8_keep_33 ?_
        refine v_iload_n C dX8_keep_36 rfl ?_
        refine v_iald C ((mset_ne (hU.2.2.2.2.2 u hu).2.2.1).trans hU.2.2.1) (vp_in_nI (by omega) (by decide)) dX8_keep_37 ?_
        rw [nI_clamp (by omega)]
        show V X (rmD 2 0 0) (mset M (ta u) (aI (xg X) 40 f)) 0 0 [(0, .ref ua), (1, .int (nI u)), (2, .int (nI k))] 38 [.int (sg k), .int (nI k), .ref (ta u)]
        refine v_iast C (mset_same _ _ _) (vp_in_nI (by omega) (by decide)) dX8_keep_38 ?_
        show V X (rmD 2 0 0) (mset (mset M (ta u) (aI (xg X) 40 f)) (ta u) (aI (xg X) 40 (upd f (nI k : Int32).toNatClampNeg (sg k)))) 0 0 [(0, .ref ua), (1, .int (nI u)), (2, .int (nI k))] 39 []
        refine v_iinc (lv' := [(2, .int (nI (k + 1))), (0, .ref ua), (1, .int (nI u))]) C dX8_keep_39 2 rfl (nI_1 _) hN (by decide) rfl ?_
        refine v_goto (tgt := 11) C dX8_keep_42 (by decide) ?_
        refine v_sub (lv' := [(0, .ref ua), (1, .int (nI u)), (2, .int (nI (k + 1)))]) [1, 2, 0] rfl ?_
        rw [mset_mset, nI_clamp (n := k) (by omega)]
        exact ih11 (k + 1) _ (by omega) (fun j hj => by by_cases q : j = k <;> simp [upd, q]; exact h2 j (by omega)) (by omega)
  have q := lp11 (_ + 1) 0 (tx u) (Nat.zero_le _) (fun j hj => absurd hj (Nat.not_lt_zero _)) (Nat.lt_succ_self _)
  rw [mset_id hT] at q
  exact q


/-! The model: facts told, texts. -/
set_option maxHeartbeats 4000000 in
set_option maxRecDepth 100000 in
theorem c_X10_factOf (l : Launch) (g : Gm) (M : Mem) (md : Nat) (t1 t2 t3 t4 t5 t6 t7 t8 : Nat) (fT fD fP fC fS fU fX fF : Nat → Int32) (mo : Int32) (nT : Nat) (m : Nat → Nat → Nat) (dB : Nat → Nat → Bool) (nP : Nat) (pf : Nat → Nat → Nat) (cB : Nat → Nat → Bool) (nS : Nat) (sg : Nat → Int32) (ln : Nat → Nat) (tx : Nat → Nat → Int32) (fl : Nat → Nat → Nat) (hM : ModA g M md t1 t2 t3 t4 t5 t6 t7 t8 fT fD fP fC fS fU fX fF mo nT m dB nP pf cB nS sg ln tx fl) (t d w : Nat) (lt : t < nT) (hd : d < 100) (hw : w < 9) : Ct l g yX10_factOf cX10_factOf 5 (some .int) 6 0 0 [.ref md, .int (nI t), .int (nI d), .int (nI w)] M (fun v N => v = some (.int (oI (factN nP pf cB (Lk m nT pf) (Kk m nT pf) (m t) t d w))) ∧ N = M) := by
  refine Ct.of (by decide) (Nat.le_of_ble_eq_true rfl) ?_
  intro X hXl hXg hN C E
  subst hXl; subst hXg
  show V X (rmD 6 0 0) M 0 0 [(0, .ref md), (1, .int (nI t)), (2, .int (nI d)), (3, .int (nI w))] 0 []
  obtain ⟨hO, h1_, h2_, h3_, h4_, h5_, h6_, h7_, h8_, bT, bP, bS, okT_, cT, cD, okP_, cP, cC, cS, cU, bU_, cX, okX, okF_, cF⟩ := id hM
  refine v_iload_n C dX10_factOf_0 rfl ?_
  refine v_iconst C dX10_factOf_1 (v := 2) rfl ?_
  refine v_icmp_le (tgt := 15) C dX10_factOf_2 (by decide) (fun h2 => ?_) (fun h2 => ?_)
  · have g2 := nI_leN (b := 2) (by omega) (by decide) h2
    have hcn := cntB_le (seenA nP pf cB (Lk m nT pf) (Kk m nT pf) t d) 96
    refine v_aload_n C dX10_factOf_15 rfl ?_
    refine v_iload_n C dX10_factOf_16 rfl ?_
    refine v_iload_n C dX10_factOf_17 rfl ?_
    refine v_callV (As := [.int (nI t), .int (nI d)]) (rest := []) (b := md) C (c_X10_shownOf (xl X) (xg X) M md t1 t2 t3 t4 t5 t6 t7 t8 fT fD fP fC fS fU fX fF mo nT m dB nP pf cB nS sg ln tx fl hM t d (by omega) (by omega)) pm_X10_shownOf wI_X10_shownOf wS_X10_shownOf wM_X10_100 kX10 hO ⟨by decide, by decide⟩ ⟨by decide, by decide⟩ (nle rfl) dX10_factOf_18 rfl (dt1 ?_)
    show V X (rmD 6 0 0) M 0 0 [(0, .ref md), (1, .int (nI t)), (2, .int (nI d)), (3, .int (nI w))] 21 [.int (nI (cntB (seenA nP pf cB (Lk m nT pf) (Kk m nT pf) t d) 96))]
    refine v_istore (lv' := [(4, .int (nI (cntB (seenA nP pf cB (Lk m nT pf) (Kk m nT pf) t d) 96))), (0, .ref md), (1, .int (nI t)), (2, .int (nI d)), (3, .int (nI w))]) C dX10_factOf_21 hN (by decide) rfl ?_
    refine v_iload_n C dX10_factOf_23 rfl ?_
    refine v_if_ne (tgt := 32) C dX10_factOf_24 (by decide) (fun h24 => ?_) (fun h24 => ?_)
    · have g24 := nI_neN (b := 0) (by omega) (by decide) h24
      refine v_iload C dX10_factOf_32 rfl ?_
      refine v_if_ne (tgt := 42) C dX10_factOf_34 (by decide) (fun h34 => ?_) (fun h34 => ?_)
      · refine v_aload_n C dX10_factOf_42 rfl ?_
        refine v_get C kX10 hO 1 (by decide) wF_X10_7 rfl dX10_factOf_43 ?_
        refine v_bipush C dX10_factOf_46 (v := 11) rfl ?_
        refine v_iload_n C dX10_factOf_48 rfl ?_
        refine v_imul C dX10_factOf_49 ?_
        refine v_iload_n C dX10_factOf_50 rfl ?_
        refine v_iconst C dX10_factOf_51 (v := 1) rfl ?_
        refine v_icmp_ne (tgt := 59) C dX10_factOf_52 (by decide) (fun h52 => ?_) (fun h52 => ?_)
        · refine v_iconst C dX10_factOf_59 (v := 4) rfl ?_
          refine v_iadd C dX10_factOf_60 ?_
          rw [show ((11 * (nI t)) + 4 : Int32) = nI (11 * t + 4) from ix_ad (ix_mu rfl rfl) rfl]
          refine v_iald C h1_ (vp_in_nI (by omega) (by decide)) dX10_factOf_61 ?_
          rw [show fT (nI (11 * t + 4) : Int32).toNatClampNeg = nI (m t 4) from by rw [nI_clamp (by omega)]; exact cT t lt 4 (by omega)]
          exact v_iret C E dX10_factOf_62 (nle rfl) (nle rfl) ⟨by rw [factN, if_neg g24, if_neg (nI_neN (b := 1) (by omega) (by decide) h52), if_pos (show w = 2 by have := nI_neN (b := 1) (by omega) (by decide) h52; omega), if_pos (show 0 < cntB (seenA nP pf cB (Lk m nT pf) (Kk m nT pf) t d) 96 by have := nI_neN (b := 0) (by omega) (by decide) h34; omega)]; rfl, rfl⟩
        · refine v_iconst C dX10_factOf_55 (v := 5) rfl ?_
          refine v_goto (tgt := 60) C dX10_factOf_56 (by decide) ?_
          refine v_iadd C dX10_factOf_60 ?_
          rw [show ((11 * (nI t)) + 5 : Int32) = nI (11 * t + 5) from ix_ad (ix_mu rfl rfl) rfl]
          refine v_iald C h1_ (vp_in_nI (by omega) (by decide)) dX10_factOf_61 ?_
          rw [show fT (nI (11 * t + 5) : Int32).toNatClampNeg = nI (m t 5) from by rw [nI_clamp (by omega)]; exact cT t lt 5 (by omega)]
          exact v_iret C E dX10_factOf_62 (nle rfl) (nle rfl) ⟨by rw [factN, if_neg g24, if_pos (nI_eqN (b := 1) (by omega) (by decide) h52), if_pos (show 0 < cntB (seenA nP pf cB (Lk m nT pf) (Kk m nT pf) t d) 96 by have := nI_neN (b := 0) (by omega) (by decide) h34; omega)]; rfl, rfl⟩
      · refine v_bipush C dX10_factOf_37 (v := (-6)) rfl ?_
        refine v_goto (tgt := 62) C dX10_factOf_39 (by decide) ?_
        exact v_iret C E dX10_factOf_62 (nle rfl) (nle rfl) ⟨by rw [factN, if_neg g24, if_neg (show ¬ 0 < cntB (seenA nP pf cB (Lk m nT pf) (Kk m nT pf) t d) 96 by have := nI_eqN (b := 0) (by omega) (by decide) h34; omega), if_neg (show ¬ 0 < cntB (seenA nP pf cB (Lk m nT pf) (Kk m nT pf) t d) 96 by have := nI_eqN (b := 0) (by omega) (by decide) h34; omega)]; rcases (show w = 1 ∨ w = 2 by omega) with z | z <;> rw [z] <;> rfl, rfl⟩
    · refine v_iload C dX10_factOf_27 rfl ?_
      refine v_goto (tgt := 62) C dX10_factOf_29 (by decide) ?_
      exact v_iret C E dX10_factOf_62 (nle rfl) (nle rfl) ⟨by rw [nI_eqN (b := 0) (by omega) (by decide) h24]; rfl, rfl⟩
  · have g2 := nI_nleN (b := 2) (by omega) (by decide) h2
    refine v_aload_n C dX10_factOf_5 rfl ?_
    refine v_iload_n C dX10_factOf_6 rfl ?_
    refine v_iload_n C dX10_factOf_7 rfl ?_
    refine v_iconst C dX10_factOf_8 (v := 3) rfl ?_
    refine v_isub C dX10_factOf_9 ?_
    rw [show nI w - 3 = nI (w - 3) from pk_sub (a := w) (b := 3) (by omega)]
    show V X (rmD 6 0 0) M 0 0 [(0, .ref md), (1, .int (nI t)), (2, .int (nI d)), (3, .int (nI w))] 10 [.int (nI (w - 3)), .int (nI t), .ref md]
    refine v_iload_n C dX10_factOf_10 rfl ?_
    refine v_callV (As := [.int (nI t), .int (nI (w - 3)), .int (nI d)]) (rest := []) (b := md) C (c_X10_nearOf (xl X) (xg X) M md t1 t2 t3 t4 t5 t6 t7 t8 fT fD fP fC fS fU fX fF mo nT m dB nP pf cB nS sg ln tx fl hM t (w - 3) d lt (by omega) hd) pm_X10_nearOf wI_X10_nearOf wS_X10_nearOf wM_X10_97 kX10 hO ⟨by decide, by decide⟩ ⟨by decide, by decide⟩ (nle rfl) dX10_factOf_11 rfl (dt1 ?_)
    show V X (rmD 6 0 0) M 0 0 [(0, .ref md), (1, .int (nI t)), (2, .int (nI d)), (3, .int (nI w))] 14 [.int (oI (match nearD (nearA nP pf cB (Lk m nT pf) (Kk m nT pf) t d (w - 3)) (distN (m t)) 96 with | some b => some b | none => if gapA nP pf cB (m t) d 96 then none else some 99))]
    exact v_iret C E dX10_factOf_14 (nle rfl) (nle rfl) ⟨by rw [factN, if_neg (show ¬ w = 0 by omega), if_neg (show ¬ w = 1 by omega), if_neg (show ¬ w = 2 by omega)]; rfl, rfl⟩

set_option maxHeartbeats 4000000 in
set_option maxRecDepth 100000 in
theorem c_X10_fact (l : Launch) (g : Gm) (M : Mem) (md : Nat) (t1 t2 t3 t4 t5 t6 t7 t8 : Nat) (fT fD fP fC fS fU fX fF : Nat → Int32) (mo : Int32) (nT : Nat) (m : Nat → Nat → Nat) (dB : Nat → Nat → Bool) (nP : Nat) (pf : Nat → Nat → Nat) (cB : Nat → Nat → Bool) (nS : Nat) (sg : Nat → Int32) (ln : Nat → Nat) (tx : Nat → Nat → Int32) (fl : Nat → Nat → Nat) (hM : ModA g M md t1 t2 t3 t4 t5 t6 t7 t8 fT fD fP fC fS fU fX fF mo nT m dB nP pf cB nS sg ln tx fl) (t d w : Int32) : Ct l g yX10_fact cX10_fact 4 (some .int) 9 0 0 [.ref md, .int t, .int d, .int w] M (fun v N => v = some (.int (aFact nT m nP pf cB t d w)) ∧ N = M) := by
  refine Ct.of (by decide) (Nat.le_of_ble_eq_true rfl) ?_
  intro X hXl hXg hN C E
  subst hXl; subst hXg
  show V X (rmD 9 0 0) M 0 0 [(0, .ref md), (1, .int t), (2, .int d), (3, .int w)] 0 []
  obtain ⟨hO, h1_, h2_, h3_, h4_, h5_, h6_, h7_, h8_, bT, bP, bS, okT_, cT, cD, okP_, cP, cC, cS, cU, bU_, cX, okX, okF_, cF⟩ := id hM
  rcases idx_cases nT (by omega) t with ⟨i, lt, rfl, hx⟩ | ⟨hn, hx⟩
  · have hzi := trivial
    show V X (rmD 9 0 0) M 0 0 [(0, .ref md), (1, .int (nI i)), (2, .int d), (3, .int w)] 0 []
    refine v_aload_n C dX10_fact_0 rfl ?_
    refine v_iload_n C dX10_fact_1 rfl ?_
    refine v_callV (As := [.int (nI i)]) (rest := []) (b := md) C (c_X10_isThing (xl X) (xg X) M md t1 t2 t3 t4 t5 t6 t7 t8 fT fD fP fC fS fU fX fF mo nT m dB nP pf cB nS sg ln tx fl hM (nI i)) pm_X10_isThing wI_X10_isThing wS_X10_isThing wM_X10_50 kX10 hO ⟨by decide, by decide⟩ ⟨by decide, by decide⟩ (nle rfl) dX10_fact_2 rfl (dt1 ?_)
    show V X (rmD 9 0 0) M 0 0 [(0, .ref md), (1, .int (nI i)), (2, .int d), (3, .int w)] 5 [.int (bI ((idx nT (nI i)).isSome))]
    refine v_ifb_ne (tgt := 10) C dX10_fact_5 (by decide) (fun h5 => ?_) (fun hbad => absurd hbad (by rw [hx]; simp))
    refine v_iload_n C dX10_fact_10 rfl ?_
    refine v_callS (As := [.int d]) (rest := []) C (c_X10_isDay (xl X) (xg X) d M) pm_X10_isDay wT_X10_isDay wM_X10_46 ⟨by decide, by decide⟩ ⟨by decide, by decide⟩ (nle rfl) dX10_fact_11 rfl (dt1 ?_)
    show V X (rmD 9 0 0) M 0 0 [(0, .ref md), (1, .int (nI i)), (2, .int d), (3, .int w)] 14 [.int (bI (qin d 0 99))]
    refine v_ifb_eq (tgt := 37) C dX10_fact_14 (by decide) (fun h14 => ?_) (fun h14 => ?_)
    · refine v_bipush C dX10_fact_37 (v := (-2)) rfl ?_
      exact v_iret C E dX10_fact_39 (nle rfl) (nle rfl) ⟨by first | (simp [aFact, hx, h14, h24]; done) | (simp [aFact, hx, h14]; done), rfl⟩
    · refine v_iload_n C dX10_fact_17 rfl ?_
      refine v_iconst C dX10_fact_18 (v := 0) rfl ?_
      refine v_bipush C dX10_fact_19 (v := 8) rfl ?_
      refine v_callS (As := [.int w, .int 0, .int 8]) (rest := []) C (c_X10_in (xl X) (xg X) w 0 8 M) pm_X10_in wT_X10_in wM_X10_35 ⟨by decide, by decide⟩ ⟨by decide, by decide⟩ (nle rfl) dX10_fact_21 rfl (dt1 ?_)
      show V X (rmD 9 0 0) M 0 0 [(0, .ref md), (1, .int (nI i)), (2, .int d), (3, .int w)] 24 [.int (bI (qin w 0 8))]
      refine v_ifb_eq (tgt := 37) C dX10_fact_24 (by decide) (fun h24 => ?_) (fun h24 => ?_)
      · refine v_bipush C dX10_fact_37 (v := (-2)) rfl ?_
        exact v_iret C E dX10_fact_39 (nle rfl) (nle rfl) ⟨by first | (simp [aFact, hx, h14, h24]; done) | (simp [aFact, hx, h14]; done), rfl⟩
      · obtain ⟨e, hLe, hje, rfl⟩ := qin_nJ (x := d) (L := 0) (N := 99) (by decide) (by decide) h14
        obtain ⟨j, hLj, hjj, rfl⟩ := qin_nJ (x := w) (L := 0) (N := 8) (by decide) (by decide) h24
        show V X (rmD 9 0 0) M 0 0 [(0, .ref md), (1, .int (nI i)), (2, .int (nI e)), (3, .int (nI j))] 27 []
        refine v_aload_n C dX10_fact_27 rfl ?_
        refine v_iload_n C dX10_fact_28 rfl ?_
        refine v_iload_n C dX10_fact_29 rfl ?_
        refine v_iload_n C dX10_fact_30 rfl ?_
        refine v_callV (As := [.int (nI i), .int (nI e), .int (nI j)]) (rest := []) (b := md) C (c_X10_factOf (xl X) (xg X) M md t1 t2 t3 t4 t5 t6 t7 t8 fT fD fP fC fS fU fX fF mo nT m dB nP pf cB nS sg ln tx fl hM i e j (by omega) (by omega) (by omega)) pm_X10_factOf wI_X10_factOf wS_X10_factOf wM_X10_103 kX10 hO ⟨by decide, by decide⟩ ⟨by decide, by decide⟩ (nle rfl) dX10_fact_31 rfl (dt1 ?_)
        show V X (rmD 9 0 0) M 0 0 [(0, .ref md), (1, .int (nI i)), (2, .int (nI e)), (3, .int (nI j))] 34 [.int (oI (factN nP pf cB (Lk m nT pf) (Kk m nT pf) (m i) i e j))]
        refine v_goto (tgt := 39) C dX10_fact_34 (by decide) ?_
        exact v_iret C E dX10_fact_39 (nle rfl) (nle rfl) ⟨by simp [aFact, hx, h14, h24, nI_clamp (n := e) (by omega), nI_clamp (n := j) (by omega)], rfl⟩
  · have hzi := trivial
    show V X (rmD 9 0 0) M 0 0 [(0, .ref md), (1, .int t), (2, .int d), (3, .int w)] 0 []
    refine v_aload_n C dX10_fact_0 rfl ?_
    refine v_iload_n C dX10_fact_1 rfl ?_
    refine v_callV (As := [.int t]) (rest := []) (b := md) C (c_X10_isThing (xl X) (xg X) M md t1 t2 t3 t4 t5 t6 t7 t8 fT fD fP fC fS fU fX fF mo nT m dB nP pf cB nS sg ln tx fl hM t) pm_X10_isThing wI_X10_isThing wS_X10_isThing wM_X10_50 kX10 hO ⟨by decide, by decide⟩ ⟨by decide, by decide⟩ (nle rfl) dX10_fact_2 rfl (dt1 ?_)
    show V X (rmD 9 0 0) M 0 0 [(0, .ref md), (1, .int t), (2, .int d), (3, .int w)] 5 [.int (bI ((idx nT t).isSome))]
    refine v_ifb_ne (tgt := 10) C dX10_fact_5 (by decide) (fun hbad => absurd hbad (by rw [hx]; simp)) (fun h5 => ?_)
    refine v_iconst C dX10_fact_8 (v := (-1)) rfl ?_
    exact v_iret C E dX10_fact_9 (nle rfl) (nle rfl) ⟨by simp [aFact, hx], rfl⟩

theorem aut_s (sg : Nat → Int32) (k : Nat) : aut sg (k + 1) = stp (aut sg k) (sg k) := rfl
theorem faultN_le {sg : Nat → Int32} {n k : Nat} (h : faultN sg n = some k) : k ≤ n := by
  unfold faultN at h
  cases hf : fstB (fun i => decide (aut sg (i + 1) = 6)) n with
  | some j => rw [hf] at h; cases h; exact Nat.le_of_lt (fstB_lt hf)
  | none =>
    rw [hf] at h
    simp only at h
    split at h
    · cases h
    · cases h; exact Nat.le_refl _
set_option maxHeartbeats 4000000 in
set_option maxRecDepth 100000 in
theorem c_X10_faultOf (l : Launch) (g : Gm) (M : Mem) (md : Nat) (t1 t2 t3 t4 t5 t6 t7 t8 : Nat) (fT fD fP fC fS fU fX fF : Nat → Int32) (mo : Int32) (nT : Nat) (m : Nat → Nat → Nat) (dB : Nat → Nat → Bool) (nP : Nat) (pf : Nat → Nat → Nat) (cB : Nat → Nat → Bool) (nS : Nat) (sg : Nat → Int32) (ln : Nat → Nat) (tx : Nat → Nat → Int32) (fl : Nat → Nat → Nat) (hM : ModA g M md t1 t2 t3 t4 t5 t6 t7 t8 fT fD fP fC fS fU fX fF mo nT m dB nP pf cB nS sg ln tx fl)  : Ct l g yX10_faultOf cX10_faultOf 6 (some .int) 4 0 0 [.ref md] M (fun v N => v = some (.int (oI (faultN sg nS))) ∧ N = M) := by
  refine Ct.of (by decide) (Nat.le_of_ble_eq_true rfl) ?_
  intro X hXl hXg hN C E
  subst hXl; subst hXg
  show V X (rmD 4 0 0) M 0 0 [(0, .ref md)] 0 []
  obtain ⟨hO, h1_, h2_, h3_, h4_, h5_, h6_, h7_, h8_, bT, bP, bS, okT_, cT, cD, okP_, cP, cC, cS, cU, bU_, cX, okX, okF_, cF⟩ := id hM
  refine v_iconst C dX10_faultOf_0 (v := 0) rfl ?_
  refine v_istore_n (lv' := [(1, .int 0), (0, .ref md)]) C dX10_faultOf_1 hN (by decide) rfl ?_
  refine v_iconst C dX10_faultOf_2 (v := 0) rfl ?_
  refine v_istore_n (lv' := [(2, .int 0), (1, .int 0), (0, .ref md)]) C dX10_faultOf_3 hN (by decide) rfl ?_
  refine v_sub (lv' := [(0, .ref md), (1, .int 0), (2, .int 0)]) [2, 1, 0] rfl ?_
  have lp4 : ∀ (mm : Nat) (k : Nat) (h1 : k ≤ nS) (h2 : fstB (fun i => decide (aut sg (i + 1) = 6)) k = none) (h3 : aut sg k < 6), nS - k < mm → V X (rmD 4 0 0) M 0 0 [(0, .ref md), (1, .int (nI (aut sg k))), (2, .int (nI k))] 4 [] := by
    intro mm
    induction mm with
    | zero => intro k h1 h2 h3 hmu; exact absurd hmu (Nat.not_lt_zero _)
    | succ mm ih4 =>
      intro k h1 h2 h3 hmu
      refine v_iload_n C dX10_faultOf_4 rfl ?_
      refine v_aload_n C dX10_faultOf_5 rfl ?_
      refine v_get C kX10 hO 6 (by decide) wF_X10_80 rfl dX10_faultOf_6 ?_
      refine v_icmp_ge (tgt := 199) C dX10_faultOf_9 (by decide) (fun h9 => ?_) (fun h9 => ?_)
      · have g9 : k = nS := Nat.le_antisymm h1 (nI_leN (by omega) (by omega) h9)
        refine v_iload_n C dX10_faultOf_199 rfl ?_
        refine v_iconst C dX10_faultOf_200 (v := 3) rfl ?_
        refine v_icmp_le (tgt := 209) C dX10_faultOf_201 (by decide) (fun h201 => ?_) (fun h201 => ?_)
        · refine v_aload_n C dX10_faultOf_209 rfl ?_
          refine v_get C kX10 hO 6 (by decide) wF_X10_80 rfl dX10_faultOf_210 ?_
          exact v_iret C E dX10_faultOf_213 (nle rfl) (nle rfl) ⟨by rw [faultN, ← g9, h2]; simp only; rw [if_neg (show ¬ (aut sg k = 4 ∨ aut sg k = 5) by have := nI_leN (b := 3) (by omega) (by decide) h201; omega)]; rfl, rfl⟩
        · refine v_bipush C dX10_faultOf_204 (v := (-6)) rfl ?_
          refine v_goto (tgt := 213) C dX10_faultOf_206 (by decide) ?_
          exact v_iret C E dX10_faultOf_213 (nle rfl) (nle rfl) ⟨by rw [faultN, ← g9, h2]; simp only; rw [if_pos (show aut sg k = 4 ∨ aut sg k = 5 by have := nI_nleN (b := 3) (by omega) (by decide) h201; omega)]; rfl, rfl⟩
      · have g9 := nI_nleN (by omega) (by omega) h9
        refine v_aload_n C dX10_faultOf_12 rfl ?_
        refine v_get C kX10 hO 7 (by decide) wF_X10_23 rfl dX10_faultOf_13 ?_
        refine v_iload_n C dX10_faultOf_16 rfl ?_
        refine v_iald C h5_ (vp_in_nI (by omega) (by decide)) dX10_faultOf_17 ?_
        rw [show fS (nI k : Int32).toNatClampNeg = sg k from by rw [nI_clamp (by omega)]; exact cS k (by omega)]
        refine v_istore_n (lv' := [(3, .int (sg k)), (0, .ref md), (1, .int (nI (aut sg k))), (2, .int (nI k))]) C dX10_faultOf_18 hN (by decide) rfl ?_
        refine v_bipush C dX10_faultOf_19 (v := (-6)) rfl ?_
        refine v_istore (lv' := [(4, .int ((-6))), (3, .int (sg k)), (0, .ref md), (1, .int (nI (aut sg k))), (2, .int (nI k))]) C dX10_faultOf_21 hN (by decide) rfl ?_
        rcases (show aut sg k = 0 ∨ aut sg k = 1 ∨ aut sg k = 2 ∨ aut sg k = 3 ∨ aut sg k = 4 ∨ aut sg k = 5 by omega) with hst | hst | hst | hst | hst | hst
        · rw [show nI (aut sg k) = 0 from by rw [hst]; rfl]
          show V X (rmD 4 0 0) M 0 0 [(4, .int ((-6))), (3, .int (sg k)), (0, .ref md), (1, .int 0), (2, .int (nI k))] 23 []
          refine v_iload_n C dX10_faultOf_23 rfl ?_
          refine v_bipush C dX10_faultOf_24 (v := 38) rfl ?_
          refine v_icmp_eq (tgt := 35) C dX10_faultOf_26 (by decide) (fun h26 => ?_) (fun h26 => ?_)
          · refine v_iconst C dX10_faultOf_35 (v := 1) rfl ?_
            refine v_goto (tgt := 40) C dX10_faultOf_36 (by decide) ?_
            refine v_istore (lv' := [(5, .int 1), (4, .int ((-6))), (3, .int (sg k)), (0, .ref md), (1, .int 0), (2, .int (nI k))]) C dX10_faultOf_40 hN (by decide) rfl ?_
            refine v_iload_n C dX10_faultOf_42 rfl ?_
            refine v_if_ne (tgt := 85) C dX10_faultOf_43 (by decide) (fun hbad => absurd hbad (by decide)) (fun h43 => ?_)
            refine v_iload_n C dX10_faultOf_46 rfl ?_
            refine v_bipush C dX10_faultOf_47 (v := 115) rfl ?_
            refine v_icmp_eq (tgt := 64) C dX10_faultOf_49 (by decide) (fun h49 => ?_) (fun h49 => ?_)
            · refine v_iconst C dX10_faultOf_64 (v := 2) rfl ?_
              refine v_goto (tgt := 80) C dX10_faultOf_65 (by decide) ?_
              refine v_istore (lv' := [(4, .int 2), (5, .int 1), (3, .int (sg k)), (0, .ref md), (1, .int 0), (2, .int (nI k))]) C dX10_faultOf_80 hN (by decide) rfl ?_
              refine v_goto (tgt := 183) C dX10_faultOf_82 (by decide) ?_
              have hnx : aut sg (k + 1) = 2 := by rw [aut_s, hst]; simp [stp, h49, show qin (38 : Int32) 48 57 = false from by decide, show qin (124 : Int32) 48 57 = false from by decide]
              refine v_iload C dX10_faultOf_183 rfl ?_
              refine v_if_ge (tgt := 190) C dX10_faultOf_185 (by decide) (fun h185 => ?_) (fun hbad => absurd hbad (by decide))
              refine v_iload C dX10_faultOf_190 rfl ?_
              refine v_istore_n (lv' := [(1, .int 2), (4, .int 2), (5, .int 1), (3, .int (sg k)), (0, .ref md), (2, .int (nI k))]) C dX10_faultOf_192 hN (by decide) rfl ?_
              refine v_iinc (lv' := [(2, .int (nI (k + 1))), (1, .int 2), (4, .int 2), (5, .int 1), (3, .int (sg k)), (0, .ref md)]) C dX10_faultOf_193 5 rfl (nI_1 _) hN (by decide) rfl ?_
              refine v_goto (tgt := 4) C dX10_faultOf_196 (by decide) ?_
              refine v_sub (lv' := [(0, .ref md), (1, .int 2), (2, .int (nI (k + 1)))]) [5, 1, 0] rfl ?_
              have e0 := ih4 (k + 1) (by omega) (fstB_step h2 (decide_eq_false (by omega))) (by omega) (by omega)
              rw [hnx] at e0
              exact e0
            · refine v_iload_n C dX10_faultOf_52 rfl ?_
              refine v_bipush C dX10_faultOf_53 (v := 107) rfl ?_
              refine v_icmp_eq (tgt := 64) C dX10_faultOf_55 (by decide) (fun h55 => ?_) (fun h55 => ?_)
              · refine v_iconst C dX10_faultOf_64 (v := 2) rfl ?_
                refine v_goto (tgt := 80) C dX10_faultOf_65 (by decide) ?_
                refine v_istore (lv' := [(4, .int 2), (5, .int 1), (3, .int (sg k)), (0, .ref md), (1, .int 0), (2, .int (nI k))]) C dX10_faultOf_80 hN (by decide) rfl ?_
                refine v_goto (tgt := 183) C dX10_faultOf_82 (by decide) ?_
                have hnx : aut sg (k + 1) = 2 := by rw [aut_s, hst]; simp [stp, h49, h55, show qin (38 : Int32) 48 57 = false from by decide, show qin (124 : Int32) 48 57 = false from by decide]
                refine v_iload C dX10_faultOf_183 rfl ?_
                refine v_if_ge (tgt := 190) C dX10_faultOf_185 (by decide) (fun h185 => ?_) (fun hbad => absurd hbad (by decide))
                refine v_iload C dX10_faultOf_190 rfl ?_
                refine v_istore_n (lv' := [(1, .int 2), (4, .int 2), (5, .int 1), (3, .int (sg k)), (0, .ref md), (2, .int (nI k))]) C dX10_faultOf_192 hN (by decide) rfl ?_
                refine v_iinc (lv' := [(2, .int (nI (k + 1))), (1, .int 2), (4, .int 2), (5, .int 1), (3, .int (sg k)), (0, .ref md)]) C dX10_faultOf_193 5 rfl (nI_1 _) hN (by decide) rfl ?_
                refine v_goto (tgt := 4) C dX10_faultOf_196 (by decide) ?_
                refine v_sub (lv' := [(0, .ref md), (1, .int 2), (2, .int (nI (k + 1)))]) [5, 1, 0] rfl ?_
                have e0 := ih4 (k + 1) (by omega) (fstB_step h2 (decide_eq_false (by omega))) (by omega) (by omega)
                rw [hnx] at e0
                exact e0
              · refine v_iload_n C dX10_faultOf_58 rfl ?_
                refine v_bipush C dX10_faultOf_59 (v := 104) rfl ?_
                refine v_icmp_ne (tgt := 68) C dX10_faultOf_61 (by decide) (fun h61 => ?_) (fun h61 => ?_)
                · refine v_iload_n C dX10_faultOf_68 rfl ?_
                  refine v_bipush C dX10_faultOf_69 (v := 110) rfl ?_
                  refine v_icmp_ne (tgt := 78) C dX10_faultOf_71 (by decide) (fun h71 => ?_) (fun h71 => ?_)
                  · refine v_bipush C dX10_faultOf_78 (v := (-6)) rfl ?_
                    refine v_istore (lv' := [(4, .int ((-6))), (5, .int 1), (3, .int (sg k)), (0, .ref md), (1, .int 0), (2, .int (nI k))]) C dX10_faultOf_80 hN (by decide) rfl ?_
                    refine v_goto (tgt := 183) C dX10_faultOf_82 (by decide) ?_
                    have hnx : aut sg (k + 1) = 6 := by rw [aut_s, hst]; simp [stp, h49, h55, h61, h71, show qin (38 : Int32) 48 57 = false from by decide, show qin (124 : Int32) 48 57 = false from by decide]
                    refine v_iload C dX10_faultOf_183 rfl ?_
                    refine v_if_ge (tgt := 190) C dX10_faultOf_185 (by decide) (fun hbad => absurd hbad (by decide)) (fun h185 => ?_)
                    refine v_iload_n C dX10_faultOf_188 rfl ?_
                    exact v_iret C E dX10_faultOf_189 (nle rfl) (nle rfl) ⟨by rw [faultN, fstB_hit h2 (decide_eq_true hnx) g9]; rfl, rfl⟩
                  · refine v_iconst C dX10_faultOf_74 (v := 1) rfl ?_
                    refine v_goto (tgt := 80) C dX10_faultOf_75 (by decide) ?_
                    refine v_istore (lv' := [(4, .int 1), (5, .int 1), (3, .int (sg k)), (0, .ref md), (1, .int 0), (2, .int (nI k))]) C dX10_faultOf_80 hN (by decide) rfl ?_
                    refine v_goto (tgt := 183) C dX10_faultOf_82 (by decide) ?_
                    have hnx : aut sg (k + 1) = 1 := by rw [aut_s, hst]; simp [stp, h49, h55, h61, h71, show qin (38 : Int32) 48 57 = false from by decide, show qin (124 : Int32) 48 57 = false from by decide]
                    refine v_iload C dX10_faultOf_183 rfl ?_
                    refine v_if_ge (tgt := 190) C dX10_faultOf_185 (by decide) (fun h185 => ?_) (fun hbad => absurd hbad (by decide))
                    refine v_iload C dX10_faultOf_190 rfl ?_
                    refine v_istore_n (lv' := [(1, .int 1), (4, .int 1), (5, .int 1), (3, .int (sg k)), (0, .ref md), (2, .int (nI k))]) C dX10_faultOf_192 hN (by decide) rfl ?_
                    refine v_iinc (lv' := [(2, .int (nI (k + 1))), (1, .int 1), (4, .int 1), (5, .int 1), (3, .int (sg k)), (0, .ref md)]) C dX10_faultOf_193 5 rfl (nI_1 _) hN (by decide) rfl ?_
                    refine v_goto (tgt := 4) C dX10_faultOf_196 (by decide) ?_
                    refine v_sub (lv' := [(0, .ref md), (1, .int 1), (2, .int (nI (k + 1)))]) [5, 1, 0] rfl ?_
                    have e0 := ih4 (k + 1) (by omega) (fstB_step h2 (decide_eq_false (by omega))) (by omega) (by omega)
                    rw [hnx] at e0
                    exact e0
                · refine v_iconst C dX10_faultOf_64 (v := 2) rfl ?_
                  refine v_goto (tgt := 80) C dX10_faultOf_65 (by decide) ?_
                  refine v_istore (lv' := [(4, .int 2), (5, .int 1), (3, .int (sg k)), (0, .ref md), (1, .int 0), (2, .int (nI k))]) C dX10_faultOf_80 hN (by decide) rfl ?_
                  refine v_goto (tgt := 183) C dX10_faultOf_82 (by decide) ?_
                  have hnx : aut sg (k + 1) = 2 := by rw [aut_s, hst]; simp [stp, h49, h55, h61, show qin (38 : Int32) 48 57 = false from by decide, show qin (124 : Int32) 48 57 = false from by decide]
                  refine v_iload C dX10_faultOf_183 rfl ?_
                  refine v_if_ge (tgt := 190) C dX10_faultOf_185 (by decide) (fun h185 => ?_) (fun hbad => absurd hbad (by decide))
                  refine v_iload C dX10_faultOf_190 rfl ?_
                  refine v_istore_n (lv' := [(1, .int 2), (4, .int 2), (5, .int 1), (3, .int (sg k)), (0, .ref md), (2, .int (nI k))]) C dX10_faultOf_192 hN (by decide) rfl ?_
                  refine v_iinc (lv' := [(2, .int (nI (k + 1))), (1, .int 2), (4, .int 2), (5, .int 1), (3, .int (sg k)), (0, .ref md)]) C dX10_faultOf_193 5 rfl (nI_1 _) hN (by decide) rfl ?_
                  refine v_goto (tgt := 4) C dX10_faultOf_196 (by decide) ?_
                  refine v_sub (lv' := [(0, .ref md), (1, .int 2), (2, .int (nI (k + 1)))]) [5, 1, 0] rfl ?_
                  have e0 := ih4 (k + 1) (by omega) (fstB_step h2 (decide_eq_false (by omega))) (by omega) (by omega)
                  rw [hnx] at e0
                  exact e0
          · refine v_iload_n C dX10_faultOf_29 rfl ?_
            refine v_bipush C dX10_faultOf_30 (v := 124) rfl ?_
            refine v_icmp_ne (tgt := 39) C dX10_faultOf_32 (by decide) (fun h32 => ?_) (fun h32 => ?_)
            · refine v_iconst C dX10_faultOf_39 (v := 0) rfl ?_
              refine v_istore (lv' := [(5, .int 0), (4, .int ((-6))), (3, .int (sg k)), (0, .ref md), (1, .int 0), (2, .int (nI k))]) C dX10_faultOf_40 hN (by decide) rfl ?_
              refine v_iload_n C dX10_faultOf_42 rfl ?_
              refine v_if_ne (tgt := 85) C dX10_faultOf_43 (by decide) (fun hbad => absurd hbad (by decide)) (fun h43 => ?_)
              refine v_iload_n C dX10_faultOf_46 rfl ?_
              refine v_bipush C dX10_faultOf_47 (v := 115) rfl ?_
              refine v_icmp_eq (tgt := 64) C dX10_faultOf_49 (by decide) (fun h49 => ?_) (fun h49 => ?_)
              · refine v_iconst C dX10_faultOf_64 (v := 2) rfl ?_
                refine v_goto (tgt := 80) C dX10_faultOf_65 (by decide) ?_
                refine v_istore (lv' := [(4, .int 2), (5, .int 0), (3, .int (sg k)), (0, .ref md), (1, .int 0), (2, .int (nI k))]) C dX10_faultOf_80 hN (by decide) rfl ?_
                refine v_goto (tgt := 183) C dX10_faultOf_82 (by decide) ?_
                have hnx : aut sg (k + 1) = 2 := by rw [aut_s, hst]; simp [stp, h49, show qin (38 : Int32) 48 57 = false from by decide, show qin (124 : Int32) 48 57 = false from by decide]
                refine v_iload C dX10_faultOf_183 rfl ?_
                refine v_if_ge (tgt := 190) C dX10_faultOf_185 (by decide) (fun h185 => ?_) (fun hbad => absurd hbad (by decide))
                refine v_iload C dX10_faultOf_190 rfl ?_
                refine v_istore_n (lv' := [(1, .int 2), (4, .int 2), (5, .int 0), (3, .int (sg k)), (0, .ref md), (2, .int (nI k))]) C dX10_faultOf_192 hN (by decide) rfl ?_
                refine v_iinc (lv' := [(2, .int (nI (k + 1))), (1, .int 2), (4, .int 2), (5, .int 0), (3, .int (sg k)), (0, .ref md)]) C dX10_faultOf_193 5 rfl (nI_1 _) hN (by decide) rfl ?_
                refine v_goto (tgt := 4) C dX10_faultOf_196 (by decide) ?_
                refine v_sub (lv' := [(0, .ref md), (1, .int 2), (2, .int (nI (k + 1)))]) [5, 1, 0] rfl ?_
                have e0 := ih4 (k + 1) (by omega) (fstB_step h2 (decide_eq_false (by omega))) (by omega) (by omega)
                rw [hnx] at e0
                exact e0
              · refine v_iload_n C dX10_faultOf_52 rfl ?_
                refine v_bipush C dX10_faultOf_53 (v := 107) rfl ?_
                refine v_icmp_eq (tgt := 64) C dX10_faultOf_55 (by decide) (fun h55 => ?_) (fun h55 => ?_)
                · refine v_iconst C dX10_faultOf_64 (v := 2) rfl ?_
                  refine v_goto (tgt := 80) C dX10_faultOf_65 (by decide) ?_
                  refine v_istore (lv' := [(4, .int 2), (5, .int 0), (3, .int (sg k)), (0, .ref md), (1, .int 0), (2, .int (nI k))]) C dX10_faultOf_80 hN (by decide) rfl ?_
                  refine v_goto (tgt := 183) C dX10_faultOf_82 (by decide) ?_
                  have hnx : aut sg (k + 1) = 2 := by rw [aut_s, hst]; simp [stp, h49, h55, show qin (38 : Int32) 48 57 = false from by decide, show qin (124 : Int32) 48 57 = false from by decide]
                  refine v_iload C dX10_faultOf_183 rfl ?_
                  refine v_if_ge (tgt := 190) C dX10_faultOf_185 (by decide) (fun h185 => ?_) (fun hbad => absurd hbad (by decide))
                  refine v_iload C dX10_faultOf_190 rfl ?_
                  refine v_istore_n (lv' := [(1, .int 2), (4, .int 2), (5, .int 0), (3, .int (sg k)), (0, .ref md), (2, .int (nI k))]) C dX10_faultOf_192 hN (by decide) rfl ?_
                  refine v_iinc (lv' := [(2, .int (nI (k + 1))), (1, .int 2), (4, .int 2), (5, .int 0), (3, .int (sg k)), (0, .ref md)]) C dX10_faultOf_193 5 rfl (nI_1 _) hN (by decide) rfl ?_
                  refine v_goto (tgt := 4) C dX10_faultOf_196 (by decide) ?_
                  refine v_sub (lv' := [(0, .ref md), (1, .int 2), (2, .int (nI (k + 1)))]) [5, 1, 0] rfl ?_
                  have e0 := ih4 (k + 1) (by omega) (fstB_step h2 (decide_eq_false (by omega))) (by omega) (by omega)
                  rw [hnx] at e0
                  exact e0
                · refine v_iload_n C dX10_faultOf_58 rfl ?_
                  refine v_bipush C dX10_faultOf_59 (v := 104) rfl ?_
                  refine v_icmp_ne (tgt := 68) C dX10_faultOf_61 (by decide) (fun h61 => ?_) (fun h61 => ?_)
                  · refine v_iload_n C dX10_faultOf_68 rfl ?_
                    refine v_bipush C dX10_faultOf_69 (v := 110) rfl ?_
                    refine v_icmp_ne (tgt := 78) C dX10_faultOf_71 (by decide) (fun h71 => ?_) (fun h71 => ?_)
                    · refine v_bipush C dX10_faultOf_78 (v := (-6)) rfl ?_
                      refine v_istore (lv' := [(4, .int ((-6))), (5, .int 0), (3, .int (sg k)), (0, .ref md), (1, .int 0), (2, .int (nI k))]) C dX10_faultOf_80 hN (by decide) rfl ?_
                      refine v_goto (tgt := 183) C dX10_faultOf_82 (by decide) ?_
                      have hnx : aut sg (k + 1) = 6 := by rw [aut_s, hst]; simp [stp, h49, h55, h61, h71, show qin (38 : Int32) 48 57 = false from by decide, show qin (124 : Int32) 48 57 = false from by decide]
                      refine v_iload C dX10_faultOf_183 rfl ?_
                      refine v_if_ge (tgt := 190) C dX10_faultOf_185 (by decide) (fun hbad => absurd hbad (by decide)) (fun h185 => ?_)
                      refine v_iload_n C dX10_faultOf_188 rfl ?_
                      exact v_iret C E dX10_faultOf_189 (nle rfl) (nle rfl) ⟨by rw [faultN, fstB_hit h2 (decide_eq_true hnx) g9]; rfl, rfl⟩
                    · refine v_iconst C dX10_faultOf_74 (v := 1) rfl ?_
                      refine v_goto (tgt := 80) C dX10_faultOf_75 (by decide) ?_
                      refine v_istore (lv' := [(4, .int 1), (5, .int 0), (3, .int (sg k)), (0, .ref md), (1, .int 0), (2, .int (nI k))]) C dX10_faultOf_80 hN (by decide) rfl ?_
                      refine v_goto (tgt := 183) C dX10_faultOf_82 (by decide) ?_
                      have hnx : aut sg (k + 1) = 1 := by rw [aut_s, hst]; simp [stp, h49, h55, h61, h71, show qin (38 : Int32) 48 57 = false from by decide, show qin (124 : Int32) 48 57 = false from by decide]
                      refine v_iload C dX10_faultOf_183 rfl ?_
                      refine v_if_ge (tgt := 190) C dX10_faultOf_185 (by decide) (fun h185 => ?_) (fun hbad => absurd hbad (by decide))
                      refine v_iload C dX10_faultOf_190 rfl ?_
                      refine v_istore_n (lv' := [(1, .int 1), (4, .int 1), (5, .int 0), (3, .int (sg k)), (0, .ref md), (2, .int (nI k))]) C dX10_faultOf_192 hN (by decide) rfl ?_
                      refine v_iinc (lv' := [(2, .int (nI (k + 1))), (1, .int 1), (4, .int 1), (5, .int 0), (3, .int (sg k)), (0, .ref md)]) C dX10_faultOf_193 5 rfl (nI_1 _) hN (by decide) rfl ?_
                      refine v_goto (tgt := 4) C dX10_faultOf_196 (by decide) ?_
                      refine v_sub (lv' := [(0, .ref md), (1, .int 1), (2, .int (nI (k + 1)))]) [5, 1, 0] rfl ?_
                      have e0 := ih4 (k + 1) (by omega) (fstB_step h2 (decide_eq_false (by omega))) (by omega) (by omega)
                      rw [hnx] at e0
                      exact e0
                  · refine v_iconst C dX10_faultOf_64 (v := 2) rfl ?_
                    refine v_goto (tgt := 80) C dX10_faultOf_65 (by decide) ?_
                    refine v_istore (lv' := [(4, .int 2), (5, .int 0), (3, .int (sg k)), (0, .ref md), (1, .int 0), (2, .int (nI k))]) C dX10_faultOf_80 hN (by decide) rfl ?_
                    refine v_goto (tgt := 183) C dX10_faultOf_82 (by decide) ?_
                    have hnx : aut sg (k + 1) = 2 := by rw [aut_s, hst]; simp [stp, h49, h55, h61, show qin (38 : Int32) 48 57 = false from by decide, show qin (124 : Int32) 48 57 = false from by decide]
                    refine v_iload C dX10_faultOf_183 rfl ?_
                    refine v_if_ge (tgt := 190) C dX10_faultOf_185 (by decide) (fun h185 => ?_) (fun hbad => absurd hbad (by decide))
                    refine v_iload C dX10_faultOf_190 rfl ?_
                    refine v_istore_n (lv' := [(1, .int 2), (4, .int 2), (5, .int 0), (3, .int (sg k)), (0, .ref md), (2, .int (nI k))]) C dX10_faultOf_192 hN (by decide) rfl ?_
                    refine v_iinc (lv' := [(2, .int (nI (k + 1))), (1, .int 2), (4, .int 2), (5, .int 0), (3, .int (sg k)), (0, .ref md)]) C dX10_faultOf_193 5 rfl (nI_1 _) hN (by decide) rfl ?_
                    refine v_goto (tgt := 4) C dX10_faultOf_196 (by decide) ?_
                    refine v_sub (lv' := [(0, .ref md), (1, .int 2), (2, .int (nI (k + 1)))]) [5, 1, 0] rfl ?_
                    have e0 := ih4 (k + 1) (by omega) (fstB_step h2 (decide_eq_false (by omega))) (by omega) (by omega)
                    rw [hnx] at e0
                    exact e0
            · refine v_iconst C dX10_faultOf_35 (v := 1) rfl ?_
              refine v_goto (tgt := 40) C dX10_faultOf_36 (by decide) ?_
              refine v_istore (lv' := [(5, .int 1), (4, .int ((-6))), (3, .int (sg k)), (0, .ref md), (1, .int 0), (2, .int (nI k))]) C dX10_faultOf_40 hN (by decide) rfl ?_
              refine v_iload_n C dX10_faultOf_42 rfl ?_
              refine v_if_ne (tgt := 85) C dX10_faultOf_43 (by decide) (fun hbad => absurd hbad (by decide)) (fun h43 => ?_)
              refine v_iload_n C dX10_faultOf_46 rfl ?_
              refine v_bipush C dX10_faultOf_47 (v := 115) rfl ?_
              refine v_icmp_eq (tgt := 64) C dX10_faultOf_49 (by decide) (fun h49 => ?_) (fun h49 => ?_)
              · refine v_iconst C dX10_faultOf_64 (v := 2) rfl ?_
                refine v_goto (tgt := 80) C dX10_faultOf_65 (by decide) ?_
                refine v_istore (lv' := [(4, .int 2), (5, .int 1), (3, .int (sg k)), (0, .ref md), (1, .int 0), (2, .int (nI k))]) C dX10_faultOf_80 hN (by decide) rfl ?_
                refine v_goto (tgt := 183) C dX10_faultOf_82 (by decide) ?_
                have hnx : aut sg (k + 1) = 2 := by rw [aut_s, hst]; simp [stp, h49, show qin (38 : Int32) 48 57 = false from by decide, show qin (124 : Int32) 48 57 = false from by decide]
                refine v_iload C dX10_faultOf_183 rfl ?_
                refine v_if_ge (tgt := 190) C dX10_faultOf_185 (by decide) (fun h185 => ?_) (fun hbad => absurd hbad (by decide))
                refine v_iload C dX10_faultOf_190 rfl ?_
                refine v_istore_n (lv' := [(1, .int 2), (4, .int 2), (5, .int 1), (3, .int (sg k)), (0, .ref md), (2, .int (nI k))]) C dX10_faultOf_192 hN (by decide) rfl ?_
                refine v_iinc (lv' := [(2, .int (nI (k + 1))), (1, .int 2), (4, .int 2), (5, .int 1), (3, .int (sg k)), (0, .ref md)]) C dX10_faultOf_193 5 rfl (nI_1 _) hN (by decide) rfl ?_
                refine v_goto (tgt := 4) C dX10_faultOf_196 (by decide) ?_
                refine v_sub (lv' := [(0, .ref md), (1, .int 2), (2, .int (nI (k + 1)))]) [5, 1, 0] rfl ?_
                have e0 := ih4 (k + 1) (by omega) (fstB_step h2 (decide_eq_false (by omega))) (by omega) (by omega)
                rw [hnx] at e0
                exact e0
              · refine v_iload_n C dX10_faultOf_52 rfl ?_
                refine v_bipush C dX10_faultOf_53 (v := 107) rfl ?_
                refine v_icmp_eq (tgt := 64) C dX10_faultOf_55 (by decide) (fun h55 => ?_) (fun h55 => ?_)
                · refine v_iconst C dX10_faultOf_64 (v := 2) rfl ?_
                  refine v_goto (tgt := 80) C dX10_faultOf_65 (by decide) ?_
                  refine v_istore (lv' := [(4, .int 2), (5, .int 1), (3, .int (sg k)), (0, .ref md), (1, .int 0), (2, .int (nI k))]) C dX10_faultOf_80 hN (by decide) rfl ?_
                  refine v_goto (tgt := 183) C dX10_faultOf_82 (by decide) ?_
                  have hnx : aut sg (k + 1) = 2 := by rw [aut_s, hst]; simp [stp, h49, h55, show qin (38 : Int32) 48 57 = false from by decide, show qin (124 : Int32) 48 57 = false from by decide]
                  refine v_iload C dX10_faultOf_183 rfl ?_
                  refine v_if_ge (tgt := 190) C dX10_faultOf_185 (by decide) (fun h185 => ?_) (fun hbad => absurd hbad (by decide))
                  refine v_iload C dX10_faultOf_190 rfl ?_
                  refine v_istore_n (lv' := [(1, .int 2), (4, .int 2), (5, .int 1), (3, .int (sg k)), (0, .ref md), (2, .int (nI k))]) C dX10_faultOf_192 hN (by decide) rfl ?_
                  refine v_iinc (lv' := [(2, .int (nI (k + 1))), (1, .int 2), (4, .int 2), (5, .int 1), (3, .int (sg k)), (0, .ref md)]) C dX10_faultOf_193 5 rfl (nI_1 _) hN (by decide) rfl ?_
                  refine v_goto (tgt := 4) C dX10_faultOf_196 (by decide) ?_
                  refine v_sub (lv' := [(0, .ref md), (1, .int 2), (2, .int (nI (k + 1)))]) [5, 1, 0] rfl ?_
                  have e0 := ih4 (k + 1) (by omega) (fstB_step h2 (decide_eq_false (by omega))) (by omega) (by omega)
                  rw [hnx] at e0
                  exact e0
                · refine v_iload_n C dX10_faultOf_58 rfl ?_
                  refine v_bipush C dX10_faultOf_59 (v := 104) rfl ?_
                  refine v_icmp_ne (tgt := 68) C dX10_faultOf_61 (by decide) (fun h61 => ?_) (fun h61 => ?_)
                  · refine v_iload_n C dX10_faultOf_68 rfl ?_
                    refine v_bipush C dX10_faultOf_69 (v := 110) rfl ?_
                    refine v_icmp_ne (tgt := 78) C dX10_faultOf_71 (by decide) (fun h71 => ?_) (fun h71 => ?_)
                    · refine v_bipush C dX10_faultOf_78 (v := (-6)) rfl ?_
                      refine v_istore (lv' := [(4, .int ((-6))), (5, .int 1), (3, .int (sg k)), (0, .ref md), (1, .int 0), (2, .int (nI k))]) C dX10_faultOf_80 hN (by decide) rfl ?_
                      refine v_goto (tgt := 183) C dX10_faultOf_82 (by decide) ?_
                      have hnx : aut sg (k + 1) = 6 := by rw [aut_s, hst]; simp [stp, h49, h55, h61, h71, show qin (38 : Int32) 48 57 = false from by decide, show qin (124 : Int32) 48 57 = false from by decide]
                      refine v_iload C dX10_faultOf_183 rfl ?_
                      refine v_if_ge (tgt := 190) C dX10_faultOf_185 (by decide) (fun hbad => absurd hbad (by decide)) (fun h185 => ?_)
                      refine v_iload_n C dX10_faultOf_188 rfl ?_
                      exact v_iret C E dX10_faultOf_189 (nle rfl) (nle rfl) ⟨by rw [faultN, fstB_hit h2 (decide_eq_true hnx) g9]; rfl, rfl⟩
                    · refine v_iconst C dX10_faultOf_74 (v := 1) rfl ?_
                      refine v_goto (tgt := 80) C dX10_faultOf_75 (by decide) ?_
                      refine v_istore (lv' := [(4, .int 1), (5, .int 1), (3, .int (sg k)), (0, .ref md), (1, .int 0), (2, .int (nI k))]) C dX10_faultOf_80 hN (by decide) rfl ?_
                      refine v_goto (tgt := 183) C dX10_faultOf_82 (by decide) ?_
                      have hnx : aut sg (k + 1) = 1 := by rw [aut_s, hst]; simp [stp, h49, h55, h61, h71, show qin (38 : Int32) 48 57 = false from by decide, show qin (124 : Int32) 48 57 = false from by decide]
                      refine v_iload C dX10_faultOf_183 rfl ?_
                      refine v_if_ge (tgt := 190) C dX10_faultOf_185 (by decide) (fun h185 => ?_) (fun hbad => absurd hbad (by decide))
                      refine v_iload C dX10_faultOf_190 rfl ?_
                      refine v_istore_n (lv' := [(1, .int 1), (4, .int 1), (5, .int 1), (3, .int (sg k)), (0, .ref md), (2, .int (nI k))]) C dX10_faultOf_192 hN (by decide) rfl ?_
                      refine v_iinc (lv' := [(2, .int (nI (k + 1))), (1, .int 1), (4, .int 1), (5, .int 1), (3, .int (sg k)), (0, .ref md)]) C dX10_faultOf_193 5 rfl (nI_1 _) hN (by decide) rfl ?_
                      refine v_goto (tgt := 4) C dX10_faultOf_196 (by decide) ?_
                      refine v_sub (lv' := [(0, .ref md), (1, .int 1), (2, .int (nI (k + 1)))]) [5, 1, 0] rfl ?_
                      have e0 := ih4 (k + 1) (by omega) (fstB_step h2 (decide_eq_false (by omega))) (by omega) (by omega)
                      rw [hnx] at e0
                      exact e0
                  · refine v_iconst C dX10_faultOf_64 (v := 2) rfl ?_
                    refine v_goto (tgt := 80) C dX10_faultOf_65 (by decide) ?_
                    refine v_istore (lv' := [(4, .int 2), (5, .int 1), (3, .int (sg k)), (0, .ref md), (1, .int 0), (2, .int (nI k))]) C dX10_faultOf_80 hN (by decide) rfl ?_
                    refine v_goto (tgt := 183) C dX10_faultOf_82 (by decide) ?_
                    have hnx : aut sg (k + 1) = 2 := by rw [aut_s, hst]; simp [stp, h49, h55, h61, show qin (38 : Int32) 48 57 = false from by decide, show qin (124 : Int32) 48 57 = false from by decide]
                    refine v_iload C dX10_faultOf_183 rfl ?_
                    refine v_if_ge (tgt := 190) C dX10_faultOf_185 (by decide) (fun h185 => ?_) (fun hbad => absurd hbad (by decide))
                    refine v_iload C dX10_faultOf_190 rfl ?_
                    refine v_istore_n (lv' := [(1, .int 2), (4, .int 2), (5, .int 1), (3, .int (sg k)), (0, .ref md), (2, .int (nI k))]) C dX10_faultOf_192 hN (by decide) rfl ?_
                    refine v_iinc (lv' := [(2, .int (nI (k + 1))), (1, .int 2), (4, .int 2), (5, .int 1), (3, .int (sg k)), (0, .ref md)]) C dX10_faultOf_193 5 rfl (nI_1 _) hN (by decide) rfl ?_
                    refine v_goto (tgt := 4) C dX10_faultOf_196 (by decide) ?_
                    refine v_sub (lv' := [(0, .ref md), (1, .int 2), (2, .int (nI (k + 1)))]) [5, 1, 0] rfl ?_
                    have e0 := ih4 (k + 1) (by omega) (fstB_step h2 (decide_eq_false (by omega))) (by omega) (by omega)
                    rw [hnx] at e0
                    exact e0
        · rw [show nI (aut sg k) = 1 from by rw [hst]; rfl]
          show V X (rmD 4 0 0) M 0 0 [(4, .int ((-6))), (3, .int (sg k)), (0, .ref md), (1, .int 1), (2, .int (nI k))] 23 []
          refine v_iload_n C dX10_faultOf_23 rfl ?_
          refine v_bipush C dX10_faultOf_24 (v := 38) rfl ?_
          refine v_icmp_eq (tgt := 35) C dX10_faultOf_26 (by decide) (fun h26 => ?_) (fun h26 => ?_)
          · refine v_iconst C dX10_faultOf_35 (v := 1) rfl ?_
            refine v_goto (tgt := 40) C dX10_faultOf_36 (by decide) ?_
            refine v_istore (lv' := [(5, .int 1), (4, .int ((-6))), (3, .int (sg k)), (0, .ref md), (1, .int 1), (2, .int (nI k))]) C dX10_faultOf_40 hN (by decide) rfl ?_
            refine v_iload_n C dX10_faultOf_42 rfl ?_
            refine v_if_ne (tgt := 85) C dX10_faultOf_43 (by decide) (fun h43 => ?_) (fun hbad => absurd hbad (by decide))
            refine v_iload_n C dX10_faultOf_85 rfl ?_
            refine v_iconst C dX10_faultOf_86 (v := 1) rfl ?_
            refine v_icmp_ne (tgt := 112) C dX10_faultOf_87 (by decide) (fun hbad => absurd hbad (by decide)) (fun h87 => ?_)
            refine v_iload_n C dX10_faultOf_90 rfl ?_
            refine v_bipush C dX10_faultOf_91 (v := 48) rfl ?_
            refine v_bipush C dX10_faultOf_93 (v := 53) rfl ?_
            refine v_callS (As := [.int (sg k), .int 48, .int 53]) (rest := []) C (c_X10_in (xl X) (xg X) (sg k) 48 53 M) pm_X10_in wT_X10_in wM_X10_35 ⟨by decide, by decide⟩ ⟨by decide, by decide⟩ (nle rfl) dX10_faultOf_95 rfl (dt1 ?_)
            show V X (rmD 4 0 0) M 0 0 [(5, .int 1), (4, .int ((-6))), (3, .int (sg k)), (0, .ref md), (1, .int 1), (2, .int (nI k))] 98 [.int (bI (qin (sg k) 48 53))]
            refine v_ifb_eq (tgt := 105) C dX10_faultOf_98 (by decide) (fun h98 => ?_) (fun h98 => ?_)
            · refine v_bipush C dX10_faultOf_105 (v := (-6)) rfl ?_
              refine v_istore (lv' := [(4, .int ((-6))), (5, .int 1), (3, .int (sg k)), (0, .ref md), (1, .int 1), (2, .int (nI k))]) C dX10_faultOf_107 hN (by decide) rfl ?_
              refine v_goto (tgt := 183) C dX10_faultOf_109 (by decide) ?_
              have hnx : aut sg (k + 1) = 6 := by rw [aut_s, hst]; simp [stp, h98, show qin (38 : Int32) 48 57 = false from by decide, show qin (124 : Int32) 48 57 = false from by decide]
              refine v_iload C dX10_faultOf_183 rfl ?_
              refine v_if_ge (tgt := 190) C dX10_faultOf_185 (by decide) (fun hbad => absurd hbad (by decide)) (fun h185 => ?_)
              refine v_iload_n C dX10_faultOf_188 rfl ?_
              exact v_iret C E dX10_faultOf_189 (nle rfl) (nle rfl) ⟨by rw [faultN, fstB_hit h2 (decide_eq_true hnx) g9]; rfl, rfl⟩
            · refine v_iconst C dX10_faultOf_101 (v := 2) rfl ?_
              refine v_goto (tgt := 107) C dX10_faultOf_102 (by decide) ?_
              refine v_istore (lv' := [(4, .int 2), (5, .int 1), (3, .int (sg k)), (0, .ref md), (1, .int 1), (2, .int (nI k))]) C dX10_faultOf_107 hN (by decide) rfl ?_
              refine v_goto (tgt := 183) C dX10_faultOf_109 (by decide) ?_
              have hnx : aut sg (k + 1) = 2 := by rw [aut_s, hst]; simp [stp, h98, show qin (38 : Int32) 48 57 = false from by decide, show qin (124 : Int32) 48 57 = false from by decide]
              refine v_iload C dX10_faultOf_183 rfl ?_
              refine v_if_ge (tgt := 190) C dX10_faultOf_185 (by decide) (fun h185 => ?_) (fun hbad => absurd hbad (by decide))
              refine v_iload C dX10_faultOf_190 rfl ?_
              refine v_istore_n (lv' := [(1, .int 2), (4, .int 2), (5, .int 1), (3, .int (sg k)), (0, .ref md), (2, .int (nI k))]) C dX10_faultOf_192 hN (by decide) rfl ?_
              refine v_iinc (lv' := [(2, .int (nI (k + 1))), (1, .int 2), (4, .int 2), (5, .int 1), (3, .int (sg k)), (0, .ref md)]) C dX10_faultOf_193 5 rfl (nI_1 _) hN (by decide) rfl ?_
              refine v_goto (tgt := 4) C dX10_faultOf_196 (by decide) ?_
              refine v_sub (lv' := [(0, .ref md), (1, .int 2), (2, .int (nI (k + 1)))]) [5, 1, 0] rfl ?_
              have e0 := ih4 (k + 1) (by omega) (fstB_step h2 (decide_eq_false (by omega))) (by omega) (by omega)
              rw [hnx] at e0
              exact e0
          · refine v_iload_n C dX10_faultOf_29 rfl ?_
            refine v_bipush C dX10_faultOf_30 (v := 124) rfl ?_
            refine v_icmp_ne (tgt := 39) C dX10_faultOf_32 (by decide) (fun h32 => ?_) (fun h32 => ?_)
            · refine v_iconst C dX10_faultOf_39 (v := 0) rfl ?_
              refine v_istore (lv' := [(5, .int 0), (4, .int ((-6))), (3, .int (sg k)), (0, .ref md), (1, .int 1), (2, .int (nI k))]) C dX10_faultOf_40 hN (by decide) rfl ?_
              refine v_iload_n C dX10_faultOf_42 rfl ?_
              refine v_if_ne (tgt := 85) C dX10_faultOf_43 (by decide) (fun h43 => ?_) (fun hbad => absurd hbad (by decide))
              refine v_iload_n C dX10_faultOf_85 rfl ?_
              refine v_iconst C dX10_faultOf_86 (v := 1) rfl ?_
              refine v_icmp_ne (tgt := 112) C dX10_faultOf_87 (by decide) (fun hbad => absurd hbad (by decide)) (fun h87 => ?_)
              refine v_iload_n C dX10_faultOf_90 rfl ?_
              refine v_bipush C dX10_faultOf_91 (v := 48) rfl ?_
              refine v_bipush C dX10_faultOf_93 (v := 53) rfl ?_
              refine v_callS (As := [.int (sg k), .int 48, .int 53]) (rest := []) C (c_X10_in (xl X) (xg X) (sg k) 48 53 M) pm_X10_in wT_X10_in wM_X10_35 ⟨by decide, by decide⟩ ⟨by decide, by decide⟩ (nle rfl) dX10_faultOf_95 rfl (dt1 ?_)
              show V X (rmD 4 0 0) M 0 0 [(5, .int 0), (4, .int ((-6))), (3, .int (sg k)), (0, .ref md), (1, .int 1), (2, .int (nI k))] 98 [.int (bI (qin (sg k) 48 53))]
              refine v_ifb_eq (tgt := 105) C dX10_faultOf_98 (by decide) (fun h98 => ?_) (fun h98 => ?_)
              · refine v_bipush C dX10_faultOf_105 (v := (-6)) rfl ?_
                refine v_istore (lv' := [(4, .int ((-6))), (5, .int 0), (3, .int (sg k)), (0, .ref md), (1, .int 1), (2, .int (nI k))]) C dX10_faultOf_107 hN (by decide) rfl ?_
                refine v_goto (tgt := 183) C dX10_faultOf_109 (by decide) ?_
                have hnx : aut sg (k + 1) = 6 := by rw [aut_s, hst]; simp [stp, h98, show qin (38 : Int32) 48 57 = false from by decide, show qin (124 : Int32) 48 57 = false from by decide]
                refine v_iload C dX10_faultOf_183 rfl ?_
                refine v_if_ge (tgt := 190) C dX10_faultOf_185 (by decide) (fun hbad => absurd hbad (by decide)) (fun h185 => ?_)
                refine v_iload_n C dX10_faultOf_188 rfl ?_
                exact v_iret C E dX10_faultOf_189 (nle rfl) (nle rfl) ⟨by rw [faultN, fstB_hit h2 (decide_eq_true hnx) g9]; rfl, rfl⟩
              · refine v_iconst C dX10_faultOf_101 (v := 2) rfl ?_
                refine v_goto (tgt := 107) C dX10_faultOf_102 (by decide) ?_
                refine v_istore (lv' := [(4, .int 2), (5, .int 0), (3, .int (sg k)), (0, .ref md), (1, .int 1), (2, .int (nI k))]) C dX10_faultOf_107 hN (by decide) rfl ?_
                refine v_goto (tgt := 183) C dX10_faultOf_109 (by decide) ?_
                have hnx : aut sg (k + 1) = 2 := by rw [aut_s, hst]; simp [stp, h98, show qin (38 : Int32) 48 57 = false from by decide, show qin (124 : Int32) 48 57 = false from by decide]
                refine v_iload C dX10_faultOf_183 rfl ?_
                refine v_if_ge (tgt := 190) C dX10_faultOf_185 (by decide) (fun h185 => ?_) (fun hbad => absurd hbad (by decide))
                refine v_iload C dX10_faultOf_190 rfl ?_
                refine v_istore_n (lv' := [(1, .int 2), (4, .int 2), (5, .int 0), (3, .int (sg k)), (0, .ref md), (2, .int (nI k))]) C dX10_faultOf_192 hN (by decide) rfl ?_
                refine v_iinc (lv' := [(2, .int (nI (k + 1))), (1, .int 2), (4, .int 2), (5, .int 0), (3, .int (sg k)), (0, .ref md)]) C dX10_faultOf_193 5 rfl (nI_1 _) hN (by decide) rfl ?_
                refine v_goto (tgt := 4) C dX10_faultOf_196 (by decide) ?_
                refine v_sub (lv' := [(0, .ref md), (1, .int 2), (2, .int (nI (k + 1)))]) [5, 1, 0] rfl ?_
                have e0 := ih4 (k + 1) (by omega) (fstB_step h2 (decide_eq_false (by omega))) (by omega) (by omega)
                rw [hnx] at e0
                exact e0
            · refine v_iconst C dX10_faultOf_35 (v := 1) rfl ?_
              refine v_goto (tgt := 40) C dX10_faultOf_36 (by decide) ?_
              refine v_istore (lv' := [(5, .int 1), (4, .int ((-6))), (3, .int (sg k)), (0, .ref md), (1, .int 1), (2, .int (nI k))]) C dX10_faultOf_40 hN (by decide) rfl ?_
              refine v_iload_n C dX10_faultOf_42 rfl ?_
              refine v_if_ne (tgt := 85) C dX10_faultOf_43 (by decide) (fun h43 => ?_) (fun hbad => absurd hbad (by decide))
              refine v_iload_n C dX10_faultOf_85 rfl ?_
              refine v_iconst C dX10_faultOf_86 (v := 1) rfl ?_
              refine v_icmp_ne (tgt := 112) C dX10_faultOf_87 (by decide) (fun hbad => absurd hbad (by decide)) (fun h87 => ?_)
              refine v_iload_n C dX10_faultOf_90 rfl ?_
              refine v_bipush C dX10_faultOf_91 (v := 48) rfl ?_
              refine v_bipush C dX10_faultOf_93 (v := 53) rfl ?_
              refine v_callS (As := [.int (sg k), .int 48, .int 53]) (rest := []) C (c_X10_in (xl X) (xg X) (sg k) 48 53 M) pm_X10_in wT_X10_in wM_X10_35 ⟨by decide, by decide⟩ ⟨by decide, by decide⟩ (nle rfl) dX10_faultOf_95 rfl (dt1 ?_)
              show V X (rmD 4 0 0) M 0 0 [(5, .int 1), (4, .int ((-6))), (3, .int (sg k)), (0, .ref md), (1, .int 1), (2, .int (nI k))] 98 [.int (bI (qin (sg k) 48 53))]
              refine v_ifb_eq (tgt := 105) C dX10_faultOf_98 (by decide) (fun h98 => ?_) (fun h98 => ?_)
              · refine v_bipush C dX10_faultOf_105 (v := (-6)) rfl ?_
                refine v_istore (lv' := [(4, .int ((-6))), (5, .int 1), (3, .int (sg k)), (0, .ref md), (1, .int 1), (2, .int (nI k))]) C dX10_faultOf_107 hN (by decide) rfl ?_
                refine v_goto (tgt := 183) C dX10_faultOf_109 (by decide) ?_
                have hnx : aut sg (k + 1) = 6 := by rw [aut_s, hst]; simp [stp, h98, show qin (38 : Int32) 48 57 = false from by decide, show qin (124 : Int32) 48 57 = false from by decide]
                refine v_iload C dX10_faultOf_183 rfl ?_
                refine v_if_ge (tgt := 190) C dX10_faultOf_185 (by decide) (fun hbad => absurd hbad (by decide)) (fun h185 => ?_)
                refine v_iload_n C dX10_faultOf_188 rfl ?_
                exact v_iret C E dX10_faultOf_189 (nle rfl) (nle rfl) ⟨by rw [faultN, fstB_hit h2 (decide_eq_true hnx) g9]; rfl, rfl⟩
              · refine v_iconst C dX10_faultOf_101 (v := 2) rfl ?_
                refine v_goto (tgt := 107) C dX10_faultOf_102 (by decide) ?_
                refine v_istore (lv' := [(4, .int 2), (5, .int 1), (3, .int (sg k)), (0, .ref md), (1, .int 1), (2, .int (nI k))]) C dX10_faultOf_107 hN (by decide) rfl ?_
                refine v_goto (tgt := 183) C dX10_faultOf_109 (by decide) ?_
                have hnx : aut sg (k + 1) = 2 := by rw [aut_s, hst]; simp [stp, h98, show qin (38 : Int32) 48 57 = false from by decide, show qin (124 : Int32) 48 57 = false from by decide]
                refine v_iload C dX10_faultOf_183 rfl ?_
                refine v_if_ge (tgt := 190) C dX10_faultOf_185 (by decide) (fun h185 => ?_) (fun hbad => absurd hbad (by decide))
                refine v_iload C dX10_faultOf_190 rfl ?_
                refine v_istore_n (lv' := [(1, .int 2), (4, .int 2), (5, .int 1), (3, .int (sg k)), (0, .ref md), (2, .int (nI k))]) C dX10_faultOf_192 hN (by decide) rfl ?_
                refine v_iinc (lv' := [(2, .int (nI (k + 1))), (1, .int 2), (4, .int 2), (5, .int 1), (3, .int (sg k)), (0, .ref md)]) C dX10_faultOf_193 5 rfl (nI_1 _) hN (by decide) rfl ?_
                refine v_goto (tgt := 4) C dX10_faultOf_196 (by decide) ?_
                refine v_sub (lv' := [(0, .ref md), (1, .int 2), (2, .int (nI (k + 1)))]) [5, 1, 0] rfl ?_
                have e0 := ih4 (k + 1) (by omega) (fstB_step h2 (decide_eq_false (by omega))) (by omega) (by omega)
                rw [hnx] at e0
                exact e0
        · rw [show nI (aut sg k) = 2 from by rw [hst]; rfl]
          show V X (rmD 4 0 0) M 0 0 [(4, .int ((-6))), (3, .int (sg k)), (0, .ref md), (1, .int 2), (2, .int (nI k))] 23 []
          refine v_iload_n C dX10_faultOf_23 rfl ?_
          refine v_bipush C dX10_faultOf_24 (v := 38) rfl ?_
          refine v_icmp_eq (tgt := 35) C dX10_faultOf_26 (by decide) (fun h26 => ?_) (fun h26 => ?_)
          · refine v_iconst C dX10_faultOf_35 (v := 1) rfl ?_
            refine v_goto (tgt := 40) C dX10_faultOf_36 (by decide) ?_
            refine v_istore (lv' := [(5, .int 1), (4, .int ((-6))), (3, .int (sg k)), (0, .ref md), (1, .int 2), (2, .int (nI k))]) C dX10_faultOf_40 hN (by decide) rfl ?_
            refine v_iload_n C dX10_faultOf_42 rfl ?_
            refine v_if_ne (tgt := 85) C dX10_faultOf_43 (by decide) (fun h43 => ?_) (fun hbad => absurd hbad (by decide))
            refine v_iload_n C dX10_faultOf_85 rfl ?_
            refine v_iconst C dX10_faultOf_86 (v := 1) rfl ?_
            refine v_icmp_ne (tgt := 112) C dX10_faultOf_87 (by decide) (fun h87 => ?_) (fun hbad => absurd hbad (by decide))
            refine v_iload_n C dX10_faultOf_112 rfl ?_
            refine v_iconst C dX10_faultOf_113 (v := 2) rfl ?_
            refine v_icmp_ne (tgt := 146) C dX10_faultOf_114 (by decide) (fun hbad => absurd hbad (by decide)) (fun h114 => ?_)
            refine v_iload_n C dX10_faultOf_117 rfl ?_
            refine v_bipush C dX10_faultOf_118 (v := 60) rfl ?_
            refine v_icmp_eq (tgt := 135) C dX10_faultOf_120 (by decide) (fun h120 => ?_) (fun h120 => ?_)
            · refine v_iconst C dX10_faultOf_135 (v := 3) rfl ?_
              refine v_goto (tgt := 141) C dX10_faultOf_136 (by decide) ?_
              refine v_istore (lv' := [(4, .int 3), (5, .int 1), (3, .int (sg k)), (0, .ref md), (1, .int 2), (2, .int (nI k))]) C dX10_faultOf_141 hN (by decide) rfl ?_
              refine v_goto (tgt := 183) C dX10_faultOf_143 (by decide) ?_
              have hnx : aut sg (k + 1) = 3 := by rw [aut_s, hst]; simp [stp, h120, show qin (38 : Int32) 48 57 = false from by decide, show qin (124 : Int32) 48 57 = false from by decide]
              refine v_iload C dX10_faultOf_183 rfl ?_
              refine v_if_ge (tgt := 190) C dX10_faultOf_185 (by decide) (fun h185 => ?_) (fun hbad => absurd hbad (by decide))
              refine v_iload C dX10_faultOf_190 rfl ?_
              refine v_istore_n (lv' := [(1, .int 3), (4, .int 3), (5, .int 1), (3, .int (sg k)), (0, .ref md), (2, .int (nI k))]) C dX10_faultOf_192 hN (by decide) rfl ?_
              refine v_iinc (lv' := [(2, .int (nI (k + 1))), (1, .int 3), (4, .int 3), (5, .int 1), (3, .int (sg k)), (0, .ref md)]) C dX10_faultOf_193 5 rfl (nI_1 _) hN (by decide) rfl ?_
              refine v_goto (tgt := 4) C dX10_faultOf_196 (by decide) ?_
              refine v_sub (lv' := [(0, .ref md), (1, .int 3), (2, .int (nI (k + 1)))]) [5, 1, 0] rfl ?_
              have e0 := ih4 (k + 1) (by omega) (fstB_step h2 (decide_eq_false (by omega))) (by omega) (by omega)
              rw [hnx] at e0
              exact e0
            · refine v_iload_n C dX10_faultOf_123 rfl ?_
              refine v_bipush C dX10_faultOf_124 (v := 62) rfl ?_
              refine v_icmp_eq (tgt := 135) C dX10_faultOf_126 (by decide) (fun h126 => ?_) (fun h126 => ?_)
              · refine v_iconst C dX10_faultOf_135 (v := 3) rfl ?_
                refine v_goto (tgt := 141) C dX10_faultOf_136 (by decide) ?_
                refine v_istore (lv' := [(4, .int 3), (5, .int 1), (3, .int (sg k)), (0, .ref md), (1, .int 2), (2, .int (nI k))]) C dX10_faultOf_141 hN (by decide) rfl ?_
                refine v_goto (tgt := 183) C dX10_faultOf_143 (by decide) ?_
                have hnx : aut sg (k + 1) = 3 := by rw [aut_s, hst]; simp [stp, h120, h126, show qin (38 : Int32) 48 57 = false from by decide, show qin (124 : Int32) 48 57 = false from by decide]
                refine v_iload C dX10_faultOf_183 rfl ?_
                refine v_if_ge (tgt := 190) C dX10_faultOf_185 (by decide) (fun h185 => ?_) (fun hbad => absurd hbad (by decide))
                refine v_iload C dX10_faultOf_190 rfl ?_
                refine v_istore_n (lv' := [(1, .int 3), (4, .int 3), (5, .int 1), (3, .int (sg k)), (0, .ref md), (2, .int (nI k))]) C dX10_faultOf_192 hN (by decide) rfl ?_
                refine v_iinc (lv' := [(2, .int (nI (k + 1))), (1, .int 3), (4, .int 3), (5, .int 1), (3, .int (sg k)), (0, .ref md)]) C dX10_faultOf_193 5 rfl (nI_1 _) hN (by decide) rfl ?_
                refine v_goto (tgt := 4) C dX10_faultOf_196 (by decide) ?_
                refine v_sub (lv' := [(0, .ref md), (1, .int 3), (2, .int (nI (k + 1)))]) [5, 1, 0] rfl ?_
                have e0 := ih4 (k + 1) (by omega) (fstB_step h2 (decide_eq_false (by omega))) (by omega) (by omega)
                rw [hnx] at e0
                exact e0
              · refine v_iload_n C dX10_faultOf_129 rfl ?_
                refine v_bipush C dX10_faultOf_130 (v := 61) rfl ?_
                refine v_icmp_ne (tgt := 139) C dX10_faultOf_132 (by decide) (fun h132 => ?_) (fun h132 => ?_)
                · refine v_bipush C dX10_faultOf_139 (v := (-6)) rfl ?_
                  refine v_istore (lv' := [(4, .int ((-6))), (5, .int 1), (3, .int (sg k)), (0, .ref md), (1, .int 2), (2, .int (nI k))]) C dX10_faultOf_141 hN (by decide) rfl ?_
                  refine v_goto (tgt := 183) C dX10_faultOf_143 (by decide) ?_
                  have hnx : aut sg (k + 1) = 6 := by rw [aut_s, hst]; simp [stp, h120, h126, h132, show qin (38 : Int32) 48 57 = false from by decide, show qin (124 : Int32) 48 57 = false from by decide]
                  refine v_iload C dX10_faultOf_183 rfl ?_
                  refine v_if_ge (tgt := 190) C dX10_faultOf_185 (by decide) (fun hbad => absurd hbad (by decide)) (fun h185 => ?_)
                  refine v_iload_n C dX10_faultOf_188 rfl ?_
                  exact v_iret C E dX10_faultOf_189 (nle rfl) (nle rfl) ⟨by rw [faultN, fstB_hit h2 (decide_eq_true hnx) g9]; rfl, rfl⟩
                · refine v_iconst C dX10_faultOf_135 (v := 3) rfl ?_
                  refine v_goto (tgt := 141) C dX10_faultOf_136 (by decide) ?_
                  refine v_istore (lv' := [(4, .int 3), (5, .int 1), (3, .int (sg k)), (0, .ref md), (1, .int 2), (2, .int (nI k))]) C dX10_faultOf_141 hN (by decide) rfl ?_
                  refine v_goto (tgt := 183) C dX10_faultOf_143 (by decide) ?_
                  have hnx : aut sg (k + 1) = 3 := by rw [aut_s, hst]; simp [stp, h120, h126, h132, show qin (38 : Int32) 48 57 = false from by decide, show qin (124 : Int32) 48 57 = false from by decide]
                  refine v_iload C dX10_faultOf_183 rfl ?_
                  refine v_if_ge (tgt := 190) C dX10_faultOf_185 (by decide) (fun h185 => ?_) (fun hbad => absurd hbad (by decide))
                  refine v_iload C dX10_faultOf_190 rfl ?_
                  refine v_istore_n (lv' := [(1, .int 3), (4, .int 3), (5, .int 1), (3, .int (sg k)), (0, .ref md), (2, .int (nI k))]) C dX10_faultOf_192 hN (by decide) rfl ?_
                  refine v_iinc (lv' := [(2, .int (nI (k + 1))), (1, .int 3), (4, .int 3), (5, .int 1), (3, .int (sg k)), (0, .ref md)]) C dX10_faultOf_193 5 rfl (nI_1 _) hN (by decide) rfl ?_
                  refine v_goto (tgt := 4) C dX10_faultOf_196 (by decide) ?_
                  refine v_sub (lv' := [(0, .ref md), (1, .int 3), (2, .int (nI (k + 1)))]) [5, 1, 0] rfl ?_
                  have e0 := ih4 (k + 1) (by omega) (fstB_step h2 (decide_eq_false (by omega))) (by omega) (by omega)
                  rw [hnx] at e0
                  exact e0
          · refine v_iload_n C dX10_faultOf_29 rfl ?_
            refine v_bipush C dX10_faultOf_30 (v := 124) rfl ?_
            refine v_icmp_ne (tgt := 39) C dX10_faultOf_32 (by decide) (fun h32 => ?_) (fun h32 => ?_)
            · refine v_iconst C dX10_faultOf_39 (v := 0) rfl ?_
              refine v_istore (lv' := [(5, .int 0), (4, .int ((-6))), (3, .int (sg k)), (0, .ref md), (1, .int 2), (2, .int (nI k))]) C dX10_faultOf_40 hN (by decide) rfl ?_
              refine v_iload_n C dX10_faultOf_42 rfl ?_
              refine v_if_ne (tgt := 85) C dX10_faultOf_43 (by decide) (fun h43 => ?_) (fun hbad => absurd hbad (by decide))
              refine v_iload_n C dX10_faultOf_85 rfl ?_
              refine v_iconst C dX10_faultOf_86 (v := 1) rfl ?_
              refine v_icmp_ne (tgt := 112) C dX10_faultOf_87 (by decide) (fun h87 => ?_) (fun hbad => absurd hbad (by decide))
              refine v_iload_n C dX10_faultOf_112 rfl ?_
              refine v_iconst C dX10_faultOf_113 (v := 2) rfl ?_
              refine v_icmp_ne (tgt := 146) C dX10_faultOf_114 (by decide) (fun hbad => absurd hbad (by decide)) (fun h114 => ?_)
              refine v_iload_n C dX10_faultOf_117 rfl ?_
              refine v_bipush C dX10_faultOf_118 (v := 60) rfl ?_
              refine v_icmp_eq (tgt := 135) C dX10_faultOf_120 (by decide) (fun h120 => ?_) (fun h120 => ?_)
              · refine v_iconst C dX10_faultOf_135 (v := 3) rfl ?_
                refine v_goto (tgt := 141) C dX10_faultOf_136 (by decide) ?_
                refine v_istore (lv' := [(4, .int 3), (5, .int 0), (3, .int (sg k)), (0, .ref md), (1, .int 2), (2, .int (nI k))]) C dX10_faultOf_141 hN (by decide) rfl ?_
                refine v_goto (tgt := 183) C dX10_faultOf_143 (by decide) ?_
                have hnx : aut sg (k + 1) = 3 := by rw [aut_s, hst]; simp [stp, h120, show qin (38 : Int32) 48 57 = false from by decide, show qin (124 : Int32) 48 57 = false from by decide]
                refine v_iload C dX10_faultOf_183 rfl ?_
                refine v_if_ge (tgt := 190) C dX10_faultOf_185 (by decide) (fun h185 => ?_) (fun hbad => absurd hbad (by decide))
                refine v_iload C dX10_faultOf_190 rfl ?_
                refine v_istore_n (lv' := [(1, .int 3), (4, .int 3), (5, .int 0), (3, .int (sg k)), (0, .ref md), (2, .int (nI k))]) C dX10_faultOf_192 hN (by decide) rfl ?_
                refine v_iinc (lv' := [(2, .int (nI (k + 1))), (1, .int 3), (4, .int 3), (5, .int 0), (3, .int (sg k)), (0, .ref md)]) C dX10_faultOf_193 5 rfl (nI_1 _) hN (by decide) rfl ?_
                refine v_goto (tgt := 4) C dX10_faultOf_196 (by decide) ?_
                refine v_sub (lv' := [(0, .ref md), (1, .int 3), (2, .int (nI (k + 1)))]) [5, 1, 0] rfl ?_
                have e0 := ih4 (k + 1) (by omega) (fstB_step h2 (decide_eq_false (by omega))) (by omega) (by omega)
                rw [hnx] at e0
                exact e0
              · refine v_iload_n C dX10_faultOf_123 rfl ?_
                refine v_bipush C dX10_faultOf_124 (v := 62) rfl ?_
                refine v_icmp_eq (tgt := 135) C dX10_faultOf_126 (by decide) (fun h126 => ?_) (fun h126 => ?_)
                · refine v_iconst C dX10_faultOf_135 (v := 3) rfl ?_
                  refine v_goto (tgt := 141) C dX10_faultOf_136 (by decide) ?_
                  refine v_istore (lv' := [(4, .int 3), (5, .int 0), (3, .int (sg k)), (0, .ref md), (1, .int 2), (2, .int (nI k))]) C dX10_faultOf_141 hN (by decide) rfl ?_
                  refine v_goto (tgt := 183) C dX10_faultOf_143 (by decide) ?_
                  have hnx : aut sg (k + 1) = 3 := by rw [aut_s, hst]; simp [stp, h120, h126, show qin (38 : Int32) 48 57 = false from by decide, show qin (124 : Int32) 48 57 = false from by decide]
                  refine v_iload C dX10_faultOf_183 rfl ?_
                  refine v_if_ge (tgt := 190) C dX10_faultOf_185 (by decide) (fun h185 => ?_) (fun hbad => absurd hbad (by decide))
                  refine v_iload C dX10_faultOf_190 rfl ?_
                  refine v_istore_n (lv' := [(1, .int 3), (4, .int 3), (5, .int 0), (3, .int (sg k)), (0, .ref md), (2, .int (nI k))]) C dX10_faultOf_192 hN (by decide) rfl ?_
                  refine v_iinc (lv' := [(2, .int (nI (k + 1))), (1, .int 3), (4, .int 3), (5, .int 0), (3, .int (sg k)), (0, .ref md)]) C dX10_faultOf_193 5 rfl (nI_1 _) hN (by decide) rfl ?_
                  refine v_goto (tgt := 4) C dX10_faultOf_196 (by decide) ?_
                  refine v_sub (lv' := [(0, .ref md), (1, .int 3), (2, .int (nI (k + 1)))]) [5, 1, 0] rfl ?_
                  have e0 := ih4 (k + 1) (by omega) (fstB_step h2 (decide_eq_false (by omega))) (by omega) (by omega)
                  rw [hnx] at e0
                  exact e0
                · refine v_iload_n C dX10_faultOf_129 rfl ?_
                  refine v_bipush C dX10_faultOf_130 (v := 61) rfl ?_
                  refine v_icmp_ne (tgt := 139) C dX10_faultOf_132 (by decide) (fun h132 => ?_) (fun h132 => ?_)
                  · refine v_bipush C dX10_faultOf_139 (v := (-6)) rfl ?_
                    refine v_istore (lv' := [(4, .int ((-6))), (5, .int 0), (3, .int (sg k)), (0, .ref md), (1, .int 2), (2, .int (nI k))]) C dX10_faultOf_141 hN (by decide) rfl ?_
                    refine v_goto (tgt := 183) C dX10_faultOf_143 (by decide) ?_
                    have hnx : aut sg (k + 1) = 6 := by rw [aut_s, hst]; simp [stp, h120, h126, h132, show qin (38 : Int32) 48 57 = false from by decide, show qin (124 : Int32) 48 57 = false from by decide]
                    refine v_iload C dX10_faultOf_183 rfl ?_
                    refine v_if_ge (tgt := 190) C dX10_faultOf_185 (by decide) (fun hbad => absurd hbad (by decide)) (fun h185 => ?_)
                    refine v_iload_n C dX10_faultOf_188 rfl ?_
                    exact v_iret C E dX10_faultOf_189 (nle rfl) (nle rfl) ⟨by rw [faultN, fstB_hit h2 (decide_eq_true hnx) g9]; rfl, rfl⟩
                  · refine v_iconst C dX10_faultOf_135 (v := 3) rfl ?_
                    refine v_goto (tgt := 141) C dX10_faultOf_136 (by decide) ?_
                    refine v_istore (lv' := [(4, .int 3), (5, .int 0), (3, .int (sg k)), (0, .ref md), (1, .int 2), (2, .int (nI k))]) C dX10_faultOf_141 hN (by decide) rfl ?_
                    refine v_goto (tgt := 183) C dX10_faultOf_143 (by decide) ?_
                    have hnx : aut sg (k + 1) = 3 := by rw [aut_s, hst]; simp [stp, h120, h126, h132, show qin (38 : Int32) 48 57 = false from by decide, show qin (124 : Int32) 48 57 = false from by decide]
                    refine v_iload C dX10_faultOf_183 rfl ?_
                    refine v_if_ge (tgt := 190) C dX10_faultOf_185 (by decide) (fun h185 => ?_) (fun hbad => absurd hbad (by decide))
                    refine v_iload C dX10_faultOf_190 rfl ?_
                    refine v_istore_n (lv' := [(1, .int 3), (4, .int 3), (5, .int 0), (3, .int (sg k)), (0, .ref md), (2, .int (nI k))]) C dX10_faultOf_192 hN (by decide) rfl ?_
                    refine v_iinc (lv' := [(2, .int (nI (k + 1))), (1, .int 3), (4, .int 3), (5, .int 0), (3, .int (sg k)), (0, .ref md)]) C dX10_faultOf_193 5 rfl (nI_1 _) hN (by decide) rfl ?_
                    refine v_goto (tgt := 4) C dX10_faultOf_196 (by decide) ?_
                    refine v_sub (lv' := [(0, .ref md), (1, .int 3), (2, .int (nI (k + 1)))]) [5, 1, 0] rfl ?_
                    have e0 := ih4 (k + 1) (by omega) (fstB_step h2 (decide_eq_false (by omega))) (by omega) (by omega)
                    rw [hnx] at e0
                    exact e0
            · refine v_iconst C dX10_faultOf_35 (v := 1) rfl ?_
              refine v_goto (tgt := 40) C dX10_faultOf_36 (by decide) ?_
              refine v_istore (lv' := [(5, .int 1), (4, .int ((-6))), (3, .int (sg k)), (0, .ref md), (1, .int 2), (2, .int (nI k))]) C dX10_faultOf_40 hN (by decide) rfl ?_
              refine v_iload_n C dX10_faultOf_42 rfl ?_
              refine v_if_ne (tgt := 85) C dX10_faultOf_43 (by decide) (fun h43 => ?_) (fun hbad => absurd hbad (by decide))
              refine v_iload_n C dX10_faultOf_85 rfl ?_
              refine v_iconst C dX10_faultOf_86 (v := 1) rfl ?_
              refine v_icmp_ne (tgt := 112) C dX10_faultOf_87 (by decide) (fun h87 => ?_) (fun hbad => absurd hbad (by decide))
              refine v_iload_n C dX10_faultOf_112 rfl ?_
              refine v_iconst C dX10_faultOf_113 (v := 2) rfl ?_
              refine v_icmp_ne (tgt := 146) C dX10_faultOf_114 (by decide) (fun hbad => absurd hbad (by decide)) (fun h114 => ?_)
              refine v_iload_n C dX10_faultOf_117 rfl ?_
              refine v_bipush C dX10_faultOf_118 (v := 60) rfl ?_
              refine v_icmp_eq (tgt := 135) C dX10_faultOf_120 (by decide) (fun h120 => ?_) (fun h120 => ?_)
              · refine v_iconst C dX10_faultOf_135 (v := 3) rfl ?_
                refine v_goto (tgt := 141) C dX10_faultOf_136 (by decide) ?_
                refine v_istore (lv' := [(4, .int 3), (5, .int 1), (3, .int (sg k)), (0, .ref md), (1, .int 2), (2, .int (nI k))]) C dX10_faultOf_141 hN (by decide) rfl ?_
                refine v_goto (tgt := 183) C dX10_faultOf_143 (by decide) ?_
                have hnx : aut sg (k + 1) = 3 := by rw [aut_s, hst]; simp [stp, h120, show qin (38 : Int32) 48 57 = false from by decide, show qin (124 : Int32) 48 57 = false from by decide]
                refine v_iload C dX10_faultOf_183 rfl ?_
                refine v_if_ge (tgt := 190) C dX10_faultOf_185 (by decide) (fun h185 => ?_) (fun hbad => absurd hbad (by decide))
                refine v_iload C dX10_faultOf_190 rfl ?_
                refine v_istore_n (lv' := [(1, .int 3), (4, .int 3), (5, .int 1), (3, .int (sg k)), (0, .ref md), (2, .int (nI k))]) C dX10_faultOf_192 hN (by decide) rfl ?_
                refine v_iinc (lv' := [(2, .int (nI (k + 1))), (1, .int 3), (4, .int 3), (5, .int 1), (3, .int (sg k)), (0, .ref md)]) C dX10_faultOf_193 5 rfl (nI_1 _) hN (by decide) rfl ?_
                refine v_goto (tgt := 4) C dX10_faultOf_196 (by decide) ?_
                refine v_sub (lv' := [(0, .ref md), (1, .int 3), (2, .int (nI (k + 1)))]) [5, 1, 0] rfl ?_
                have e0 := ih4 (k + 1) (by omega) (fstB_step h2 (decide_eq_false (by omega))) (by omega) (by omega)
                rw [hnx] at e0
                exact e0
              · refine v_iload_n C dX10_faultOf_123 rfl ?_
                refine v_bipush C dX10_faultOf_124 (v := 62) rfl ?_
                refine v_icmp_eq (tgt := 135) C dX10_faultOf_126 (by decide) (fun h126 => ?_) (fun h126 => ?_)
                · refine v_iconst C dX10_faultOf_135 (v := 3) rfl ?_
                  refine v_goto (tgt := 141) C dX10_faultOf_136 (by decide) ?_
                  refine v_istore (lv' := [(4, .int 3), (5, .int 1), (3, .int (sg k)), (0, .ref md), (1, .int 2), (2, .int (nI k))]) C dX10_faultOf_141 hN (by decide) rfl ?_
                  refine v_goto (tgt := 183) C dX10_faultOf_143 (by decide) ?_
                  have hnx : aut sg (k + 1) = 3 := by rw [aut_s, hst]; simp [stp, h120, h126, show qin (38 : Int32) 48 57 = false from by decide, show qin (124 : Int32) 48 57 = false from by decide]
                  refine v_iload C dX10_faultOf_183 rfl ?_
                  refine v_if_ge (tgt := 190) C dX10_faultOf_185 (by decide) (fun h185 => ?_) (fun hbad => absurd hbad (by decide))
                  refine v_iload C dX10_faultOf_190 rfl ?_
                  refine v_istore_n (lv' := [(1, .int 3), (4, .int 3), (5, .int 1), (3, .int (sg k)), (0, .ref md), (2, .int (nI k))]) C dX10_faultOf_192 hN (by decide) rfl ?_
                  refine v_iinc (lv' := [(2, .int (nI (k + 1))), (1, .int 3), (4, .int 3), (5, .int 1), (3, .int (sg k)), (0, .ref md)]) C dX10_faultOf_193 5 rfl (nI_1 _) hN (by decide) rfl ?_
                  refine v_goto (tgt := 4) C dX10_faultOf_196 (by decide) ?_
                  refine v_sub (lv' := [(0, .ref md), (1, .int 3), (2, .int (nI (k + 1)))]) [5, 1, 0] rfl ?_
                  have e0 := ih4 (k + 1) (by omega) (fstB_step h2 (decide_eq_false (by omega))) (by omega) (by omega)
                  rw [hnx] at e0
                  exact e0
                · refine v_iload_n C dX10_faultOf_129 rfl ?_
                  refine v_bipush C dX10_faultOf_130 (v := 61) rfl ?_
                  refine v_icmp_ne (tgt := 139) C dX10_faultOf_132 (by decide) (fun h132 => ?_) (fun h132 => ?_)
                  · refine v_bipush C dX10_faultOf_139 (v := (-6)) rfl ?_
                    refine v_istore (lv' := [(4, .int ((-6))), (5, .int 1), (3, .int (sg k)), (0, .ref md), (1, .int 2), (2, .int (nI k))]) C dX10_faultOf_141 hN (by decide) rfl ?_
                    refine v_goto (tgt := 183) C dX10_faultOf_143 (by decide) ?_
                    have hnx : aut sg (k + 1) = 6 := by rw [aut_s, hst]; simp [stp, h120, h126, h132, show qin (38 : Int32) 48 57 = false from by decide, show qin (124 : Int32) 48 57 = false from by decide]
                    refine v_iload C dX10_faultOf_183 rfl ?_
                    refine v_if_ge (tgt := 190) C dX10_faultOf_185 (by decide) (fun hbad => absurd hbad (by decide)) (fun h185 => ?_)
                    refine v_iload_n C dX10_faultOf_188 rfl ?_
                    exact v_iret C E dX10_faultOf_189 (nle rfl) (nle rfl) ⟨by rw [faultN, fstB_hit h2 (decide_eq_true hnx) g9]; rfl, rfl⟩
                  · refine v_iconst C dX10_faultOf_135 (v := 3) rfl ?_
                    refine v_goto (tgt := 141) C dX10_faultOf_136 (by decide) ?_
                    refine v_istore (lv' := [(4, .int 3), (5, .int 1), (3, .int (sg k)), (0, .ref md), (1, .int 2), (2, .int (nI k))]) C dX10_faultOf_141 hN (by decide) rfl ?_
                    refine v_goto (tgt := 183) C dX10_faultOf_143 (by decide) ?_
                    have hnx : aut sg (k + 1) = 3 := by rw [aut_s, hst]; simp [stp, h120, h126, h132, show qin (38 : Int32) 48 57 = false from by decide, show qin (124 : Int32) 48 57 = false from by decide]
                    refine v_iload C dX10_faultOf_183 rfl ?_
                    refine v_if_ge (tgt := 190) C dX10_faultOf_185 (by decide) (fun h185 => ?_) (fun hbad => absurd hbad (by decide))
                    refine v_iload C dX10_faultOf_190 rfl ?_
                    refine v_istore_n (lv' := [(1, .int 3), (4, .int 3), (5, .int 1), (3, .int (sg k)), (0, .ref md), (2, .int (nI k))]) C dX10_faultOf_192 hN (by decide) rfl ?_
                    refine v_iinc (lv' := [(2, .int (nI (k + 1))), (1, .int 3), (4, .int 3), (5, .int 1), (3, .int (sg k)), (0, .ref md)]) C dX10_faultOf_193 5 rfl (nI_1 _) hN (by decide) rfl ?_
                    refine v_goto (tgt := 4) C dX10_faultOf_196 (by decide) ?_
                    refine v_sub (lv' := [(0, .ref md), (1, .int 3), (2, .int (nI (k + 1)))]) [5, 1, 0] rfl ?_
                    have e0 := ih4 (k + 1) (by omega) (fstB_step h2 (decide_eq_false (by omega))) (by omega) (by omega)
                    rw [hnx] at e0
                    exact e0
        · rw [show nI (aut sg k) = 3 from by rw [hst]; rfl]
          show V X (rmD 4 0 0) M 0 0 [(4, .int ((-6))), (3, .int (sg k)), (0, .ref md), (1, .int 3), (2, .int (nI k))] 23 []
          refine v_iload_n C dX10_faultOf_23 rfl ?_
          refine v_bipush C dX10_faultOf_24 (v := 38) rfl ?_
          refine v_icmp_eq (tgt := 35) C dX10_faultOf_26 (by decide) (fun h26 => ?_) (fun h26 => ?_)
          · refine v_iconst C dX10_faultOf_35 (v := 1) rfl ?_
            refine v_goto (tgt := 40) C dX10_faultOf_36 (by decide) ?_
            refine v_istore (lv' := [(5, .int 1), (4, .int ((-6))), (3, .int (sg k)), (0, .ref md), (1, .int 3), (2, .int (nI k))]) C dX10_faultOf_40 hN (by decide) rfl ?_
            refine v_iload_n C dX10_faultOf_42 rfl ?_
            refine v_if_ne (tgt := 85) C dX10_faultOf_43 (by decide) (fun h43 => ?_) (fun hbad => absurd hbad (by decide))
            refine v_iload_n C dX10_faultOf_85 rfl ?_
            refine v_iconst C dX10_faultOf_86 (v := 1) rfl ?_
            refine v_icmp_ne (tgt := 112) C dX10_faultOf_87 (by decide) (fun h87 => ?_) (fun hbad => absurd hbad (by decide))
            refine v_iload_n C dX10_faultOf_112 rfl ?_
            refine v_iconst C dX10_faultOf_113 (v := 2) rfl ?_
            refine v_icmp_ne (tgt := 146) C dX10_faultOf_114 (by decide) (fun h114 => ?_) (fun hbad => absurd hbad (by decide))
            refine v_iload_n C dX10_faultOf_146 rfl ?_
            refine v_iconst C dX10_faultOf_147 (v := 5) rfl ?_
            refine v_icmp_ge (tgt := 170) C dX10_faultOf_148 (by decide) (fun hbad => absurd hbad (by decide)) (fun h148 => ?_)
            refine v_iload_n C dX10_faultOf_151 rfl ?_
            refine v_bipush C dX10_faultOf_152 (v := 48) rfl ?_
            refine v_bipush C dX10_faultOf_154 (v := 57) rfl ?_
            refine v_callS (As := [.int (sg k), .int 48, .int 57]) (rest := []) C (c_X10_in (xl X) (xg X) (sg k) 48 57 M) pm_X10_in wT_X10_in wM_X10_35 ⟨by decide, by decide⟩ ⟨by decide, by decide⟩ (nle rfl) dX10_faultOf_156 rfl (dt1 ?_)
            show V X (rmD 4 0 0) M 0 0 [(5, .int 1), (4, .int ((-6))), (3, .int (sg k)), (0, .ref md), (1, .int 3), (2, .int (nI k))] 159 [.int (bI (qin (sg k) 48 57))]
            refine v_ifb_eq (tgt := 170) C dX10_faultOf_159 (by decide) (fun h159 => ?_) (fun h159 => ?_)
            · refine v_iload_n C dX10_faultOf_170 rfl ?_
              refine v_iconst C dX10_faultOf_171 (v := 3) rfl ?_
              refine v_icmp_le (tgt := 183) C dX10_faultOf_172 (by decide) (fun h172 => ?_) (fun hbad => absurd hbad (by decide))
              have hnx : aut sg (k + 1) = 6 := by rw [aut_s, hst]; simp [stp, h159, show qin (38 : Int32) 48 57 = false from by decide, show qin (124 : Int32) 48 57 = false from by decide]
              refine v_iload C dX10_faultOf_183 rfl ?_
              refine v_if_ge (tgt := 190) C dX10_faultOf_185 (by decide) (fun hbad => absurd hbad (by decide)) (fun h185 => ?_)
              refine v_iload_n C dX10_faultOf_188 rfl ?_
              exact v_iret C E dX10_faultOf_189 (nle rfl) (nle rfl) ⟨by rw [faultN, fstB_hit h2 (decide_eq_true hnx) g9]; rfl, rfl⟩
            · refine v_iload_n C dX10_faultOf_162 rfl ?_
              refine v_iconst C dX10_faultOf_163 (v := 1) rfl ?_
              refine v_iadd C dX10_faultOf_164 ?_
              refine v_istore (lv' := [(4, .int (3 + 1)), (5, .int 1), (3, .int (sg k)), (0, .ref md), (1, .int 3), (2, .int (nI k))]) C dX10_faultOf_165 hN (by decide) rfl ?_
              refine v_goto (tgt := 183) C dX10_faultOf_167 (by decide) ?_
              have hnx : aut sg (k + 1) = 4 := by rw [aut_s, hst]; simp [stp, h159, show qin (38 : Int32) 48 57 = false from by decide, show qin (124 : Int32) 48 57 = false from by decide]
              refine v_iload C dX10_faultOf_183 rfl ?_
              refine v_if_ge (tgt := 190) C dX10_faultOf_185 (by decide) (fun h185 => ?_) (fun hbad => absurd hbad (by decide))
              refine v_iload C dX10_faultOf_190 rfl ?_
              refine v_istore_n (lv' := [(1, .int (3 + 1)), (4, .int (3 + 1)), (5, .int 1), (3, .int (sg k)), (0, .ref md), (2, .int (nI k))]) C dX10_faultOf_192 hN (by decide) rfl ?_
              refine v_iinc (lv' := [(2, .int (nI (k + 1))), (1, .int (3 + 1)), (4, .int (3 + 1)), (5, .int 1), (3, .int (sg k)), (0, .ref md)]) C dX10_faultOf_193 5 rfl (nI_1 _) hN (by decide) rfl ?_
              refine v_goto (tgt := 4) C dX10_faultOf_196 (by decide) ?_
              refine v_sub (lv' := [(0, .ref md), (1, .int (3 + 1)), (2, .int (nI (k + 1)))]) [5, 1, 0] rfl ?_
              have e0 := ih4 (k + 1) (by omega) (fstB_step h2 (decide_eq_false (by omega))) (by omega) (by omega)
              rw [hnx] at e0
              exact e0
          · refine v_iload_n C dX10_faultOf_29 rfl ?_
            refine v_bipush C dX10_faultOf_30 (v := 124) rfl ?_
            refine v_icmp_ne (tgt := 39) C dX10_faultOf_32 (by decide) (fun h32 => ?_) (fun h32 => ?_)
            · refine v_iconst C dX10_faultOf_39 (v := 0) rfl ?_
              refine v_istore (lv' := [(5, .int 0), (4, .int ((-6))), (3, .int (sg k)), (0, .ref md), (1, .int 3), (2, .int (nI k))]) C dX10_faultOf_40 hN (by decide) rfl ?_
              refine v_iload_n C dX10_faultOf_42 rfl ?_
              refine v_if_ne (tgt := 85) C dX10_faultOf_43 (by decide) (fun h43 => ?_) (fun hbad => absurd hbad (by decide))
              refine v_iload_n C dX10_faultOf_85 rfl ?_
              refine v_iconst C dX10_faultOf_86 (v := 1) rfl ?_
              refine v_icmp_ne (tgt := 112) C dX10_faultOf_87 (by decide) (fun h87 => ?_) (fun hbad => absurd hbad (by decide))
              refine v_iload_n C dX10_faultOf_112 rfl ?_
              refine v_iconst C dX10_faultOf_113 (v := 2) rfl ?_
              refine v_icmp_ne (tgt := 146) C dX10_faultOf_114 (by decide) (fun h114 => ?_) (fun hbad => absurd hbad (by decide))
              refine v_iload_n C dX10_faultOf_146 rfl ?_
              refine v_iconst C dX10_faultOf_147 (v := 5) rfl ?_
              refine v_icmp_ge (tgt := 170) C dX10_faultOf_148 (by decide) (fun hbad => absurd hbad (by decide)) (fun h148 => ?_)
              refine v_iload_n C dX10_faultOf_151 rfl ?_
              refine v_bipush C dX10_faultOf_152 (v := 48) rfl ?_
              refine v_bipush C dX10_faultOf_154 (v := 57) rfl ?_
              refine v_callS (As := [.int (sg k), .int 48, .int 57]) (rest := []) C (c_X10_in (xl X) (xg X) (sg k) 48 57 M) pm_X10_in wT_X10_in wM_X10_35 ⟨by decide, by decide⟩ ⟨by decide, by decide⟩ (nle rfl) dX10_faultOf_156 rfl (dt1 ?_)
              show V X (rmD 4 0 0) M 0 0 [(5, .int 0), (4, .int ((-6))), (3, .int (sg k)), (0, .ref md), (1, .int 3), (2, .int (nI k))] 159 [.int (bI (qin (sg k) 48 57))]
              refine v_ifb_eq (tgt := 170) C dX10_faultOf_159 (by decide) (fun h159 => ?_) (fun h159 => ?_)
              · refine v_iload_n C dX10_faultOf_170 rfl ?_
                refine v_iconst C dX10_faultOf_171 (v := 3) rfl ?_
                refine v_icmp_le (tgt := 183) C dX10_faultOf_172 (by decide) (fun h172 => ?_) (fun hbad => absurd hbad (by decide))
                have hnx : aut sg (k + 1) = 6 := by rw [aut_s, hst]; simp [stp, h159, show qin (38 : Int32) 48 57 = false from by decide, show qin (124 : Int32) 48 57 = false from by decide]
                refine v_iload C dX10_faultOf_183 rfl ?_
                refine v_if_ge (tgt := 190) C dX10_faultOf_185 (by decide) (fun hbad => absurd hbad (by decide)) (fun h185 => ?_)
                refine v_iload_n C dX10_faultOf_188 rfl ?_
                exact v_iret C E dX10_faultOf_189 (nle rfl) (nle rfl) ⟨by rw [faultN, fstB_hit h2 (decide_eq_true hnx) g9]; rfl, rfl⟩
              · refine v_iload_n C dX10_faultOf_162 rfl ?_
                refine v_iconst C dX10_faultOf_163 (v := 1) rfl ?_
                refine v_iadd C dX10_faultOf_164 ?_
                refine v_istore (lv' := [(4, .int (3 + 1)), (5, .int 0), (3, .int (sg k)), (0, .ref md), (1, .int 3), (2, .int (nI k))]) C dX10_faultOf_165 hN (by decide) rfl ?_
                refine v_goto (tgt := 183) C dX10_faultOf_167 (by decide) ?_
                have hnx : aut sg (k + 1) = 4 := by rw [aut_s, hst]; simp [stp, h159, show qin (38 : Int32) 48 57 = false from by decide, show qin (124 : Int32) 48 57 = false from by decide]
                refine v_iload C dX10_faultOf_183 rfl ?_
                refine v_if_ge (tgt := 190) C dX10_faultOf_185 (by decide) (fun h185 => ?_) (fun hbad => absurd hbad (by decide))
                refine v_iload C dX10_faultOf_190 rfl ?_
                refine v_istore_n (lv' := [(1, .int (3 + 1)), (4, .int (3 + 1)), (5, .int 0), (3, .int (sg k)), (0, .ref md), (2, .int (nI k))]) C dX10_faultOf_192 hN (by decide) rfl ?_
                refine v_iinc (lv' := [(2, .int (nI (k + 1))), (1, .int (3 + 1)), (4, .int (3 + 1)), (5, .int 0), (3, .int (sg k)), (0, .ref md)]) C dX10_faultOf_193 5 rfl (nI_1 _) hN (by decide) rfl ?_
                refine v_goto (tgt := 4) C dX10_faultOf_196 (by decide) ?_
                refine v_sub (lv' := [(0, .ref md), (1, .int (3 + 1)), (2, .int (nI (k + 1)))]) [5, 1, 0] rfl ?_
                have e0 := ih4 (k + 1) (by omega) (fstB_step h2 (decide_eq_false (by omega))) (by omega) (by omega)
                rw [hnx] at e0
                exact e0
            · refine v_iconst C dX10_faultOf_35 (v := 1) rfl ?_
              refine v_goto (tgt := 40) C dX10_faultOf_36 (by decide) ?_
              refine v_istore (lv' := [(5, .int 1), (4, .int ((-6))), (3, .int (sg k)), (0, .ref md), (1, .int 3), (2, .int (nI k))]) C dX10_faultOf_40 hN (by decide) rfl ?_
              refine v_iload_n C dX10_faultOf_42 rfl ?_
              refine v_if_ne (tgt := 85) C dX10_faultOf_43 (by decide) (fun h43 => ?_) (fun hbad => absurd hbad (by decide))
              refine v_iload_n C dX10_faultOf_85 rfl ?_
              refine v_iconst C dX10_faultOf_86 (v := 1) rfl ?_
              refine v_icmp_ne (tgt := 112) C dX10_faultOf_87 (by decide) (fun h87 => ?_) (fun hbad => absurd hbad (by decide))
              refine v_iload_n C dX10_faultOf_112 rfl ?_
              refine v_iconst C dX10_faultOf_113 (v := 2) rfl ?_
              refine v_icmp_ne (tgt := 146) C dX10_faultOf_114 (by decide) (fun h114 => ?_) (fun hbad => absurd hbad (by decide))
              refine v_iload_n C dX10_faultOf_146 rfl ?_
              refine v_iconst C dX10_faultOf_147 (v := 5) rfl ?_
              refine v_icmp_ge (tgt := 170) C dX10_faultOf_148 (by decide) (fun hbad => absurd hbad (by decide)) (fun h148 => ?_)
              refine v_iload_n C dX10_faultOf_151 rfl ?_
              refine v_bipush C dX10_faultOf_152 (v := 48) rfl ?_
              refine v_bipush C dX10_faultOf_154 (v := 57) rfl ?_
              refine v_callS (As := [.int (sg k), .int 48, .int 57]) (rest := []) C (c_X10_in (xl X) (xg X) (sg k) 48 57 M) pm_X10_in wT_X10_in wM_X10_35 ⟨by decide, by decide⟩ ⟨by decide, by decide⟩ (nle rfl) dX10_faultOf_156 rfl (dt1 ?_)
              show V X (rmD 4 0 0) M 0 0 [(5, .int 1), (4, .int ((-6))), (3, .int (sg k)), (0, .ref md), (1, .int 3), (2, .int (nI k))] 159 [.int (bI (qin (sg k) 48 57))]
              refine v_ifb_eq (tgt := 170) C dX10_faultOf_159 (by decide) (fun h159 => ?_) (fun h159 => ?_)
              · refine v_iload_n C dX10_faultOf_170 rfl ?_
                refine v_iconst C dX10_faultOf_171 (v := 3) rfl ?_
                refine v_icmp_le (tgt := 183) C dX10_faultOf_172 (by decide) (fun h172 => ?_) (fun hbad => absurd hbad (by decide))
                have hnx : aut sg (k + 1) = 6 := by rw [aut_s, hst]; simp [stp, h159, show qin (38 : Int32) 48 57 = false from by decide, show qin (124 : Int32) 48 57 = false from by decide]
                refine v_iload C dX10_faultOf_183 rfl ?_
                refine v_if_ge (tgt := 190) C dX10_faultOf_185 (by decide) (fun hbad => absurd hbad (by decide)) (fun h185 => ?_)
                refine v_iload_n C dX10_faultOf_188 rfl ?_
                exact v_iret C E dX10_faultOf_189 (nle rfl) (nle rfl) ⟨by rw [faultN, fstB_hit h2 (decide_eq_true hnx) g9]; rfl, rfl⟩
              · refine v_iload_n C dX10_faultOf_162 rfl ?_
                refine v_iconst C dX10_faultOf_163 (v := 1) rfl ?_
                refine v_iadd C dX10_faultOf_164 ?_
                refine v_istore (lv' := [(4, .int (3 + 1)), (5, .int 1), (3, .int (sg k)), (0, .ref md), (1, .int 3), (2, .int (nI k))]) C dX10_faultOf_165 hN (by decide) rfl ?_
                refine v_goto (tgt := 183) C dX10_faultOf_167 (by decide) ?_
                have hnx : aut sg (k + 1) = 4 := by rw [aut_s, hst]; simp [stp, h159, show qin (38 : Int32) 48 57 = false from by decide, show qin (124 : Int32) 48 57 = false from by decide]
                refine v_iload C dX10_faultOf_183 rfl ?_
                refine v_if_ge (tgt := 190) C dX10_faultOf_185 (by decide) (fun h185 => ?_) (fun hbad => absurd hbad (by decide))
                refine v_iload C dX10_faultOf_190 rfl ?_
                refine v_istore_n (lv' := [(1, .int (3 + 1)), (4, .int (3 + 1)), (5, .int 1), (3, .int (sg k)), (0, .ref md), (2, .int (nI k))]) C dX10_faultOf_192 hN (by decide) rfl ?_
                refine v_iinc (lv' := [(2, .int (nI (k + 1))), (1, .int (3 + 1)), (4, .int (3 + 1)), (5, .int 1), (3, .int (sg k)), (0, .ref md)]) C dX10_faultOf_193 5 rfl (nI_1 _) hN (by decide) rfl ?_
                refine v_goto (tgt := 4) C dX10_faultOf_196 (by decide) ?_
                refine v_sub (lv' := [(0, .ref md), (1, .int (3 + 1)), (2, .int (nI (k + 1)))]) [5, 1, 0] rfl ?_
                have e0 := ih4 (k + 1) (by omega) (fstB_step h2 (decide_eq_false (by omega))) (by omega) (by omega)
                rw [hnx] at e0
                exact e0
        · rw [show nI (aut sg k) = 4 from by rw [hst]; rfl]
          show V X (rmD 4 0 0) M 0 0 [(4, .int ((-6))), (3, .int (sg k)), (0, .ref md), (1, .int 4), (2, .int (nI k))] 23 []
          refine v_iload_n C dX10_faultOf_23 rfl ?_
          refine v_bipush C dX10_faultOf_24 (v := 38) rfl ?_
          refine v_icmp_eq (tgt := 35) C dX10_faultOf_26 (by decide) (fun h26 => ?_) (fun h26 => ?_)
          · refine v_iconst C dX10_faultOf_35 (v := 1) rfl ?_
            refine v_goto (tgt := 40) C dX10_faultOf_36 (by decide) ?_
            refine v_istore (lv' := [(5, .int 1), (4, .int ((-6))), (3, .int (sg k)), (0, .ref md), (1, .int 4), (2, .int (nI k))]) C dX10_faultOf_40 hN (by decide) rfl ?_
            refine v_iload_n C dX10_faultOf_42 rfl ?_
            refine v_if_ne (tgt := 85) C dX10_faultOf_43 (by decide) (fun h43 => ?_) (fun hbad => absurd hbad (by decide))
            refine v_iload_n C dX10_faultOf_85 rfl ?_
            refine v_iconst C dX10_faultOf_86 (v := 1) rfl ?_
            refine v_icmp_ne (tgt := 112) C dX10_faultOf_87 (by decide) (fun h87 => ?_) (fun hbad => absurd hbad (by decide))
            refine v_iload_n C dX10_faultOf_112 rfl ?_
            refine v_iconst C dX10_faultOf_113 (v := 2) rfl ?_
            refine v_icmp_ne (tgt := 146) C dX10_faultOf_114 (by decide) (fun h114 => ?_) (fun hbad => absurd hbad (by decide))
            refine v_iload_n C dX10_faultOf_146 rfl ?_
            refine v_iconst C dX10_faultOf_147 (v := 5) rfl ?_
            refine v_icmp_ge (tgt := 170) C dX10_faultOf_148 (by decide) (fun hbad => absurd hbad (by decide)) (fun h148 => ?_)
            refine v_iload_n C dX10_faultOf_151 rfl ?_
            refine v_bipush C dX10_faultOf_152 (v := 48) rfl ?_
            refine v_bipush C dX10_faultOf_154 (v := 57) rfl ?_
            refine v_callS (As := [.int (sg k), .int 48, .int 57]) (rest := []) C (c_X10_in (xl X) (xg X) (sg k) 48 57 M) pm_X10_in wT_X10_in wM_X10_35 ⟨by decide, by decide⟩ ⟨by decide, by decide⟩ (nle rfl) dX10_faultOf_156 rfl (dt1 ?_)
            show V X (rmD 4 0 0) M 0 0 [(5, .int 1), (4, .int ((-6))), (3, .int (sg k)), (0, .ref md), (1, .int 4), (2, .int (nI k))] 159 [.int (bI (qin (sg k) 48 57))]
            refine v_ifb_eq (tgt := 170) C dX10_faultOf_159 (by decide) (fun h159 => ?_) (fun h159 => ?_)
            · refine v_iload_n C dX10_faultOf_170 rfl ?_
              refine v_iconst C dX10_faultOf_171 (v := 3) rfl ?_
              refine v_icmp_le (tgt := 183) C dX10_faultOf_172 (by decide) (fun hbad => absurd hbad (by decide)) (fun h172 => ?_)
              refine v_iload C dX10_faultOf_175 rfl ?_
              refine v_if_eq (tgt := 183) C dX10_faultOf_177 (by decide) (fun hbad => absurd hbad (by decide)) (fun h177 => ?_)
              refine v_iconst C dX10_faultOf_180 (v := 0) rfl ?_
              refine v_istore (lv' := [(4, .int 0), (5, .int 1), (3, .int (sg k)), (0, .ref md), (1, .int 4), (2, .int (nI k))]) C dX10_faultOf_181 hN (by decide) rfl ?_
              have hnx : aut sg (k + 1) = 0 := by rw [aut_s, hst]; simp [stp, h26, h159, show qin (38 : Int32) 48 57 = false from by decide, show qin (124 : Int32) 48 57 = false from by decide]
              refine v_iload C dX10_faultOf_183 rfl ?_
              refine v_if_ge (tgt := 190) C dX10_faultOf_185 (by decide) (fun h185 => ?_) (fun hbad => absurd hbad (by decide))
              refine v_iload C dX10_faultOf_190 rfl ?_
              refine v_istore_n (lv' := [(1, .int 0), (4, .int 0), (5, .int 1), (3, .int (sg k)), (0, .ref md), (2, .int (nI k))]) C dX10_faultOf_192 hN (by decide) rfl ?_
              refine v_iinc (lv' := [(2, .int (nI (k + 1))), (1, .int 0), (4, .int 0), (5, .int 1), (3, .int (sg k)), (0, .ref md)]) C dX10_faultOf_193 5 rfl (nI_1 _) hN (by decide) rfl ?_
              refine v_goto (tgt := 4) C dX10_faultOf_196 (by decide) ?_
              refine v_sub (lv' := [(0, .ref md), (1, .int 0), (2, .int (nI (k + 1)))]) [5, 1, 0] rfl ?_
              have e0 := ih4 (k + 1) (by omega) (fstB_step h2 (decide_eq_false (by omega))) (by omega) (by omega)
              rw [hnx] at e0
              exact e0
            · refine v_iload_n C dX10_faultOf_162 rfl ?_
              refine v_iconst C dX10_faultOf_163 (v := 1) rfl ?_
              refine v_iadd C dX10_faultOf_164 ?_
              refine v_istore (lv' := [(4, .int (4 + 1)), (5, .int 1), (3, .int (sg k)), (0, .ref md), (1, .int 4), (2, .int (nI k))]) C dX10_faultOf_165 hN (by decide) rfl ?_
              refine v_goto (tgt := 183) C dX10_faultOf_167 (by decide) ?_
              have hnx : aut sg (k + 1) = 5 := by rw [aut_s, hst]; simp [stp, h159, show qin (38 : Int32) 48 57 = false from by decide, show qin (124 : Int32) 48 57 = false from by decide]
              refine v_iload C dX10_faultOf_183 rfl ?_
              refine v_if_ge (tgt := 190) C dX10_faultOf_185 (by decide) (fun h185 => ?_) (fun hbad => absurd hbad (by decide))
              refine v_iload C dX10_faultOf_190 rfl ?_
              refine v_istore_n (lv' := [(1, .int (4 + 1)), (4, .int (4 + 1)), (5, .int 1), (3, .int (sg k)), (0, .ref md), (2, .int (nI k))]) C dX10_faultOf_192 hN (by decide) rfl ?_
              refine v_iinc (lv' := [(2, .int (nI (k + 1))), (1, .int (4 + 1)), (4, .int (4 + 1)), (5, .int 1), (3, .int (sg k)), (0, .ref md)]) C dX10_faultOf_193 5 rfl (nI_1 _) hN (by decide) rfl ?_
              refine v_goto (tgt := 4) C dX10_faultOf_196 (by decide) ?_
              refine v_sub (lv' := [(0, .ref md), (1, .int (4 + 1)), (2, .int (nI (k + 1)))]) [5, 1, 0] rfl ?_
              have e0 := ih4 (k + 1) (by omega) (fstB_step h2 (decide_eq_false (by omega))) (by omega) (by omega)
              rw [hnx] at e0
              exact e0
          · refine v_iload_n C dX10_faultOf_29 rfl ?_
            refine v_bipush C dX10_faultOf_30 (v := 124) rfl ?_
            refine v_icmp_ne (tgt := 39) C dX10_faultOf_32 (by decide) (fun h32 => ?_) (fun h32 => ?_)
            · refine v_iconst C dX10_faultOf_39 (v := 0) rfl ?_
              refine v_istore (lv' := [(5, .int 0), (4, .int ((-6))), (3, .int (sg k)), (0, .ref md), (1, .int 4), (2, .int (nI k))]) C dX10_faultOf_40 hN (by decide) rfl ?_
              refine v_iload_n C dX10_faultOf_42 rfl ?_
              refine v_if_ne (tgt := 85) C dX10_faultOf_43 (by decide) (fun h43 => ?_) (fun hbad => absurd hbad (by decide))
              refine v_iload_n C dX10_faultOf_85 rfl ?_
              refine v_iconst C dX10_faultOf_86 (v := 1) rfl ?_
              refine v_icmp_ne (tgt := 112) C dX10_faultOf_87 (by decide) (fun h87 => ?_) (fun hbad => absurd hbad (by decide))
              refine v_iload_n C dX10_faultOf_112 rfl ?_
              refine v_iconst C dX10_faultOf_113 (v := 2) rfl ?_
              refine v_icmp_ne (tgt := 146) C dX10_faultOf_114 (by decide) (fun h114 => ?_) (fun hbad => absurd hbad (by decide))
              refine v_iload_n C dX10_faultOf_146 rfl ?_
              refine v_iconst C dX10_faultOf_147 (v := 5) rfl ?_
              refine v_icmp_ge (tgt := 170) C dX10_faultOf_148 (by decide) (fun hbad => absurd hbad (by decide)) (fun h148 => ?_)
              refine v_iload_n C dX10_faultOf_151 rfl ?_
              refine v_bipush C dX10_faultOf_152 (v := 48) rfl ?_
              refine v_bipush C dX10_faultOf_154 (v := 57) rfl ?_
              refine v_callS (As := [.int (sg k), .int 48, .int 57]) (rest := []) C (c_X10_in (xl X) (xg X) (sg k) 48 57 M) pm_X10_in wT_X10_in wM_X10_35 ⟨by decide, by decide⟩ ⟨by decide, by decide⟩ (nle rfl) dX10_faultOf_156 rfl (dt1 ?_)
              show V X (rmD 4 0 0) M 0 0 [(5, .int 0), (4, .int ((-6))), (3, .int (sg k)), (0, .ref md), (1, .int 4), (2, .int (nI k))] 159 [.int (bI (qin (sg k) 48 57))]
              refine v_ifb_eq (tgt := 170) C dX10_faultOf_159 (by decide) (fun h159 => ?_) (fun h159 => ?_)
              · refine v_iload_n C dX10_faultOf_170 rfl ?_
                refine v_iconst C dX10_faultOf_171 (v := 3) rfl ?_
                refine v_icmp_le (tgt := 183) C dX10_faultOf_172 (by decide) (fun hbad => absurd hbad (by decide)) (fun h172 => ?_)
                refine v_iload C dX10_faultOf_175 rfl ?_
                refine v_if_eq (tgt := 183) C dX10_faultOf_177 (by decide) (fun h177 => ?_) (fun hbad => absurd hbad (by decide))
                have hnx : aut sg (k + 1) = 6 := by rw [aut_s, hst]; simp [stp, h26, h32, h159, show qin (38 : Int32) 48 57 = false from by decide, show qin (124 : Int32) 48 57 = false from by decide]
                refine v_iload C dX10_faultOf_183 rfl ?_
                refine v_if_ge (tgt := 190) C dX10_faultOf_185 (by decide) (fun hbad => absurd hbad (by decide)) (fun h185 => ?_)
                refine v_iload_n C dX10_faultOf_188 rfl ?_
                exact v_iret C E dX10_faultOf_189 (nle rfl) (nle rfl) ⟨by rw [faultN, fstB_hit h2 (decide_eq_true hnx) g9]; rfl, rfl⟩
              · refine v_iload_n C dX10_faultOf_162 rfl ?_
                refine v_iconst C dX10_faultOf_163 (v := 1) rfl ?_
                refine v_iadd C dX10_faultOf_164 ?_
                refine v_istore (lv' := [(4, .int (4 + 1)), (5, .int 0), (3, .int (sg k)), (0, .ref md), (1, .int 4), (2, .int (nI k))]) C dX10_faultOf_165 hN (by decide) rfl ?_
                refine v_goto (tgt := 183) C dX10_faultOf_167 (by decide) ?_
                have hnx : aut sg (k + 1) = 5 := by rw [aut_s, hst]; simp [stp, h159, show qin (38 : Int32) 48 57 = false from by decide, show qin (124 : Int32) 48 57 = false from by decide]
                refine v_iload C dX10_faultOf_183 rfl ?_
                refine v_if_ge (tgt := 190) C dX10_faultOf_185 (by decide) (fun h185 => ?_) (fun hbad => absurd hbad (by decide))
                refine v_iload C dX10_faultOf_190 rfl ?_
                refine v_istore_n (lv' := [(1, .int (4 + 1)), (4, .int (4 + 1)), (5, .int 0), (3, .int (sg k)), (0, .ref md), (2, .int (nI k))]) C dX10_faultOf_192 hN (by decide) rfl ?_
                refine v_iinc (lv' := [(2, .int (nI (k + 1))), (1, .int (4 + 1)), (4, .int (4 + 1)), (5, .int 0), (3, .int (sg k)), (0, .ref md)]) C dX10_faultOf_193 5 rfl (nI_1 _) hN (by decide) rfl ?_
                refine v_goto (tgt := 4) C dX10_faultOf_196 (by decide) ?_
                refine v_sub (lv' := [(0, .ref md), (1, .int (4 + 1)), (2, .int (nI (k + 1)))]) [5, 1, 0] rfl ?_
                have e0 := ih4 (k + 1) (by omega) (fstB_step h2 (decide_eq_false (by omega))) (by omega) (by omega)
                rw [hnx] at e0
                exact e0
            · refine v_iconst C dX10_faultOf_35 (v := 1) rfl ?_
              refine v_goto (tgt := 40) C dX10_faultOf_36 (by decide) ?_
              refine v_istore (lv' := [(5, .int 1), (4, .int ((-6))), (3, .int (sg k)), (0, .ref md), (1, .int 4), (2, .int (nI k))]) C dX10_faultOf_40 hN (by decide) rfl ?_
              refine v_iload_n C dX10_faultOf_42 rfl ?_
              refine v_if_ne (tgt := 85) C dX10_faultOf_43 (by decide) (fun h43 => ?_) (fun hbad => absurd hbad (by decide))
              refine v_iload_n C dX10_faultOf_85 rfl ?_
              refine v_iconst C dX10_faultOf_86 (v := 1) rfl ?_
              refine v_icmp_ne (tgt := 112) C dX10_faultOf_87 (by decide) (fun h87 => ?_) (fun hbad => absurd hbad (by decide))
              refine v_iload_n C dX10_faultOf_112 rfl ?_
              refine v_iconst C dX10_faultOf_113 (v := 2) rfl ?_
              refine v_icmp_ne (tgt := 146) C dX10_faultOf_114 (by decide) (fun h114 => ?_) (fun hbad => absurd hbad (by decide))
              refine v_iload_n C dX10_faultOf_146 rfl ?_
              refine v_iconst C dX10_faultOf_147 (v := 5) rfl ?_
              refine v_icmp_ge (tgt := 170) C dX10_faultOf_148 (by decide) (fun hbad => absurd hbad (by decide)) (fun h148 => ?_)
              refine v_iload_n C dX10_faultOf_151 rfl ?_
              refine v_bipush C dX10_faultOf_152 (v := 48) rfl ?_
              refine v_bipush C dX10_faultOf_154 (v := 57) rfl ?_
              refine v_callS (As := [.int (sg k), .int 48, .int 57]) (rest := []) C (c_X10_in (xl X) (xg X) (sg k) 48 57 M) pm_X10_in wT_X10_in wM_X10_35 ⟨by decide, by decide⟩ ⟨by decide, by decide⟩ (nle rfl) dX10_faultOf_156 rfl (dt1 ?_)
              show V X (rmD 4 0 0) M 0 0 [(5, .int 1), (4, .int ((-6))), (3, .int (sg k)), (0, .ref md), (1, .int 4), (2, .int (nI k))] 159 [.int (bI (qin (sg k) 48 57))]
              refine v_ifb_eq (tgt := 170) C dX10_faultOf_159 (by decide) (fun h159 => ?_) (fun h159 => ?_)
              · refine v_iload_n C dX10_faultOf_170 rfl ?_
                refine v_iconst C dX10_faultOf_171 (v := 3) rfl ?_
                refine v_icmp_le (tgt := 183) C dX10_faultOf_172 (by decide) (fun hbad => absurd hbad (by decide)) (fun h172 => ?_)
                refine v_iload C dX10_faultOf_175 rfl ?_
                refine v_if_eq (tgt := 183) C dX10_faultOf_177 (by decide) (fun hbad => absurd hbad (by decide)) (fun h177 => ?_)
                refine v_iconst C dX10_faultOf_180 (v := 0) rfl ?_
                refine v_istore (lv' := [(4, .int 0), (5, .int 1), (3, .int (sg k)), (0, .ref md), (1, .int 4), (2, .int (nI k))]) C dX10_faultOf_181 hN (by decide) rfl ?_
                have hnx : aut sg (k + 1) = 0 := by rw [aut_s, hst]; simp [stp, h26, h32, h159, show qin (38 : Int32) 48 57 = false from by decide, show qin (124 : Int32) 48 57 = false from by decide]
                refine v_iload C dX10_faultOf_183 rfl ?_
                refine v_if_ge (tgt := 190) C dX10_faultOf_185 (by decide) (fun h185 => ?_) (fun hbad => absurd hbad (by decide))
                refine v_iload C dX10_faultOf_190 rfl ?_
                refine v_istore_n (lv' := [(1, .int 0), (4, .int 0), (5, .int 1), (3, .int (sg k)), (0, .ref md), (2, .int (nI k))]) C dX10_faultOf_192 hN (by decide) rfl ?_
                refine v_iinc (lv' := [(2, .int (nI (k + 1))), (1, .int 0), (4, .int 0), (5, .int 1), (3, .int (sg k)), (0, .ref md)]) C dX10_faultOf_193 5 rfl (nI_1 _) hN (by decide) rfl ?_
                refine v_goto (tgt := 4) C dX10_faultOf_196 (by decide) ?_
                refine v_sub (lv' := [(0, .ref md), (1, .int 0), (2, .int (nI (k + 1)))]) [5, 1, 0] rfl ?_
                have e0 := ih4 (k + 1) (by omega) (fstB_step h2 (decide_eq_false (by omega))) (by omega) (by omega)
                rw [hnx] at e0
                exact e0
              · refine v_iload_n C dX10_faultOf_162 rfl ?_
                refine v_iconst C dX10_faultOf_163 (v := 1) rfl ?_
                refine v_iadd C dX10_faultOf_164 ?_
                refine v_istore (lv' := [(4, .int (4 + 1)), (5, .int 1), (3, .int (sg k)), (0, .ref md), (1, .int 4), (2, .int (nI k))]) C dX10_faultOf_165 hN (by decide) rfl ?_
                refine v_goto (tgt := 183) C dX10_faultOf_167 (by decide) ?_
                have hnx : aut sg (k + 1) = 5 := by rw [aut_s, hst]; simp [stp, h159, show qin (38 : Int32) 48 57 = false from by decide, show qin (124 : Int32) 48 57 = false from by decide]
                refine v_iload C dX10_faultOf_183 rfl ?_
                refine v_if_ge (tgt := 190) C dX10_faultOf_185 (by decide) (fun h185 => ?_) (fun hbad => absurd hbad (by decide))
                refine v_iload C dX10_faultOf_190 rfl ?_
                refine v_istore_n (lv' := [(1, .int (4 + 1)), (4, .int (4 + 1)), (5, .int 1), (3, .int (sg k)), (0, .ref md), (2, .int (nI k))]) C dX10_faultOf_192 hN (by decide) rfl ?_
                refine v_iinc (lv' := [(2, .int (nI (k + 1))), (1, .int (4 + 1)), (4, .int (4 + 1)), (5, .int 1), (3, .int (sg k)), (0, .ref md)]) C dX10_faultOf_193 5 rfl (nI_1 _) hN (by decide) rfl ?_
                refine v_goto (tgt := 4) C dX10_faultOf_196 (by decide) ?_
                refine v_sub (lv' := [(0, .ref md), (1, .int (4 + 1)), (2, .int (nI (k + 1)))]) [5, 1, 0] rfl ?_
                have e0 := ih4 (k + 1) (by omega) (fstB_step h2 (decide_eq_false (by omega))) (by omega) (by omega)
                rw [hnx] at e0
                exact e0
        · rw [show nI (aut sg k) = 5 from by rw [hst]; rfl]
          show V X (rmD 4 0 0) M 0 0 [(4, .int ((-6))), (3, .int (sg k)), (0, .ref md), (1, .int 5), (2, .int (nI k))] 23 []
          refine v_iload_n C dX10_faultOf_23 rfl ?_
          refine v_bipush C dX10_faultOf_24 (v := 38) rfl ?_
          refine v_icmp_eq (tgt := 35) C dX10_faultOf_26 (by decide) (fun h26 => ?_) (fun h26 => ?_)
          · refine v_iconst C dX10_faultOf_35 (v := 1) rfl ?_
            refine v_goto (tgt := 40) C dX10_faultOf_36 (by decide) ?_
            refine v_istore (lv' := [(5, .int 1), (4, .int ((-6))), (3, .int (sg k)), (0, .ref md), (1, .int 5), (2, .int (nI k))]) C dX10_faultOf_40 hN (by decide) rfl ?_
            refine v_iload_n C dX10_faultOf_42 rfl ?_
            refine v_if_ne (tgt := 85) C dX10_faultOf_43 (by decide) (fun h43 => ?_) (fun hbad => absurd hbad (by decide))
            refine v_iload_n C dX10_faultOf_85 rfl ?_
            refine v_iconst C dX10_faultOf_86 (v := 1) rfl ?_
            refine v_icmp_ne (tgt := 112) C dX10_faultOf_87 (by decide) (fun h87 => ?_) (fun hbad => absurd hbad (by decide))
            refine v_iload_n C dX10_faultOf_112 rfl ?_
            refine v_iconst C dX10_faultOf_113 (v := 2) rfl ?_
            refine v_icmp_ne (tgt := 146) C dX10_faultOf_114 (by decide) (fun h114 => ?_) (fun hbad => absurd hbad (by decide))
            refine v_iload_n C dX10_faultOf_146 rfl ?_
            refine v_iconst C dX10_faultOf_147 (v := 5) rfl ?_
            refine v_icmp_ge (tgt := 170) C dX10_faultOf_148 (by decide) (fun h148 => ?_) (fun hbad => absurd hbad (by decide))
            refine v_iload_n C dX10_faultOf_170 rfl ?_
            refine v_iconst C dX10_faultOf_171 (v := 3) rfl ?_
            refine v_icmp_le (tgt := 183) C dX10_faultOf_172 (by decide) (fun hbad => absurd hbad (by decide)) (fun h172 => ?_)
            refine v_iload C dX10_faultOf_175 rfl ?_
            refine v_if_eq (tgt := 183) C dX10_faultOf_177 (by decide) (fun hbad => absurd hbad (by decide)) (fun h177 => ?_)
            refine v_iconst C dX10_faultOf_180 (v := 0) rfl ?_
            refine v_istore (lv' := [(4, .int 0), (5, .int 1), (3, .int (sg k)), (0, .ref md), (1, .int 5), (2, .int (nI k))]) C dX10_faultOf_181 hN (by decide) rfl ?_
            have hnx : aut sg (k + 1) = 0 := by rw [aut_s, hst]; simp [stp, h26, show qin (38 : Int32) 48 57 = false from by decide, show qin (124 : Int32) 48 57 = false from by decide]
            refine v_iload C dX10_faultOf_183 rfl ?_
            refine v_if_ge (tgt := 190) C dX10_faultOf_185 (by decide) (fun h185 => ?_) (fun hbad => absurd hbad (by decide))
            refine v_iload C dX10_faultOf_190 rfl ?_
            refine v_istore_n (lv' := [(1, .int 0), (4, .int 0), (5, .int 1), (3, .int (sg k)), (0, .ref md), (2, .int (nI k))]) C dX10_faultOf_192 hN (by decide) rfl ?_
            refine v_iinc (lv' := [(2, .int (nI (k + 1))), (1, .int 0), (4, .int 0), (5, .int 1), (3, .int (sg k)), (0, .ref md)]) C dX10_faultOf_193 5 rfl (nI_1 _) hN (by decide) rfl ?_
            refine v_goto (tgt := 4) C dX10_faultOf_196 (by decide) ?_
            refine v_sub (lv' := [(0, .ref md), (1, .int 0), (2, .int (nI (k + 1)))]) [5, 1, 0] rfl ?_
            have e0 := ih4 (k + 1) (by omega) (fstB_step h2 (decide_eq_false (by omega))) (by omega) (by omega)
            rw [hnx] at e0
            exact e0
          · refine v_iload_n C dX10_faultOf_29 rfl ?_
            refine v_bipush C dX10_faultOf_30 (v := 124) rfl ?_
            refine v_icmp_ne (tgt := 39) C dX10_faultOf_32 (by decide) (fun h32 => ?_) (fun h32 => ?_)
            · refine v_iconst C dX10_faultOf_39 (v := 0) rfl ?_
              refine v_istore (lv' := [(5, .int 0), (4, .int ((-6))), (3, .int (sg k)), (0, .ref md), (1, .int 5), (2, .int (nI k))]) C dX10_faultOf_40 hN (by decide) rfl ?_
              refine v_iload_n C dX10_faultOf_42 rfl ?_
              refine v_if_ne (tgt := 85) C dX10_faultOf_43 (by decide) (fun h43 => ?_) (fun hbad => absurd hbad (by decide))
              refine v_iload_n C dX10_faultOf_85 rfl ?_
              refine v_iconst C dX10_faultOf_86 (v := 1) rfl ?_
              refine v_icmp_ne (tgt := 112) C dX10_faultOf_87 (by decide) (fun h87 => ?_) (fun hbad => absurd hbad (by decide))
              refine v_iload_n C dX10_faultOf_112 rfl ?_
              refine v_iconst C dX10_faultOf_113 (v := 2) rfl ?_
              refine v_icmp_ne (tgt := 146) C dX10_faultOf_114 (by decide) (fun h114 => ?_) (fun hbad => absurd hbad (by decide))
              refine v_iload_n C dX10_faultOf_146 rfl ?_
              refine v_iconst C dX10_faultOf_147 (v := 5) rfl ?_
              refine v_icmp_ge (tgt := 170) C dX10_faultOf_148 (by decide) (fun h148 => ?_) (fun hbad => absurd hbad (by decide))
              refine v_iload_n C dX10_faultOf_170 rfl ?_
              refine v_iconst C dX10_faultOf_171 (v := 3) rfl ?_
              refine v_icmp_le (tgt := 183) C dX10_faultOf_172 (by decide) (fun hbad => absurd hbad (by decide)) (fun h172 => ?_)
              refine v_iload C dX10_faultOf_175 rfl ?_
              refine v_if_eq (tgt := 183) C dX10_faultOf_177 (by decide) (fun h177 => ?_) (fun hbad => absurd hbad (by decide))
              have hnx : aut sg (k + 1) = 6 := by rw [aut_s, hst]; simp [stp, h26, h32, show qin (38 : Int32) 48 57 = false from by decide, show qin (124 : Int32) 48 57 = false from by decide]
              refine v_iload C dX10_faultOf_183 rfl ?_
              refine v_if_ge (tgt := 190) C dX10_faultOf_185 (by decide) (fun hbad => absurd hbad (by decide)) (fun h185 => ?_)
              refine v_iload_n C dX10_faultOf_188 rfl ?_
              exact v_iret C E dX10_faultOf_189 (nle rfl) (nle rfl) ⟨by rw [faultN, fstB_hit h2 (decide_eq_true hnx) g9]; rfl, rfl⟩
            · refine v_iconst C dX10_faultOf_35 (v := 1) rfl ?_
              refine v_goto (tgt := 40) C dX10_faultOf_36 (by decide) ?_
              refine v_istore (lv' := [(5, .int 1), (4, .int ((-6))), (3, .int (sg k)), (0, .ref md), (1, .int 5), (2, .int (nI k))]) C dX10_faultOf_40 hN (by decide) rfl ?_
              refine v_iload_n C dX10_faultOf_42 rfl ?_
              refine v_if_ne (tgt := 85) C dX10_faultOf_43 (by decide) (fun h43 => ?_) (fun hbad => absurd hbad (by decide))
              refine v_iload_n C dX10_faultOf_85 rfl ?_
              refine v_iconst C dX10_faultOf_86 (v := 1) rfl ?_
              refine v_icmp_ne (tgt := 112) C dX10_faultOf_87 (by decide) (fun h87 => ?_) (fun hbad => absurd hbad (by decide))
              refine v_iload_n C dX10_faultOf_112 rfl ?_
              refine v_iconst C dX10_faultOf_113 (v := 2) rfl ?_
              refine v_icmp_ne (tgt := 146) C dX10_faultOf_114 (by decide) (fun h114 => ?_) (fun hbad => absurd hbad (by decide))
              refine v_iload_n C dX10_faultOf_146 rfl ?_
              refine v_iconst C dX10_faultOf_147 (v := 5) rfl ?_
              refine v_icmp_ge (tgt := 170) C dX10_faultOf_148 (by decide) (fun h148 => ?_) (fun hbad => absurd hbad (by decide))
              refine v_iload_n C dX10_faultOf_170 rfl ?_
              refine v_iconst C dX10_faultOf_171 (v := 3) rfl ?_
              refine v_icmp_le (tgt := 183) C dX10_faultOf_172 (by decide) (fun hbad => absurd hbad (by decide)) (fun h172 => ?_)
              refine v_iload C dX10_faultOf_175 rfl ?_
              refine v_if_eq (tgt := 183) C dX10_faultOf_177 (by decide) (fun hbad => absurd hbad (by decide)) (fun h177 => ?_)
              refine v_iconst C dX10_faultOf_180 (v := 0) rfl ?_
              refine v_istore (lv' := [(4, .int 0), (5, .int 1), (3, .int (sg k)), (0, .ref md), (1, .int 5), (2, .int (nI k))]) C dX10_faultOf_181 hN (by decide) rfl ?_
              have hnx : aut sg (k + 1) = 0 := by rw [aut_s, hst]; simp [stp, h26, h32, show qin (38 : Int32) 48 57 = false from by decide, show qin (124 : Int32) 48 57 = false from by decide]
              refine v_iload C dX10_faultOf_183 rfl ?_
              refine v_if_ge (tgt := 190) C dX10_faultOf_185 (by decide) (fun h185 => ?_) (fun hbad => absurd hbad (by decide))
              refine v_iload C dX10_faultOf_190 rfl ?_
              refine v_istore_n (lv' := [(1, .int 0), (4, .int 0), (5, .int 1), (3, .int (sg k)), (0, .ref md), (2, .int (nI k))]) C dX10_faultOf_192 hN (by decide) rfl ?_
              refine v_iinc (lv' := [(2, .int (nI (k + 1))), (1, .int 0), (4, .int 0), (5, .int 1), (3, .int (sg k)), (0, .ref md)]) C dX10_faultOf_193 5 rfl (nI_1 _) hN (by decide) rfl ?_
              refine v_goto (tgt := 4) C dX10_faultOf_196 (by decide) ?_
              refine v_sub (lv' := [(0, .ref md), (1, .int 0), (2, .int (nI (k + 1)))]) [5, 1, 0] rfl ?_
              have e0 := ih4 (k + 1) (by omega) (fstB_step h2 (decide_eq_false (by omega))) (by omega) (by omega)
              rw [hnx] at e0
              exact e0
  exact lp4 (_ + 1) 0 (Nat.zero_le _) rfl (Nat.succ_pos 5) (Nat.lt_succ_self _)

set_option maxHeartbeats 4000000 in
set_option maxRecDepth 100000 in
theorem c_X10_fault (l : Launch) (g : Gm) (M : Mem) (md : Nat) (t1 t2 t3 t4 t5 t6 t7 t8 : Nat) (fT fD fP fC fS fU fX fF : Nat → Int32) (mo : Int32) (nT : Nat) (m : Nat → Nat → Nat) (dB : Nat → Nat → Bool) (nP : Nat) (pf : Nat → Nat → Nat) (cB : Nat → Nat → Bool) (nS : Nat) (sg : Nat → Int32) (ln : Nat → Nat) (tx : Nat → Nat → Int32) (fl : Nat → Nat → Nat) (hM : ModA g M md t1 t2 t3 t4 t5 t6 t7 t8 fT fD fP fC fS fU fX fF mo nT m dB nP pf cB nS sg ln tx fl)  : Ct l g yX10_fault cX10_fault 1 (some .int) 9 0 0 [.ref md] M (fun v N => v = some (.int (oI (faultN sg nS))) ∧ N = M) := by
  refine Ct.of (by decide) (Nat.le_of_ble_eq_true rfl) ?_
  intro X hXl hXg hN C E
  subst hXl; subst hXg
  show V X (rmD 9 0 0) M 0 0 [(0, .ref md)] 0 []
  obtain ⟨hO, h1_, h2_, h3_, h4_, h5_, h6_, h7_, h8_, bT, bP, bS, okT_, cT, cD, okP_, cP, cC, cS, cU, bU_, cX, okX, okF_, cF⟩ := id hM
  refine v_aload_n C dX10_fault_0 rfl ?_
  refine v_callV (As := []) (rest := []) (b := md) C (c_X10_faultOf (xl X) (xg X) M md t1 t2 t3 t4 t5 t6 t7 t8 fT fD fP fC fS fU fX fF mo nT m dB nP pf cB nS sg ln tx fl hM ) pm_X10_faultOf wI_X10_faultOf wS_X10_faultOf wM_X10_83 kX10 hO ⟨by decide, by decide⟩ ⟨by decide, by decide⟩ (nle rfl) dX10_fault_1 rfl (dt1 ?_)
  show V X (rmD 9 0 0) M 0 0 [(0, .ref md)] 4 [.int (oI (faultN sg nS))]
  exact v_iret C E dX10_fault_4 (nle rfl) (nle rfl) ⟨rfl, rfl⟩

set_option maxHeartbeats 4000000 in
set_option maxRecDepth 100000 in
theorem c_X10_say (l : Launch) (g : Gm) (M : Mem) (md : Nat) (t1 t2 t3 t4 t5 t6 t7 t8 : Nat) (fT fD fP fC fS fU fX fF : Nat → Int32) (mo : Int32) (nT : Nat) (m : Nat → Nat → Nat) (dB : Nat → Nat → Bool) (nP : Nat) (pf : Nat → Nat → Nat) (cB : Nat → Nat → Bool) (nS : Nat) (sg : Nat → Int32) (ln : Nat → Nat) (tx : Nat → Nat → Int32) (fl : Nat → Nat → Nat) (hM : ModA g M md t1 t2 t3 t4 t5 t6 t7 t8 fT fD fP fC fS fU fX fF mo nT m dB nP pf cB nS sg ln tx fl) (x : Int32) : Ct l g yX10_say cX10_say 2 (some .int) 9 0 0 [.ref md, .int x] M (fun v N => v = some (.int (aSay nS x)) ∧ (if qin x 33 126 = true ∧ nS < 40 then ModW g N md nT m dB nP pf cB (nS + 1) (upd sg nS x) ln tx fl else ModW g N md nT m dB nP pf cB nS sg ln tx fl)) := by
  refine Ct.of (by decide) (Nat.le_of_ble_eq_true rfl) ?_
  intro X hXl hXg hN C E
  subst hXl; subst hXg
  show V X (rmD 9 0 0) M 0 0 [(0, .ref md), (1, .int x)] 0 []
  obtain ⟨hO, h1_, h2_, h3_, h4_, h5_, h6_, h7_, h8_, bT, bP, bS, okT_, cT, cD, okP_, cP, cC, cS, cU, bU_, cX, okX, okF_, cF⟩ := id hM
  have n_md_t5 := cell_ne hO h5_ (by simp)
  have n_t1_t5 := cell_ne h1_ h5_ (by simp)
  have n_t2_t5 := cell_ne h2_ h5_ (by simp)
  have n_t3_t5 := cell_ne h3_ h5_ (by simp)
  have n_t4_t5 := cell_ne h4_ h5_ (by simp)
  have n_t6_t5 := cell_ne h6_ h5_ (by simp)
  have n_t7_t5 := cell_ne h7_ h5_ (by simp)
  have n_t8_t5 := cell_ne h8_ h5_ (by simp)
  have n_t1_md := cell_ne h1_ hO (by simp)
  have n_t2_md := cell_ne h2_ hO (by simp)
  have n_t3_md := cell_ne h3_ hO (by simp)
  have n_t4_md := cell_ne h4_ hO (by simp)
  have n_t5_md := cell_ne h5_ hO (by simp)
  have n_t6_md := cell_ne h6_ hO (by simp)
  have n_t7_md := cell_ne h7_ hO (by simp)
  have n_t8_md := cell_ne h8_ hO (by simp)
  refine v_iload_n C dX10_say_0 rfl ?_
  refine v_bipush C dX10_say_1 (v := 33) rfl ?_
  refine v_bipush C dX10_say_3 (v := 126) rfl ?_
  refine v_callS (As := [.int x, .int 33, .int 126]) (rest := []) C (c_X10_in (xl X) (xg X) x 33 126 M) pm_X10_in wT_X10_in wM_X10_35 ⟨by decide, by decide⟩ ⟨by decide, by decide⟩ (nle rfl) dX10_say_5 rfl (dt1 ?_)
  show V X (rmD 9 0 0) M 0 0 [(0, .ref md), (1, .int x)] 8 [.int (bI (qin x 33 126))]
  refine v_ifb_ne (tgt := 14) C dX10_say_8 (by decide) (fun h8 => ?_) (fun h8 => ?_)
  · refine v_aload_n C dX10_say_14 rfl ?_
    refine v_get C kX10 hO 6 (by decide) wF_X10_80 rfl dX10_say_15 ?_
    refine v_bipush C dX10_say_18 (v := 40) rfl ?_
    refine v_icmp_ne (tgt := 26) C dX10_say_20 (by decide) (fun h20 => ?_) (fun h20 => ?_)
    · have g20 := nI_neN (b := 40) (by omega) (by decide) h20
      refine v_aload_n C dX10_say_26 rfl ?_
      refine v_get C kX10 hO 7 (by decide) wF_X10_23 rfl dX10_say_27 ?_
      refine v_aload_n C dX10_say_30 rfl ?_
      refine v_get C kX10 hO 6 (by decide) wF_X10_80 rfl dX10_say_31 ?_
      refine v_iload_n C dX10_say_34 rfl ?_
      refine v_iast C h5_ (vp_in_nI (by omega) (by decide)) dX10_say_35 ?_
      show V X (rmD 9 0 0) (mset M t5 (aI (xg X) 40 (upd fS (nI nS : Int32).toNatClampNeg x))) 0 0 [(0, .ref md), (1, .int x)] 36 []
      refine v_aload_n C dX10_say_36 rfl ?_
      refine v_dup C dX10_say_37 rfl ?_
      refine v_get C kX10 ((mset_ne n_md_t5).trans hO) 6 (by decide) wF_X10_80 rfl dX10_say_38 ?_
      refine v_iconst C dX10_say_41 (v := 1) rfl ?_
      refine v_iadd C dX10_say_42 ?_
      rw [nI_1]
      show V X (rmD 9 0 0) (mset M t5 (aI (xg X) 40 (upd fS (nI nS : Int32).toNatClampNeg x))) 0 0 [(0, .ref md), (1, .int x)] 43 [.int (nI (nS + 1)), .ref md]
      refine v_put C kX10 ((mset_ne n_md_t5).trans hO) 6 (by decide) wF_X10_80 rfl rfl rfl (nle rfl) dX10_say_43 ?_
      show V X (rmD 9 0 0) (mset (mset M t5 (aI (xg X) 40 (upd fS (nI nS : Int32).toNatClampNeg x))) md (.inr (10, [.int (nI nT), .ref t1, .ref t2, .int (nI nP), .ref t3, .ref t4, .int (nI (nS + 1)), .ref t5, .ref t6, .ref t7, .ref t8, .int mo]))) 0 0 [(0, .ref md), (1, .int x)] 46 []
      refine v_aload_n C dX10_say_46 rfl ?_
      refine v_get C kX10 (mset_same _ _ _) 6 (by decide) wF_X10_80 rfl dX10_say_47 ?_
      exact v_iret C E dX10_say_50 (nle rfl) (nle rfl) ⟨by simp [aSay, h8, g20], by rw [if_pos ⟨h8, by omega⟩]; exact ⟨t1, t2, t3, t4, t5, t6, t7, t8, fT, fD, fP, fC, upd fS (nI nS : Int32).toNatClampNeg x, fU, fX, fF, mo, mset_same _ _ _, (mset_ne n_t1_md).trans ((mset_ne n_t1_t5).trans h1_), (mset_ne n_t2_md).trans ((mset_ne n_t2_t5).trans h2_), (mset_ne n_t3_md).trans ((mset_ne n_t3_t5).trans h3_), (mset_ne n_t4_md).trans ((mset_ne n_t4_t5).trans h4_), (mset_ne n_t5_md).trans (mset_same _ _ _), (mset_ne n_t6_md).trans ((mset_ne n_t6_t5).trans h6_), (mset_ne n_t7_md).trans ((mset_ne n_t7_t5).trans h7_), (mset_ne n_t8_md).trans ((mset_ne n_t8_t5).trans h8_), bT, bP, (by omega), okT_, cT, cD, okP_, cP, cC, (fun k hk => by rw [nI_clamp (by omega)]; unfold upd; exact if z : k = nS then (by rw [if_pos z, if_pos z]) else (by rw [if_neg z, if_neg z]; exact cS k (by omega))), cU, bU_, cX, okX, okF_, cF⟩⟩
    · have g20 := nI_eqN (b := 40) (by omega) (by decide) h20
      refine v_bipush C dX10_say_23 (v := (-4)) rfl ?_
      exact v_iret C E dX10_say_25 (nle rfl) (nle rfl) ⟨by simp [aSay, h8, g20], by rw [if_neg (by omega)]; exact hM.W⟩
  · refine v_bipush C dX10_say_11 (v := (-2)) rfl ?_
    exact v_iret C E dX10_say_13 (nle rfl) (nle rfl) ⟨by simp [aSay, h8], by rw [if_neg (by rw [h8]; simp)]; exact hM.W⟩

set_option maxHeartbeats 4000000 in
set_option maxRecDepth 100000 in
theorem c_X10_wipe (l : Launch) (g : Gm) (M : Mem) (md : Nat) (t1 t2 t3 t4 t5 t6 t7 t8 : Nat) (fT fD fP fC fS fU fX fF : Nat → Int32) (mo : Int32) (nT : Nat) (m : Nat → Nat → Nat) (dB : Nat → Nat → Bool) (nP : Nat) (pf : Nat → Nat → Nat) (cB : Nat → Nat → Bool) (nS : Nat) (sg : Nat → Int32) (ln : Nat → Nat) (tx : Nat → Nat → Int32) (fl : Nat → Nat → Nat) (hM : ModA g M md t1 t2 t3 t4 t5 t6 t7 t8 fT fD fP fC fS fU fX fF mo nT m dB nP pf cB nS sg ln tx fl)  : Ct l g yX10_wipe cX10_wipe 2 (some .int) 9 0 0 [.ref md] M (fun v N => v = some (.int (nI nS)) ∧ ModW g N md nT m dB nP pf cB 0 sg ln tx fl) := by
  refine Ct.of (by decide) (Nat.le_of_ble_eq_true rfl) ?_
  intro X hXl hXg hN C E
  subst hXl; subst hXg
  show V X (rmD 9 0 0) M 0 0 [(0, .ref md)] 0 []
  obtain ⟨hO, h1_, h2_, h3_, h4_, h5_, h6_, h7_, h8_, bT, bP, bS, okT_, cT, cD, okP_, cP, cC, cS, cU, bU_, cX, okX, okF_, cF⟩ := id hM
  have n_t1_md := cell_ne h1_ hO (by simp)
  have n_t2_md := cell_ne h2_ hO (by simp)
  have n_t3_md := cell_ne h3_ hO (by simp)
  have n_t4_md := cell_ne h4_ hO (by simp)
  have n_t5_md := cell_ne h5_ hO (by simp)
  have n_t6_md := cell_ne h6_ hO (by simp)
  have n_t7_md := cell_ne h7_ hO (by simp)
  have n_t8_md := cell_ne h8_ hO (by simp)
  refine v_aload_n C dX10_wipe_0 rfl ?_
  refine v_get C kX10 hO 6 (by decide) wF_X10_80 rfl dX10_wipe_1 ?_
  refine v_istore_n (lv' := [(1, .int (nI nS)), (0, .ref md)]) C dX10_wipe_4 hN (by decide) rfl ?_
  refine v_aload_n C dX10_wipe_5 rfl ?_
  refine v_iconst C dX10_wipe_6 (v := 0) rfl ?_
  refine v_put C kX10 hO 6 (by decide) wF_X10_80 rfl rfl rfl (nle rfl) dX10_wipe_7 ?_
  show V X (rmD 9 0 0) (mset M md (.inr (10, [.int (nI nT), .ref t1, .ref t2, .int (nI nP), .ref t3, .ref t4, .int 0, .ref t5, .ref t6, .ref t7, .ref t8, .int mo]))) 0 0 [(1, .int (nI nS)), (0, .ref md)] 10 []
  refine v_iload_n C dX10_wipe_10 rfl ?_
  exact v_iret C E dX10_wipe_11 (nle rfl) (nle rfl) ⟨rfl, ⟨t1, t2, t3, t4, t5, t6, t7, t8, fT, fD, fP, fC, fS, fU, fX, fF, mo, mset_same _ _ _, (mset_ne n_t1_md).trans h1_, (mset_ne n_t2_md).trans h2_, (mset_ne n_t3_md).trans h3_, (mset_ne n_t4_md).trans h4_, (mset_ne n_t5_md).trans h5_, (mset_ne n_t6_md).trans h6_, (mset_ne n_t7_md).trans h7_, (mset_ne n_t8_md).trans h8_, bT, bP, (Nat.zero_le _), okT_, cT, cD, okP_, cP, cC, (fun k hk => absurd hk (Nat.not_lt_zero k)), cU, bU_, cX, okX, okF_, cF⟩⟩

theorem qin_5 (x : Int32) : qin x 0 4 = (idx 5 x).isSome := by
  have := qin_pre (n := 5) (by decide) x
  rwa [show nI 5 - 1 = (4 : Int32) from rfl] at this
theorem qin_8 (x : Int32) : qin x 0 7 = (idx 8 x).isSome := by
  have := qin_pre (n := 8) (by decide) x
  rwa [show nI 8 - 1 = (7 : Int32) from rfl] at this
theorem aut_congr {f h : Nat → Int32} : ∀ {n : Nat}, (∀ j, j < n → f j = h j) → aut f n = aut h n
  | 0, _ => rfl
  | n + 1, q => by rw [aut_s, aut_s, aut_congr (fun j hj => q j (by omega)), q n (by omega)]
theorem faultN_congr {f h : Nat → Int32} {n : Nat} (q : ∀ j, j < n → f j = h j) : faultN f n = faultN h n := by
  unfold faultN
  rw [fstB_congr (q := fun i => decide (aut h (i + 1) = 6)) (fun i hi => by rw [aut_congr (fun j hj => q j (by omega))]), aut_congr q]
set_option maxHeartbeats 4000000 in
set_option maxRecDepth 100000 in
theorem c_X10_use (l : Launch) (g : Gm) (M : Mem) (md : Nat) (t1 t2 t3 t4 t5 t6 t7 t8 : Nat) (fT fD fP fC fS fU fX fF : Nat → Int32) (mo : Int32) (nT : Nat) (m : Nat → Nat → Nat) (dB : Nat → Nat → Bool) (nP : Nat) (pf : Nat → Nat → Nat) (cB : Nat → Nat → Bool) (nS : Nat) (sg : Nat → Int32) (ln : Nat → Nat) (tx : Nat → Nat → Int32) (fl : Nat → Nat → Nat) (hM : ModA g M md t1 t2 t3 t4 t5 t6 t7 t8 fT fD fP fC fS fU fX fF mo nT m dB nP pf cB nS sg ln tx fl) (u : Int32) : Ct l g yX10_use cX10_use 4 (some .int) 9 0 0 [.ref md, .int u] M (fun v N => v = some (.int (aUse nS sg ln u)) ∧ (match okUse nS sg u with | none => ModW g N md nT m dB nP pf cB nS sg ln tx fl | some k => ∀ f : Nat → Int32, (∀ j, j < nS → f j = sg j) → ModW g N md nT m dB nP pf cB 0 sg (fun v => if v = k then nS else ln v) (fun v => if v = k then f else tx v) fl)) := by
  refine Ct.of (by decide) (Nat.le_of_ble_eq_true rfl) ?_
  intro X hXl hXg hN C E
  subst hXl; subst hXg
  show V X (rmD 9 0 0) M 0 0 [(0, .ref md), (1, .int u)] 0 []
  obtain ⟨hO, h1_, h2_, h3_, h4_, h5_, h6_, h7_, h8_, bT, bP, bS, okT_, cT, cD, okP_, cP, cC, cS, cU, bU_, cX, okX, okF_, cF⟩ := id hM
  have n_md_t6 := cell_ne hO h6_ (by simp)
  have n_t1_t6 := cell_ne h1_ h6_ (by simp)
  have n_t2_t6 := cell_ne h2_ h6_ (by simp)
  have n_t3_t6 := cell_ne h3_ h6_ (by simp)
  have n_t4_t6 := cell_ne h4_ h6_ (by simp)
  have n_t5_t6 := cell_ne h5_ h6_ (by simp)
  have n_t7_t6 := cell_ne h7_ h6_ (by simp)
  have n_t8_t6 := cell_ne h8_ h6_ (by simp)
  have n_md_t7 := cell_ne hO h7_ (by simp)
  have n_t1_t7 := cell_ne h1_ h7_ (by simp)
  have n_t2_t7 := cell_ne h2_ h7_ (by simp)
  have n_t3_t7 := cell_ne h3_ h7_ (by simp)
  have n_t4_t7 := cell_ne h4_ h7_ (by simp)
  have n_t5_t7 := cell_ne h5_ h7_ (by simp)
  have n_t6_t7 := cell_ne h6_ h7_ (by simp)
  have n_t8_t7 := cell_ne h8_ h7_ (by simp)
  have n_t1_md := cell_ne h1_ hO (by simp)
  have n_t2_md := cell_ne h2_ hO (by simp)
  have n_t3_md := cell_ne h3_ hO (by simp)
  have n_t4_md := cell_ne h4_ hO (by simp)
  have n_t5_md := cell_ne h5_ hO (by simp)
  have n_t6_md := cell_ne h6_ hO (by simp)
  have n_t7_md := cell_ne h7_ hO (by simp)
  have n_t8_md := cell_ne h8_ hO (by simp)
  rcases idx_cases 5 (by decide) u with ⟨i, lt, rfl, hx⟩ | ⟨hn, hx⟩
  · have hzi := trivial
    show V X (rmD 9 0 0) M 0 0 [(0, .ref md), (1, .int (nI i))] 0 []
    refine v_iload_n C dX10_use_0 rfl ?_
    refine v_iconst C dX10_use_1 (v := 0) rfl ?_
    refine v_iconst C dX10_use_2 (v := 4) rfl ?_
    refine v_callS (As := [.int (nI i), .int 0, .int 4]) (rest := []) C (c_X10_in (xl X) (xg X) (nI i) 0 4 M) pm_X10_in wT_X10_in wM_X10_35 ⟨by decide, by decide⟩ ⟨by decide, by decide⟩ (nle rfl) dX10_use_3 rfl (dt1 ?_)
    show V X (rmD 9 0 0) M 0 0 [(0, .ref md), (1, .int (nI i))] 6 [.int (bI (qin (nI i) 0 4))]
    rw [qin_5]
    show V X (rmD 9 0 0) M 0 0 [(0, .ref md), (1, .int (nI i))] 6 [.int (bI ((idx 5 (nI i)).isSome))]
    refine v_ifb_ne (tgt := 11) C dX10_use_6 (by decide) (fun h6 => ?_) (fun hbad => absurd hbad (by rw [hx]; simp))
    refine v_aload_n C dX10_use_11 rfl ?_
    refine v_callV (As := []) (rest := []) (b := md) C (c_X10_faultOf (xl X) (xg X) M md t1 t2 t3 t4 t5 t6 t7 t8 fT fD fP fC fS fU fX fF mo nT m dB nP pf cB nS sg ln tx fl hM ) pm_X10_faultOf wI_X10_faultOf wS_X10_faultOf wM_X10_83 kX10 hO ⟨by decide, by decide⟩ ⟨by decide, by decide⟩ (nle rfl) dX10_use_12 rfl (dt1 ?_)
    show V X (rmD 9 0 0) M 0 0 [(0, .ref md), (1, .int (nI i))] 15 [.int (oI (faultN sg nS))]
    refine v_if_lt (tgt := 21) C dX10_use_15 (by decide) (fun h15 => ?_) (fun h15 => ?_)
    · have g15 : faultN sg nS = none := (oI_neg (fun k hk => by have := faultN_le hk; omega)).mp h15
      have bl := bU_ i lt
      refine v_aload_n C dX10_use_21 rfl ?_
      refine v_get C kX10 hO 8 (by decide) wF_X10_26 rfl dX10_use_22 ?_
      refine v_iload_n C dX10_use_25 rfl ?_
      refine v_iald C h6_ (vp_in_nI (by omega) (by decide)) dX10_use_26 ?_
      rw [show fU (nI i : Int32).toNatClampNeg = nI (ln i) from by rw [nI_clamp (by omega)]; exact cU i (by omega)]
      refine v_if_ne (tgt := 34) C dX10_use_27 (by decide) (fun h27 => ?_) (fun h27 => ?_)
      · have g27 := nI_neN (b := 0) (by omega) (by decide) h27
        refine v_iconst C dX10_use_34 (v := 0) rfl ?_
        refine v_istore_n (lv' := [(2, .int 0), (0, .ref md), (1, .int (nI i))]) C dX10_use_35 hN (by decide) rfl ?_
        refine v_aload_n C dX10_use_36 rfl ?_
        refine v_get C kX10 hO 8 (by decide) wF_X10_26 rfl dX10_use_37 ?_
        refine v_iload_n C dX10_use_40 rfl ?_
        refine v_aload_n C dX10_use_41 rfl ?_
        refine v_get C kX10 hO 6 (by decide) wF_X10_80 rfl dX10_use_42 ?_
        refine v_iast C h6_ (vp_in_nI (by omega) (by decide)) dX10_use_45 ?_
        show V X (rmD 9 0 0) (mset M t6 (aI (xg X) 5 (upd fU (nI i : Int32).toNatClampNeg (nI nS)))) 0 0 [(2, .int 0), (0, .ref md), (1, .int (nI i))] 46 []
        refine v_iconst C dX10_use_46 (v := 0) rfl ?_
        refine v_istore_n (lv' := [(3, .int 0), (2, .int 0), (0, .ref md), (1, .int (nI i))]) C dX10_use_47 hN (by decide) rfl ?_
        refine v_sub (lv' := [(0, .ref md), (1, .int (nI i)), (2, .int 0), (3, .int 0)]) [2, 3, 1, 0] rfl ?_
        have lp48 : ∀ (mm : Nat) (k : Nat) (G : Nat → Int32) (h1 : k ≤ nS) (hG1 : ∀ j, j < k → G (40 * i + j) = sg j) (hG2 : ∀ u, u < 5 → u ≠ i → ∀ j, j < 40 → G (40 * u + j) = fX (40 * u + j)), nS - k < mm → V X (rmD 9 0 0) (mset (mset M t6 (aI (xg X) 5 (upd fU (nI i : Int32).toNatClampNeg (nI nS)))) t7 (aI (xg X) 200 G)) 0 0 [(0, .ref md), (1, .int (nI i)), (2, .int 0), (3, .int (nI k))] 48 [] := by
          intro mm
          induction mm with
          | zero => intro k G h1 hG1 hG2 hmu; exact absurd hmu (Nat.not_lt_zero _)
          | succ mm ih48 =>
            intro k G h1 hG1 hG2 hmu
            refine v_iload_n C dX10_use_48 rfl ?_
            refine v_aload_n C dX10_use_49 rfl ?_
            refine v_get C kX10 ((mset_ne n_md_t7).trans ((mset_ne n_md_t6).trans hO)) 6 (by decide) wF_X10_80 rfl dX10_use_50 ?_
            refine v_icmp_ge (tgt := 79) C dX10_use_53 (by decide) (fun h53 => ?_) (fun h53 => ?_)
            · have g53 : k = nS := Nat.le_antisymm h1 (nI_leN (by omega) (by omega) h53)
              refine v_aload_n C dX10_use_79 rfl ?_
              refine v_iconst C dX10_use_80 (v := 0) rfl ?_
              refine v_put C kX10 ((mset_ne n_md_t7).trans ((mset_ne n_md_t6).trans hO)) 6 (by decide) wF_X10_80 rfl rfl rfl (nle rfl) dX10_use_81 ?_
              show V X (rmD 9 0 0) (mset (mset (mset M t6 (aI (xg X) 5 (upd fU (nI i : Int32).toNatClampNeg (nI nS)))) t7 (aI (xg X) 200 G)) md (.inr (10, [.int (nI nT), .ref t1, .ref t2, .int (nI nP), .ref t3, .ref t4, .int 0, .ref t5, .ref t6, .ref t7, .ref t8, .int mo]))) 0 0 [(0, .ref md), (1, .int (nI i)), (2, .int 0), (3, .int (nI k))] 84 []
              refine v_iload_n C dX10_use_84 rfl ?_
              exact v_iret C E dX10_use_85 (nle rfl) (nle rfl) ⟨by simp [aUse, hx, g15, show 0 < ln i by omega], by simp only [okUse, hx]; rw [if_pos g15]; intro f hf; exact ⟨t1, t2, t3, t4, t5, t6, t7, t8, fT, fD, fP, fC, fS, upd fU (nI i : Int32).toNatClampNeg (nI nS), G, fF, mo, mset_same _ _ _, (mset_ne n_t1_md).trans ((mset_ne n_t1_t7).trans ((mset_ne n_t1_t6).trans h1_)), (mset_ne n_t2_md).trans ((mset_ne n_t2_t7).trans ((mset_ne n_t2_t6).trans h2_)), (mset_ne n_t3_md).trans ((mset_ne n_t3_t7).trans ((mset_ne n_t3_t6).trans h3_)), (mset_ne n_t4_md).trans ((mset_ne n_t4_t7).trans ((mset_ne n_t4_t6).trans h4_)), (mset_ne n_t5_md).trans ((mset_ne n_t5_t7).trans ((mset_ne n_t5_t6).trans h5_)), (mset_ne n_t6_md).trans ((mset_ne n_t6_t7).trans (mset_same _ _ _)), (mset_ne n_t7_md).trans (mset_same _ _ _), (mset_ne n_t8_md).trans ((mset_ne n_t8_t7).trans ((mset_ne n_t8_t6).trans h8_)), bT, bP, (Nat.zero_le _), okT_, cT, cD, okP_, cP, cC, (fun k hk => absurd hk (Nat.not_lt_zero k)), (fun u hu => by rw [nI_clamp (by omega)]; show upd fU i (nI nS) u = nI (if u = i then nS else ln u); unfold upd; exact if z : u = i then (by rw [if_pos z, if_pos z]) else (by rw [if_neg z, if_neg z]; exact cU u hu)), (fun u hu => by show (if u = i then nS else ln u) ≤ 40; exact if z : u = i then (by rw [if_pos z]; exact bS) else (by rw [if_neg z]; exact bU_ u hu)), (fun u hu j hj => if z : u = i then (by dsimp only at hj ⊢; rw [if_pos z] at hj; rw [z, if_pos rfl, hG1 j (by omega), hf j hj]) else (by dsimp only at hj ⊢; rw [if_neg z] at hj; rw [if_neg z, hG2 u hu z j (by have := bU_ u hu; omega)]; exact cX u hu j hj)), (fun u hu hl => if z : u = i then (by dsimp only; rw [if_pos z, if_pos z, faultN_congr hf]; exact g15) else (by dsimp only at hl ⊢; rw [if_neg z] at hl; rw [if_neg z, if_neg z]; exact okX u hu hl)), okF_, cF⟩⟩
            · have g53 := nI_nleN (by omega) (by omega) h53
              refine v_aload_n C dX10_use_56 rfl ?_
              refine v_get C kX10 ((mset_ne n_md_t7).trans ((mset_ne n_md_t6).trans hO)) 9 (by decide) wF_X10_29 rfl dX10_use_57 ?_
              refine v_bipush C dX10_use_60 (v := 40) rfl ?_
              refine v_iload_n C dX10_use_62 rfl ?_
              refine v_imul C dX10_use_63 ?_
              refine v_iload_n C dX10_use_64 rfl ?_
              refine v_iadd C dX10_use_65 ?_
              refine v_aload_n C dX10_use_66 rfl ?_
              refine v_get C kX10 ((mset_ne n_md_t7).trans ((mset_ne n_md_t6).trans hO)) 7 (by decide) wF_X10_23 rfl dX10_use_67 ?_
              refine v_iload_n C dX10_use_70 rfl ?_
              refine v_iald C ((mset_ne n_t5_t7).trans ((mset_ne n_t5_t6).trans h5_)) (vp_in_nI (by omega) (by decide)) dX10_use_71 ?_
              rw [show fS (nI k : Int32).toNatClampNeg = sg k from by rw [nI_clamp (by omega)]; exact cS k (by omega)]
              refine v_iast C (mset_same _ _ _) (by rw [show (40 : Int32) * nI i + nI k = nI (40 * i + k) from ix_ad (ix_mu rfl rfl) rfl]; exact vp_in_nI (by omega) (by decide)) dX10_use_72 ?_
              show V X (rmD 9 0 0) (mset (mset (mset M t6 (aI (xg X) 5 (upd fU (nI i : Int32).toNatClampNeg (nI nS)))) t7 (aI (xg X) 200 G)) t7 (aI (xg X) 200 (upd G ((40 * (nI i)) + (nI k) : Int32).toNatClampNeg (sg k)))) 0 0 [(0, .ref md), (1, .int (nI i)), (2, .int 0), (3, .int (nI k))] 73 []
              refine v_iinc (lv' := [(3, .int (nI (k + 1))), (0, .ref md), (1, .int (nI i)), (2, .int 0)]) C dX10_use_73 3 rfl (nI_1 _) hN (by decide) rfl ?_
              refine v_goto (tgt := 48) C dX10_use_76 (by decide) ?_
              refine v_sub (lv' := [(0, .ref md), (1, .int (nI i)), (2, .int 0), (3, .int (nI (k + 1)))]) [1, 2, 3, 0] rfl ?_
              rw [mset_mset, show (40 : Int32) * nI i + nI k = nI (40 * i + k) from ix_ad (ix_mu rfl rfl) rfl, nI_clamp (n := 40 * i + k) (by omega)]
              exact ih48 (k + 1) (upd G (40 * i + k) (sg k)) (by omega) (fun j hj => by unfold upd; exact if z : j = k then (by rw [z, if_pos rfl]) else (by rw [if_neg (by omega)]; exact hG1 j (by omega))) (fun u hu z j hj => by unfold upd; rw [if_neg (by omega)]; exact hG2 u hu z j hj) (by omega)
        rw [show mset M t6 (aI (xg X) 5 (upd fU (nI i : Int32).toNatClampNeg (nI nS))) = mset (mset M t6 (aI (xg X) 5 (upd fU (nI i : Int32).toNatClampNeg (nI nS)))) t7 (aI (xg X) 200 fX) from (mset_id ((mset_ne n_t7_t6).trans h7_)).symm]
        exact lp48 (_ + 1) 0 fX (Nat.zero_le _) (fun j hj => absurd hj (Nat.not_lt_zero j)) (fun u hu z j hj => rfl) (Nat.lt_succ_self _)
      · have g27 := nI_eqN (b := 0) (by omega) (by decide) h27
        refine v_iconst C dX10_use_30 (v := 1) rfl ?_
        refine v_goto (tgt := 35) C dX10_use_31 (by decide) ?_
        refine v_istore_n (lv' := [(2, .int 1), (0, .ref md), (1, .int (nI i))]) C dX10_use_35 hN (by decide) rfl ?_
        refine v_aload_n C dX10_use_36 rfl ?_
        refine v_get C kX10 hO 8 (by decide) wF_X10_26 rfl dX10_use_37 ?_
        refine v_iload_n C dX10_use_40 rfl ?_
        refine v_aload_n C dX10_use_41 rfl ?_
        refine v_get C kX10 hO 6 (by decide) wF_X10_80 rfl dX10_use_42 ?_
        refine v_iast C h6_ (vp_in_nI (by omega) (by decide)) dX10_use_45 ?_
        show V X (rmD 9 0 0) (mset M t6 (aI (xg X) 5 (upd fU (nI i : Int32).toNatClampNeg (nI nS)))) 0 0 [(2, .int 1), (0, .ref md), (1, .int (nI i))] 46 []
        refine v_iconst C dX10_use_46 (v := 0) rfl ?_
        refine v_istore_n (lv' := [(3, .int 0), (2, .int 1), (0, .ref md), (1, .int (nI i))]) C dX10_use_47 hN (by decide) rfl ?_
        refine v_sub (lv' := [(0, .ref md), (1, .int (nI i)), (2, .int 1), (3, .int 0)]) [2, 3, 1, 0] rfl ?_
        have lp48 : ∀ (mm : Nat) (k : Nat) (G : Nat → Int32) (h1 : k ≤ nS) (hG1 : ∀ j, j < k → G (40 * i + j) = sg j) (hG2 : ∀ u, u < 5 → u ≠ i → ∀ j, j < 40 → G (40 * u + j) = fX (40 * u + j)), nS - k < mm → V X (rmD 9 0 0) (mset (mset M t6 (aI (xg X) 5 (upd fU (nI i : Int32).toNatClampNeg (nI nS)))) t7 (aI (xg X) 200 G)) 0 0 [(0, .ref md), (1, .int (nI i)), (2, .int 1), (3, .int (nI k))] 48 [] := by
          intro mm
          induction mm with
          | zero => intro k G h1 hG1 hG2 hmu; exact absurd hmu (Nat.not_lt_zero _)
          | succ mm ih48 =>
            intro k G h1 hG1 hG2 hmu
            refine v_iload_n C dX10_use_48 rfl ?_
            refine v_aload_n C dX10_use_49 rfl ?_
            refine v_get C kX10 ((mset_ne n_md_t7).trans ((mset_ne n_md_t6).trans hO)) 6 (by decide) wF_X10_80 rfl dX10_use_50 ?_
            refine v_icmp_ge (tgt := 79) C dX10_use_53 (by decide) (fun h53 => ?_) (fun h53 => ?_)
            · have g53 : k = nS := Nat.le_antisymm h1 (nI_leN (by omega) (by omega) h53)
              refine v_aload_n C dX10_use_79 rfl ?_
              refine v_iconst C dX10_use_80 (v := 0) rfl ?_
              refine v_put C kX10 ((mset_ne n_md_t7).trans ((mset_ne n_md_t6).trans hO)) 6 (by decide) wF_X10_80 rfl rfl rfl (nle rfl) dX10_use_81 ?_
              show V X (rmD 9 0 0) (mset (mset (mset M t6 (aI (xg X) 5 (upd fU (nI i : Int32).toNatClampNeg (nI nS)))) t7 (aI (xg X) 200 G)) md (.inr (10, [.int (nI nT), .ref t1, .ref t2, .int (nI nP), .ref t3, .ref t4, .int 0, .ref t5, .ref t6, .ref t7, .ref t8, .int mo]))) 0 0 [(0, .ref md), (1, .int (nI i)), (2, .int 1), (3, .int (nI k))] 84 []
              refine v_iload_n C dX10_use_84 rfl ?_
              exact v_iret C E dX10_use_85 (nle rfl) (nle rfl) ⟨by simp [aUse, hx, g15, show ¬ 0 < ln i by omega], by simp only [okUse, hx]; rw [if_pos g15]; intro f hf; exact ⟨t1, t2, t3, t4, t5, t6, t7, t8, fT, fD, fP, fC, fS, upd fU (nI i : Int32).toNatClampNeg (nI nS), G, fF, mo, mset_same _ _ _, (mset_ne n_t1_md).trans ((mset_ne n_t1_t7).trans ((mset_ne n_t1_t6).trans h1_)), (mset_ne n_t2_md).trans ((mset_ne n_t2_t7).trans ((mset_ne n_t2_t6).trans h2_)), (mset_ne n_t3_md).trans ((mset_ne n_t3_t7).trans ((mset_ne n_t3_t6).trans h3_)), (mset_ne n_t4_md).trans ((mset_ne n_t4_t7).trans ((mset_ne n_t4_t6).trans h4_)), (mset_ne n_t5_md).trans ((mset_ne n_t5_t7).trans ((mset_ne n_t5_t6).trans h5_)), (mset_ne n_t6_md).trans ((mset_ne n_t6_t7).trans (mset_same _ _ _)), (mset_ne n_t7_md).trans (mset_same _ _ _), (mset_ne n_t8_md).trans ((mset_ne n_t8_t7).trans ((mset_ne n_t8_t6).trans h8_)), bT, bP, (Nat.zero_le _), okT_, cT, cD, okP_, cP, cC, (fun k hk => absurd hk (Nat.not_lt_zero k)), (fun u hu => by rw [nI_clamp (by omega)]; show upd fU i (nI nS) u = nI (if u = i then nS else ln u); unfold upd; exact if z : u = i then (by rw [if_pos z, if_pos z]) else (by rw [if_neg z, if_neg z]; exact cU u hu)), (fun u hu => by show (if u = i then nS else ln u) ≤ 40; exact if z : u = i then (by rw [if_pos z]; exact bS) else (by rw [if_neg z]; exact bU_ u hu)), (fun u hu j hj => if z : u = i then (by dsimp only at hj ⊢; rw [if_pos z] at hj; rw [z, if_pos rfl, hG1 j (by omega), hf j hj]) else (by dsimp only at hj ⊢; rw [if_neg z] at hj; rw [if_neg z, hG2 u hu z j (by have := bU_ u hu; omega)]; exact cX u hu j hj)), (fun u hu hl => if z : u = i then (by dsimp only; rw [if_pos z, if_pos z, faultN_congr hf]; exact g15) else (by dsimp only at hl ⊢; rw [if_neg z] at hl; rw [if_neg z, if_neg z]; exact okX u hu hl)), okF_, cF⟩⟩
            · have g53 := nI_nleN (by omega) (by omega) h53
              refine v_aload_n C dX10_use_56 rfl ?_
              refine v_get C kX10 ((mset_ne n_md_t7).trans ((mset_ne n_md_t6).trans hO)) 9 (by decide) wF_X10_29 rfl dX10_use_57 ?_
              refine v_bipush C dX10_use_60 (v := 40) rfl ?_
              refine v_iload_n C dX10_use_62 rfl ?_
              refine v_imul C dX10_use_63 ?_
              refine v_iload_n C dX10_use_64 rfl ?_
              refine v_iadd C dX10_use_65 ?_
              refine v_aload_n C dX10_use_66 rfl ?_
              refine v_get C kX10 ((mset_ne n_md_t7).trans ((mset_ne n_md_t6).trans hO)) 7 (by decide) wF_X10_23 rfl dX10_use_67 ?_
              refine v_iload_n C dX10_use_70 rfl ?_
              refine v_iald C ((mset_ne n_t5_t7).trans ((mset_ne n_t5_t6).trans h5_)) (vp_in_nI (by omega) (by decide)) dX10_use_71 ?_
              rw [show fS (nI k : Int32).toNatClampNeg = sg k from by rw [nI_clamp (by omega)]; exact cS k (by omega)]
              refine v_iast C (mset_same _ _ _) (by rw [show (40 : Int32) * nI i + nI k = nI (40 * i + k) from ix_ad (ix_mu rfl rfl) rfl]; exact vp_in_nI (by omega) (by decide)) dX10_use_72 ?_
              show V X (rmD 9 0 0) (mset (mset (mset M t6 (aI (xg X) 5 (upd fU (nI i : Int32).toNatClampNeg (nI nS)))) t7 (aI (xg X) 200 G)) t7 (aI (xg X) 200 (upd G ((40 * (nI i)) + (nI k) : Int32).toNatClampNeg (sg k)))) 0 0 [(0, .ref md), (1, .int (nI i)), (2, .int 1), (3, .int (nI k))] 73 []
              refine v_iinc (lv' := [(3, .int (nI (k + 1))), (0, .ref md), (1, .int (nI i)), (2, .int 1)]) C dX10_use_73 3 rfl (nI_1 _) hN (by decide) rfl ?_
              refine v_goto (tgt := 48) C dX10_use_76 (by decide) ?_
              refine v_sub (lv' := [(0, .ref md), (1, .int (nI i)), (2, .int 1), (3, .int (nI (k + 1)))]) [1, 2, 3, 0] rfl ?_
              rw [mset_mset, show (40 : Int32) * nI i + nI k = nI (40 * i + k) from ix_ad (ix_mu rfl rfl) rfl, nI_clamp (n := 40 * i + k) (by omega)]
              exact ih48 (k + 1) (upd G (40 * i + k) (sg k)) (by omega) (fun j hj => by unfold upd; exact if z : j = k then (by rw [z, if_pos rfl]) else (by rw [if_neg (by omega)]; exact hG1 j (by omega))) (fun u hu z j hj => by unfold upd; rw [if_neg (by omega)]; exact hG2 u hu z j hj) (by omega)
        rw [show mset M t6 (aI (xg X) 5 (upd fU (nI i : Int32).toNatClampNeg (nI nS))) = mset (mset M t6 (aI (xg X) 5 (upd fU (nI i : Int32).toNatClampNeg (nI nS)))) t7 (aI (xg X) 200 fX) from (mset_id ((mset_ne n_t7_t6).trans h7_)).symm]
        exact lp48 (_ + 1) 0 fX (Nat.zero_le _) (fun j hj => absurd hj (Nat.not_lt_zero j)) (fun u hu z j hj => rfl) (Nat.lt_succ_self _)
    · have g15 : ¬ faultN sg nS = none := fun z => h15 (by rw [z]; decide)
      refine v_bipush C dX10_use_18 (v := (-5)) rfl ?_
      exact v_iret C E dX10_use_20 (nle rfl) (nle rfl) ⟨by simp [aUse, hx, g15], by simp only [okUse, hx]; rw [if_neg g15]; exact hM.W⟩
  · have hzi := trivial
    show V X (rmD 9 0 0) M 0 0 [(0, .ref md), (1, .int u)] 0 []
    refine v_iload_n C dX10_use_0 rfl ?_
    refine v_iconst C dX10_use_1 (v := 0) rfl ?_
    refine v_iconst C dX10_use_2 (v := 4) rfl ?_
    refine v_callS (As := [.int u, .int 0, .int 4]) (rest := []) C (c_X10_in (xl X) (xg X) u 0 4 M) pm_X10_in wT_X10_in wM_X10_35 ⟨by decide, by decide⟩ ⟨by decide, by decide⟩ (nle rfl) dX10_use_3 rfl (dt1 ?_)
    show V X (rmD 9 0 0) M 0 0 [(0, .ref md), (1, .int u)] 6 [.int (bI (qin u 0 4))]
    rw [qin_5]
    show V X (rmD 9 0 0) M 0 0 [(0, .ref md), (1, .int u)] 6 [.int (bI ((idx 5 u).isSome))]
    refine v_ifb_ne (tgt := 11) C dX10_use_6 (by decide) (fun hbad => absurd hbad (by rw [hx]; simp)) (fun h6 => ?_)
    refine v_iconst C dX10_use_9 (v := (-1)) rfl ?_
    exact v_iret C E dX10_use_10 (nle rfl) (nle rfl) ⟨by simp [aUse, hx], by simp only [okUse, hx]; exact hM.W⟩

theorem useI_S {ln : Nat → Nat} {x : Int32} {i : Nat} (hx : idx 5 x = some i) : (useI ln x).isSome = decide (0 < ln i) := by
  unfold useI
  rw [hx]
  simp only
  split
  · next h => rw [decide_eq_true h]; rfl
  · next h => rw [decide_eq_false h]; rfl
theorem useI_N {ln : Nat → Nat} {x : Int32} (hx : idx 5 x = none) : useI ln x = none := by
  unfold useI
  rw [hx]
set_option maxHeartbeats 4000000 in
set_option maxRecDepth 100000 in
theorem c_X10_isUse (l : Launch) (g : Gm) (M : Mem) (md : Nat) (t1 t2 t3 t4 t5 t6 t7 t8 : Nat) (fT fD fP fC fS fU fX fF : Nat → Int32) (mo : Int32) (nT : Nat) (m : Nat → Nat → Nat) (dB : Nat → Nat → Bool) (nP : Nat) (pf : Nat → Nat → Nat) (cB : Nat → Nat → Bool) (nS : Nat) (sg : Nat → Int32) (ln : Nat → Nat) (tx : Nat → Nat → Int32) (fl : Nat → Nat → Nat) (hM : ModA g M md t1 t2 t3 t4 t5 t6 t7 t8 fT fD fP fC fS fU fX fF mo nT m dB nP pf cB nS sg ln tx fl) (u : Int32) : Ct l g yX10_isUse cX10_isUse 2 (some .boolean) 1 0 0 [.ref md, .int u] M (fun v N => v = some (.int (bI (useI ln u).isSome)) ∧ N = M) := by
  refine Ct.of (by decide) (Nat.le_of_ble_eq_true rfl) ?_
  intro X hXl hXg hN C E
  subst hXl; subst hXg
  show V X (rmD 1 0 0) M 0 0 [(0, .ref md), (1, .int u)] 0 []
  obtain ⟨hO, h1_, h2_, h3_, h4_, h5_, h6_, h7_, h8_, bT, bP, bS, okT_, cT, cD, okP_, cP, cC, cS, cU, bU_, cX, okX, okF_, cF⟩ := id hM
  rcases idx_cases 5 (by decide) u with ⟨i, lt, rfl, hx⟩ | ⟨hn, hx⟩
  · have hzi := trivial
    show V X (rmD 1 0 0) M 0 0 [(0, .ref md), (1, .int (nI i))] 0 []
    refine v_iload_n C dX10_isUse_0 rfl ?_
    refine v_iconst C dX10_isUse_1 (v := 0) rfl ?_
    refine v_iconst C dX10_isUse_2 (v := 4) rfl ?_
    refine v_callS (As := [.int (nI i), .int 0, .int 4]) (rest := []) C (c_X10_in (xl X) (xg X) (nI i) 0 4 M) pm_X10_in wT_X10_in wM_X10_35 ⟨by decide, by decide⟩ ⟨by decide, by decide⟩ (nle rfl) dX10_isUse_3 rfl (dt1 ?_)
    show V X (rmD 1 0 0) M 0 0 [(0, .ref md), (1, .int (nI i))] 6 [.int (bI (qin (nI i) 0 4))]
    rw [qin_5]
    show V X (rmD 1 0 0) M 0 0 [(0, .ref md), (1, .int (nI i))] 6 [.int (bI ((idx 5 (nI i)).isSome))]
    refine v_ifb_eq (tgt := 22) C dX10_isUse_6 (by decide) (fun hbad => absurd hbad (by rw [hx]; simp)) (fun h6 => ?_)
    have bl := bU_ i lt
    refine v_aload_n C dX10_isUse_9 rfl ?_
    refine v_get C kX10 hO 8 (by decide) wF_X10_26 rfl dX10_isUse_10 ?_
    refine v_iload_n C dX10_isUse_13 rfl ?_
    refine v_iald C h6_ (vp_in_nI (by omega) (by decide)) dX10_isUse_14 ?_
    rw [show fU (nI i : Int32).toNatClampNeg = nI (ln i) from by rw [nI_clamp (by omega)]; exact cU i (by omega)]
    refine v_if_le (tgt := 22) C dX10_isUse_15 (by decide) (fun h15 => ?_) (fun h15 => ?_)
    · refine v_iconst C dX10_isUse_22 (v := 0) rfl ?_
      exact v_zret C E dX10_isUse_23 (nle rfl) (nle rfl) (by decide) ⟨by rw [useI_S hx, decide_eq_false (Nat.not_lt.mpr (nI_leN (b := 0) (by omega) (by decide) h15))]; rfl, rfl⟩
    · refine v_iconst C dX10_isUse_18 (v := 1) rfl ?_
      refine v_goto (tgt := 23) C dX10_isUse_19 (by decide) ?_
      exact v_zret C E dX10_isUse_23 (nle rfl) (nle rfl) (by decide) ⟨by rw [useI_S hx, decide_eq_true (nI_nleN (b := 0) (by omega) (by decide) h15)]; rfl, rfl⟩
  · have hzi := trivial
    show V X (rmD 1 0 0) M 0 0 [(0, .ref md), (1, .int u)] 0 []
    refine v_iload_n C dX10_isUse_0 rfl ?_
    refine v_iconst C dX10_isUse_1 (v := 0) rfl ?_
    refine v_iconst C dX10_isUse_2 (v := 4) rfl ?_
    refine v_callS (As := [.int u, .int 0, .int 4]) (rest := []) C (c_X10_in (xl X) (xg X) u 0 4 M) pm_X10_in wT_X10_in wM_X10_35 ⟨by decide, by decide⟩ ⟨by decide, by decide⟩ (nle rfl) dX10_isUse_3 rfl (dt1 ?_)
    show V X (rmD 1 0 0) M 0 0 [(0, .ref md), (1, .int u)] 6 [.int (bI (qin u 0 4))]
    rw [qin_5]
    show V X (rmD 1 0 0) M 0 0 [(0, .ref md), (1, .int u)] 6 [.int (bI ((idx 5 u).isSome))]
    refine v_ifb_eq (tgt := 22) C dX10_isUse_6 (by decide) (fun h6 => ?_) (fun hbad => absurd hbad (by rw [hx]; simp))
    refine v_iconst C dX10_isUse_22 (v := 0) rfl ?_
    exact v_zret C E dX10_isUse_23 (nle rfl) (nle rfl) (by decide) ⟨by rw [useI_N hx]; rfl, rfl⟩


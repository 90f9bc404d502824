/-! The model: fit, could, all; lines. -/
theorem use_cases (ln : Nat → Nat) (x : Int32) : (∃ k, k < 5 ∧ 0 < ln k ∧ x = nI k ∧ useI ln x = some k) ∨ useI ln x = none := by
  rcases idx_cases 5 (by decide) x with ⟨k, hk, rfl, h⟩ | ⟨-, h⟩
  · by_cases z : 0 < ln k
    · exact Or.inl ⟨k, hk, z, rfl, by unfold useI; rw [h]; exact if_pos z⟩
    · exact Or.inr (by unfold useI; rw [h]; exact if_neg z)
  · exact Or.inr (useI_no h)
set_option maxHeartbeats 4000000 in
set_option maxRecDepth 100000 in
theorem c_X10_fit (l : Launch) (g : Gm) (M : Mem) (md : Nat) (t1 t2 t3 t4 t5 t6 t7 t8 : Nat) (fT fD fP fC fS fU fX fF : Nat → Int32) (mo : Int32) (nT : Nat) (m : Nat → Nat → Nat) (dB : Nat → Nat → Bool) (nP : Nat) (pf : Nat → Nat → Nat) (cB : Nat → Nat → Bool) (nS : Nat) (sg : Nat → Int32) (ln : Nat → Nat) (tx : Nat → Nat → Int32) (fl : Nat → Nat → Nat) (hM : ModA g M md t1 t2 t3 t4 t5 t6 t7 t8 fT fD fP fC fS fU fX fF mo nT m dB nP pf cB nS sg ln tx fl) (u t d : Int32) : Ct l g yX10_fit cX10_fit 4 (some .int) 9 0 0 [.ref md, .int u, .int t, .int d] M (fun v N => v = some (.int (aFit nT m nP pf cB ln tx u t d)) ∧ N = M) := by
  refine Ct.of (by decide) (Nat.le_of_ble_eq_true rfl) ?_
  intro X hXl hXg hN C E
  subst hXl; subst hXg
  show V X (rmD 9 0 0) M 0 0 [(0, .ref md), (1, .int u), (2, .int t), (3, .int d)] 0 []
  obtain ⟨hO, h1_, h2_, h3_, h4_, h5_, h6_, h7_, h8_, bT, bP, bS, okT_, cT, cD, okP_, cP, cC, cS, cU, bU_, cX, okX, okF_, cF⟩ := id hM
  rcases use_cases ln u with ⟨k, ltk, hlu, rfl, hxu⟩ | hxu
  · have hzu := trivial
    show V X (rmD 9 0 0) M 0 0 [(0, .ref md), (1, .int (nI k)), (2, .int t), (3, .int d)] 0 []
    refine v_aload_n C dX10_fit_0 rfl ?_
    rcases idx_cases nT (by omega) t with ⟨i, lt, rfl, hx⟩ | ⟨hn, hx⟩
    · have hzi := trivial
      show V X (rmD 9 0 0) M 0 0 [(0, .ref md), (1, .int (nI k)), (2, .int (nI i)), (3, .int d)] 1 [.ref md]
      refine v_iload_n C dX10_fit_1 rfl ?_
      refine v_callV (As := [.int (nI k)]) (rest := []) (b := md) C (c_X10_isUse (xl X) (xg X) M md t1 t2 t3 t4 t5 t6 t7 t8 fT fD fP fC fS fU fX fF mo nT m dB nP pf cB nS sg ln tx fl hM (nI k)) pm_X10_isUse wI_X10_isUse wS_X10_isUse wM_X10_106 kX10 hO ⟨by decide, by decide⟩ ⟨by decide, by decide⟩ (nle rfl) dX10_fit_2 rfl (dt1 ?_)
      show V X (rmD 9 0 0) M 0 0 [(0, .ref md), (1, .int (nI k)), (2, .int (nI i)), (3, .int d)] 5 [.int (bI ((useI ln (nI k)).isSome))]
      refine v_ifb_eq (tgt := 16) C dX10_fit_5 (by decide) (fun hbad => absurd hbad (by rw [hxu]; simp)) (fun h5 => ?_)
      refine v_aload_n C dX10_fit_8 rfl ?_
      refine v_iload_n C dX10_fit_9 rfl ?_
      refine v_callV (As := [.int (nI i)]) (rest := []) (b := md) C (c_X10_isThing (xl X) (xg X) M md t1 t2 t3 t4 t5 t6 t7 t8 fT fD fP fC fS fU fX fF mo nT m dB nP pf cB nS sg ln tx fl hM (nI i)) pm_X10_isThing wI_X10_isThing wS_X10_isThing wM_X10_50 kX10 hO ⟨by decide, by decide⟩ ⟨by decide, by decide⟩ (nle rfl) dX10_fit_10 rfl (dt1 ?_)
      show V X (rmD 9 0 0) M 0 0 [(0, .ref md), (1, .int (nI k)), (2, .int (nI i)), (3, .int d)] 13 [.int (bI ((idx nT (nI i)).isSome))]
      refine v_ifb_ne (tgt := 18) C dX10_fit_13 (by decide) (fun h13 => ?_) (fun hbad => absurd hbad (by rw [hx]; simp))
      refine v_iload_n C dX10_fit_18 rfl ?_
      refine v_callS (As := [.int d]) (rest := []) C (c_X10_isDay (xl X) (xg X) d M) pm_X10_isDay wT_X10_isDay wM_X10_46 ⟨by decide, by decide⟩ ⟨by decide, by decide⟩ (nle rfl) dX10_fit_19 rfl (dt1 ?_)
      show V X (rmD 9 0 0) M 0 0 [(0, .ref md), (1, .int (nI k)), (2, .int (nI i)), (3, .int d)] 22 [.int (bI (qin d 0 99))]
      refine v_ifb_eq (tgt := 35) C dX10_fit_22 (by decide) (fun h22 => ?_) (fun h22 => ?_)
      · refine v_bipush C dX10_fit_35 (v := (-2)) rfl ?_
        exact v_iret C E dX10_fit_37 (nle rfl) (nle rfl) ⟨by simp [aFit, hx, hxu, h22], rfl⟩
      · obtain ⟨e, hLe, hje, rfl⟩ := qin_nJ (x := d) (L := 0) (N := 99) (by decide) (by decide) h22
        show V X (rmD 9 0 0) M 0 0 [(0, .ref md), (1, .int (nI k)), (2, .int (nI i)), (3, .int (nI e))] 25 []
        refine v_aload_n C dX10_fit_25 rfl ?_
        refine v_iload_n C dX10_fit_26 rfl ?_
        refine v_iload_n C dX10_fit_27 rfl ?_
        refine v_iload_n C dX10_fit_28 rfl ?_
        refine v_callV (As := [.int (nI k), .int (nI i), .int (nI e)]) (rest := []) (b := md) C (c_X10_fitOf (xl X) (xg X) M md t1 t2 t3 t4 t5 t6 t7 t8 fT fD fP fC fS fU fX fF mo nT m dB nP pf cB nS sg ln tx fl hM k i e (by omega) hlu (by omega) (by omega)) pm_X10_fitOf wI_X10_fitOf wS_X10_fitOf wM_X10_109 kX10 hO ⟨by decide, by decide⟩ ⟨by decide, by decide⟩ (nle rfl) dX10_fit_29 rfl (dt1 ?_)
        show V X (rmD 9 0 0) M 0 0 [(0, .ref md), (1, .int (nI k)), (2, .int (nI i)), (3, .int (nI e))] 32 [.int (fitI nT m nP pf cB ln tx k i e)]
        refine v_goto (tgt := 37) C dX10_fit_32 (by decide) ?_
        exact v_iret C E dX10_fit_37 (nle rfl) (nle rfl) ⟨by simp only [aFit, hx, hxu, h22, if_true]; rw [nI_clamp (n := e) (by omega)], rfl⟩
    · have hzi := trivial
      show V X (rmD 9 0 0) M 0 0 [(0, .ref md), (1, .int (nI k)), (2, .int t), (3, .int d)] 1 [.ref md]
      refine v_iload_n C dX10_fit_1 rfl ?_
      refine v_callV (As := [.int (nI k)]) (rest := []) (b := md) C (c_X10_isUse (xl X) (xg X) M md t1 t2 t3 t4 t5 t6 t7 t8 fT fD fP fC fS fU fX fF mo nT m dB nP pf cB nS sg ln tx fl hM (nI k)) pm_X10_isUse wI_X10_isUse wS_X10_isUse wM_X10_106 kX10 hO ⟨by decide, by decide⟩ ⟨by decide, by decide⟩ (nle rfl) dX10_fit_2 rfl (dt1 ?_)
      show V X (rmD 9 0 0) M 0 0 [(0, .ref md), (1, .int (nI k)), (2, .int t), (3, .int d)] 5 [.int (bI ((useI ln (nI k)).isSome))]
      refine v_ifb_eq (tgt := 16) C dX10_fit_5 (by decide) (fun hbad => absurd hbad (by rw [hxu]; simp)) (fun h5 => ?_)
      refine v_aload_n C dX10_fit_8 rfl ?_
      refine v_iload_n C dX10_fit_9 rfl ?_
      refine v_callV (As := [.int t]) (rest := []) (b := md) C (c_X10_isThing (xl X) (xg X) M md t1 t2 t3 t4 t5 t6 t7 t8 fT fD fP fC fS fU fX fF mo nT m dB nP pf cB nS sg ln tx fl hM t) pm_X10_isThing wI_X10_isThing wS_X10_isThing wM_X10_50 kX10 hO ⟨by decide, by decide⟩ ⟨by decide, by decide⟩ (nle rfl) dX10_fit_10 rfl (dt1 ?_)
      show V X (rmD 9 0 0) M 0 0 [(0, .ref md), (1, .int (nI k)), (2, .int t), (3, .int d)] 13 [.int (bI ((idx nT t).isSome))]
      refine v_ifb_ne (tgt := 18) C dX10_fit_13 (by decide) (fun hbad => absurd hbad (by rw [hx]; simp)) (fun h13 => ?_)
      refine v_iconst C dX10_fit_16 (v := (-1)) rfl ?_
      exact v_iret C E dX10_fit_17 (nle rfl) (nle rfl) ⟨(by rw [(aFit_U (Or.inr hx)).1]), rfl⟩
  · have hzu := trivial
    show V X (rmD 9 0 0) M 0 0 [(0, .ref md), (1, .int u), (2, .int t), (3, .int d)] 0 []
    refine v_aload_n C dX10_fit_0 rfl ?_
    rcases idx_cases nT (by omega) t with ⟨i, lt, rfl, hx⟩ | ⟨hn, hx⟩
    · have hzi := trivial
      show V X (rmD 9 0 0) M 0 0 [(0, .ref md), (1, .int u), (2, .int (nI i)), (3, .int d)] 1 [.ref md]
      refine v_iload_n C dX10_fit_1 rfl ?_
      refine v_callV (As := [.int u]) (rest := []) (b := md) C (c_X10_isUse (xl X) (xg X) M md t1 t2 t3 t4 t5 t6 t7 t8 fT fD fP fC fS fU fX fF mo nT m dB nP pf cB nS sg ln tx fl hM u) pm_X10_isUse wI_X10_isUse wS_X10_isUse wM_X10_106 kX10 hO ⟨by decide, by decide⟩ ⟨by decide, by decide⟩ (nle rfl) dX10_fit_2 rfl (dt1 ?_)
      show V X (rmD 9 0 0) M 0 0 [(0, .ref md), (1, .int u), (2, .int (nI i)), (3, .int d)] 5 [.int (bI ((useI ln u).isSome))]
      refine v_ifb_eq (tgt := 16) C dX10_fit_5 (by decide) (fun h5 => ?_) (fun hbad => absurd hbad (by rw [hxu]; simp))
      refine v_iconst C dX10_fit_16 (v := (-1)) rfl ?_
      exact v_iret C E dX10_fit_17 (nle rfl) (nle rfl) ⟨(by rw [(aFit_U (Or.inl hxu)).1]), rfl⟩
    · have hzi := trivial
      show V X (rmD 9 0 0) M 0 0 [(0, .ref md), (1, .int u), (2, .int t), (3, .int d)] 1 [.ref md]
      refine v_iload_n C dX10_fit_1 rfl ?_
      refine v_callV (As := [.int u]) (rest := []) (b := md) C (c_X10_isUse (xl X) (xg X) M md t1 t2 t3 t4 t5 t6 t7 t8 fT fD fP fC fS fU fX fF mo nT m dB nP pf cB nS sg ln tx fl hM u) pm_X10_isUse wI_X10_isUse wS_X10_isUse wM_X10_106 kX10 hO ⟨by decide, by decide⟩ ⟨by decide, by decide⟩ (nle rfl) dX10_fit_2 rfl (dt1 ?_)
      show V X (rmD 9 0 0) M 0 0 [(0, .ref md), (1, .int u), (2, .int t), (3, .int d)] 5 [.int (bI ((useI ln u).isSome))]
      refine v_ifb_eq (tgt := 16) C dX10_fit_5 (by decide) (fun h5 => ?_) (fun hbad => absurd hbad (by rw [hxu]; simp))
      refine v_iconst C dX10_fit_16 (v := (-1)) rfl ?_
      exact v_iret C E dX10_fit_17 (nle rfl) (nle rfl) ⟨(by rw [(aFit_U (Or.inl hxu)).1]), rfl⟩

set_option maxHeartbeats 4000000 in
set_option maxRecDepth 100000 in
theorem c_X10_could (l : Launch) (g : Gm) (M : Mem) (md : Nat) (t1 t2 t3 t4 t5 t6 t7 t8 : Nat) (fT fD fP fC fS fU fX fF : Nat → Int32) (mo : Int32) (nT : Nat) (m : Nat → Nat → Nat) (dB : Nat → Nat → Bool) (nP : Nat) (pf : Nat → Nat → Nat) (cB : Nat → Nat → Bool) (nS : Nat) (sg : Nat → Int32) (ln : Nat → Nat) (tx : Nat → Nat → Int32) (fl : Nat → Nat → Nat) (hM : ModA g M md t1 t2 t3 t4 t5 t6 t7 t8 fT fD fP fC fS fU fX fF mo nT m dB nP pf cB nS sg ln tx fl) (u t : Int32) : Ct l g yX10_could cX10_could 6 (some .int) 9 0 0 [.ref md, .int u, .int t] M (fun v N => v = some (.int (aCould nT m nP pf cB ln tx u t)) ∧ N = M) := by
  refine Ct.of (by decide) (Nat.le_of_ble_eq_true rfl) ?_
  intro X hXl hXg hN C E
  subst hXl; subst hXg
  show V X (rmD 9 0 0) M 0 0 [(0, .ref md), (1, .int u), (2, .int t)] 0 []
  obtain ⟨hO, h1_, h2_, h3_, h4_, h5_, h6_, h7_, h8_, bT, bP, bS, okT_, cT, cD, okP_, cP, cC, cS, cU, bU_, cX, okX, okF_, cF⟩ := id hM
  rcases use_cases ln u with ⟨k, ltk, hlu, rfl, hxu⟩ | hxu
  · have hzu := trivial
    show V X (rmD 9 0 0) M 0 0 [(0, .ref md), (1, .int (nI k)), (2, .int t)] 0 []
    refine v_aload_n C dX10_could_0 rfl ?_
    rcases idx_cases nT (by omega) t with ⟨i, lt, rfl, hx⟩ | ⟨hn, hx⟩
    · have hzi := trivial
      show V X (rmD 9 0 0) M 0 0 [(0, .ref md), (1, .int (nI k)), (2, .int (nI i))] 1 [.ref md]
      refine v_iload_n C dX10_could_1 rfl ?_
      refine v_callV (As := [.int (nI k)]) (rest := []) (b := md) C (c_X10_isUse (xl X) (xg X) M md t1 t2 t3 t4 t5 t6 t7 t8 fT fD fP fC fS fU fX fF mo nT m dB nP pf cB nS sg ln tx fl hM (nI k)) pm_X10_isUse wI_X10_isUse wS_X10_isUse wM_X10_106 kX10 hO ⟨by decide, by decide⟩ ⟨by decide, by decide⟩ (nle rfl) dX10_could_2 rfl (dt1 ?_)
      show V X (rmD 9 0 0) M 0 0 [(0, .ref md), (1, .int (nI k)), (2, .int (nI i))] 5 [.int (bI ((useI ln (nI k)).isSome))]
      refine v_ifb_eq (tgt := 16) C dX10_could_5 (by decide) (fun hbad => absurd hbad (by rw [hxu]; simp)) (fun h5 => ?_)
      refine v_aload_n C dX10_could_8 rfl ?_
      refine v_iload_n C dX10_could_9 rfl ?_
      refine v_callV (As := [.int (nI i)]) (rest := []) (b := md) C (c_X10_isThing (xl X) (xg X) M md t1 t2 t3 t4 t5 t6 t7 t8 fT fD fP fC fS fU fX fF mo nT m dB nP pf cB nS sg ln tx fl hM (nI i)) pm_X10_isThing wI_X10_isThing wS_X10_isThing wM_X10_50 kX10 hO ⟨by decide, by decide⟩ ⟨by decide, by decide⟩ (nle rfl) dX10_could_10 rfl (dt1 ?_)
      show V X (rmD 9 0 0) M 0 0 [(0, .ref md), (1, .int (nI k)), (2, .int (nI i))] 13 [.int (bI ((idx nT (nI i)).isSome))]
      refine v_ifb_ne (tgt := 18) C dX10_could_13 (by decide) (fun h13 => ?_) (fun hbad => absurd hbad (by rw [hx]; simp))
      refine v_iconst C dX10_could_18 (v := 0) rfl ?_
      refine v_istore_n (lv' := [(3, .int 0), (0, .ref md), (1, .int (nI k)), (2, .int (nI i))]) C dX10_could_19 hN (by decide) rfl ?_
      refine v_sub (lv' := [(0, .ref md), (1, .int (nI k)), (2, .int (nI i)), (3, .int 0)]) [1, 2, 3, 0] rfl ?_
      have lp20 : ∀ (mm : Nat) (j : Nat) (h1 : j ≤ 100) (h2 : fstB (fun d => (decide (d = 0) || anyB (fun p => decide (pf p 2 = d)) nP) && decide (fitI nT m nP pf cB ln tx k i d = 2)) j = none), 100 - j < mm → V X (rmD 9 0 0) M 0 0 [(0, .ref md), (1, .int (nI k)), (2, .int (nI i)), (3, .int (nI j))] 20 [] := by
        intro mm
        induction mm with
        | zero => intro j h1 h2 hmu; exact absurd hmu (Nat.not_lt_zero _)
        | succ mm ih20 =>
          intro j h1 h2 hmu
          refine v_iload_n C dX10_could_20 rfl ?_
          refine v_bipush C dX10_could_21 (v := 100) rfl ?_
          refine v_icmp_ge (tgt := 106) C dX10_could_23 (by decide) (fun h23 => ?_) (fun h23 => ?_)
          · refine v_bipush C dX10_could_106 (v := (-6)) rfl ?_
            exact v_iret C E dX10_could_108 (nle rfl) (nle rfl) ⟨by simp only [aCould, hx, hxu]; rw [← show j = 100 from Nat.le_antisymm h1 (nI_leN (a := 100) (by decide) (by omega) h23), h2]; rfl, rfl⟩
          · have g23 := nI_nleN (a := 100) (by decide) (by omega) h23
            refine v_iload_n C dX10_could_26 rfl ?_
            refine v_if_ne (tgt := 34) C dX10_could_27 (by decide) (fun h27 => ?_) (fun h27 => ?_)
            · refine v_iconst C dX10_could_34 (v := 0) rfl ?_
              refine v_istore (lv' := [(4, .int 0), (0, .ref md), (1, .int (nI k)), (2, .int (nI i)), (3, .int (nI j))]) C dX10_could_35 hN (by decide) rfl ?_
              refine v_iconst C dX10_could_37 (v := 0) rfl ?_
              refine v_istore (lv' := [(5, .int 0), (4, .int 0), (0, .ref md), (1, .int (nI k)), (2, .int (nI i)), (3, .int (nI j))]) C dX10_could_38 hN (by decide) rfl ?_
              refine v_sub (lv' := [(0, .ref md), (1, .int (nI k)), (2, .int (nI i)), (3, .int (nI j)), (4, .int 0), (5, .int 0)]) [2, 3, 4, 5, 1, 0] rfl ?_
              have lp40 : ∀ (mm : Nat) (p : Nat) (hp : p ≤ nP), nP - p < mm → V X (rmD 9 0 0) M 0 0 [(0, .ref md), (1, .int (nI k)), (2, .int (nI i)), (3, .int (nI j)), (4, .int (bI ((decide (j = 0) || anyB (fun p => decide (pf p 2 = j)) p)))), (5, .int (nI p))] 40 [] := by
                intro mm
                induction mm with
                | zero => intro p hp hmu; exact absurd hmu (Nat.not_lt_zero _)
                | succ mm ih40 =>
                  intro p hp hmu
                  refine v_iload C dX10_could_40 rfl ?_
                  refine v_aload_n C dX10_could_42 rfl ?_
                  refine v_get C kX10 hO 3 (by decide) wF_X10_43 rfl dX10_could_43 ?_
                  refine v_icmp_ge (tgt := 82) C dX10_could_46 (by decide) (fun h46 => ?_) (fun h46 => ?_)
                  · rw [show p = nP from Nat.le_antisymm hp (nI_leN (by omega) (by omega) h46)]
                    show V X (rmD 9 0 0) M 0 0 [(0, .ref md), (1, .int (nI k)), (2, .int (nI i)), (3, .int (nI j)), (4, .int (bI ((decide (j = 0) || anyB (fun p => decide (pf p 2 = j)) nP)))), (5, .int (nI nP))] 82 []
                    refine v_iload C dX10_could_82 rfl ?_
                    refine v_ifb_eq (tgt := 100) C dX10_could_84 (by decide) (fun h84 => ?_) (fun h84 => ?_)
                    · refine v_iinc (lv' := [(3, .int (nI (j + 1))), (0, .ref md), (1, .int (nI k)), (2, .int (nI i)), (4, .int (bI ((decide (j = 0) || anyB (fun p => decide (pf p 2 = j)) nP)))), (5, .int (nI nP))]) C dX10_could_100 3 rfl (nI_1 _) hN (by decide) rfl ?_
                      refine v_goto (tgt := 20) C dX10_could_103 (by decide) ?_
                      refine v_sub (lv' := [(0, .ref md), (1, .int (nI k)), (2, .int (nI i)), (3, .int (nI (j + 1)))]) [1, 2, 3, 0] rfl ?_
                      exact ih20 (j + 1) (by omega) (fstB_step h2 (by simp [h84])) (by omega)
                    · refine v_aload_n C dX10_could_87 rfl ?_
                      refine v_iload_n C dX10_could_88 rfl ?_
                      refine v_iload_n C dX10_could_89 rfl ?_
                      refine v_iload_n C dX10_could_90 rfl ?_
                      refine v_callV (As := [.int (nI k), .int (nI i), .int (nI j)]) (rest := []) (b := md) C (c_X10_fitOf (xl X) (xg X) M md t1 t2 t3 t4 t5 t6 t7 t8 fT fD fP fC fS fU fX fF mo nT m dB nP pf cB nS sg ln tx fl hM k i j (by omega) hlu (by omega) (by omega)) pm_X10_fitOf wI_X10_fitOf wS_X10_fitOf wM_X10_109 kX10 hO ⟨by decide, by decide⟩ ⟨by decide, by decide⟩ (nle rfl) dX10_could_91 rfl (dt1 ?_)
                      show V X (rmD 9 0 0) M 0 0 [(0, .ref md), (1, .int (nI k)), (2, .int (nI i)), (3, .int (nI j)), (4, .int (bI ((decide (j = 0) || anyB (fun p => decide (pf p 2 = j)) nP)))), (5, .int (nI nP))] 94 [.int (fitI nT m nP pf cB ln tx k i j)]
                      refine v_iconst C dX10_could_94 (v := 2) rfl ?_
                      refine v_icmp_ne (tgt := 100) C dX10_could_95 (by decide) (fun h95 => ?_) (fun h95 => ?_)
                      · refine v_iinc (lv' := [(3, .int (nI (j + 1))), (0, .ref md), (1, .int (nI k)), (2, .int (nI i)), (4, .int (bI ((decide (j = 0) || anyB (fun p => decide (pf p 2 = j)) nP)))), (5, .int (nI nP))]) C dX10_could_100 3 rfl (nI_1 _) hN (by decide) rfl ?_
                        refine v_goto (tgt := 20) C dX10_could_103 (by decide) ?_
                        refine v_sub (lv' := [(0, .ref md), (1, .int (nI k)), (2, .int (nI i)), (3, .int (nI (j + 1)))]) [1, 2, 3, 0] rfl ?_
                        exact ih20 (j + 1) (by omega) (fstB_step h2 (by simp [h95])) (by omega)
                      · refine v_iload_n C dX10_could_98 rfl ?_
                        exact v_iret C E dX10_could_99 (nle rfl) (nle rfl) ⟨by simp only [aCould, hx, hxu]; rw [fstB_hit (i := j) h2 (by simp [h84, h95]) g23]; rfl, rfl⟩
                  · have g46 := nI_nleN (by omega) (by omega) h46
                    have ep := okP_ p g46
                    unfold okP at ep
                    refine v_iload C dX10_could_49 rfl ?_
                    refine v_ifb_ne (tgt := 69) C dX10_could_51 (by decide) (fun h51 => ?_) (fun h51 => ?_)
                    · refine v_iconst C dX10_could_69 (v := 1) rfl ?_
                      refine v_goto (tgt := 74) C dX10_could_70 (by decide) ?_
                      refine v_istore (lv' := [(4, .int 1), (0, .ref md), (1, .int (nI k)), (2, .int (nI i)), (3, .int (nI j)), (5, .int (nI p))]) C dX10_could_74 hN (by decide) rfl ?_
                      refine v_iinc (lv' := [(5, .int (nI (p + 1))), (4, .int 1), (0, .ref md), (1, .int (nI k)), (2, .int (nI i)), (3, .int (nI j))]) C dX10_could_76 5 rfl (nI_1 _) hN (by decide) rfl ?_
                      refine v_goto (tgt := 40) C dX10_could_79 (by decide) ?_
                      refine v_sub (lv' := [(0, .ref md), (1, .int (nI k)), (2, .int (nI i)), (3, .int (nI j)), (4, .int 1), (5, .int (nI (p + 1)))]) [2, 3, 4, 5, 1, 0] rfl ?_
                      have e41 := ih40 (p + 1) (by omega) (by omega)
                      rw [show (decide (j = 0) || anyB (fun p => decide (pf p 2 = j)) (p + 1)) = true from by rw [anyB_s, ← Bool.or_assoc, h51]; first | rfl | (rw [decide_eq_true (nI_eqN (by omega) (by omega) h66)]; rfl)] at e41
                      exact e41
                    · refine v_aload_n C dX10_could_54 rfl ?_
                      refine v_get C kX10 hO 4 (by decide) wF_X10_17 rfl dX10_could_55 ?_
                      refine v_iconst C dX10_could_58 (v := 5) rfl ?_
                      refine v_iload C dX10_could_59 rfl ?_
                      refine v_imul C dX10_could_61 ?_
                      refine v_iconst C dX10_could_62 (v := 2) rfl ?_
                      refine v_iadd C dX10_could_63 ?_
                      rw [show ((5 * (nI p)) + 2 : Int32) = nI (5 * p + 2) from ix_ad (ix_mu rfl rfl) rfl]
                      refine v_iald C h3_ (vp_in_nI (by omega) (by decide)) dX10_could_64 ?_
                      rw [show fP (nI (5 * p + 2) : Int32).toNatClampNeg = nI (pf p 2) from by rw [nI_clamp (by omega)]; exact cP p g46 2 (by omega)]
                      refine v_iload_n C dX10_could_65 rfl ?_
                      refine v_icmp_ne (tgt := 73) C dX10_could_66 (by decide) (fun h66 => ?_) (fun h66 => ?_)
                      · refine v_iconst C dX10_could_73 (v := 0) rfl ?_
                        refine v_istore (lv' := [(4, .int 0), (0, .ref md), (1, .int (nI k)), (2, .int (nI i)), (3, .int (nI j)), (5, .int (nI p))]) C dX10_could_74 hN (by decide) rfl ?_
                        refine v_iinc (lv' := [(5, .int (nI (p + 1))), (4, .int 0), (0, .ref md), (1, .int (nI k)), (2, .int (nI i)), (3, .int (nI j))]) C dX10_could_76 5 rfl (nI_1 _) hN (by decide) rfl ?_
                        refine v_goto (tgt := 40) C dX10_could_79 (by decide) ?_
                        refine v_sub (lv' := [(0, .ref md), (1, .int (nI k)), (2, .int (nI i)), (3, .int (nI j)), (4, .int 0), (5, .int (nI (p + 1)))]) [2, 3, 4, 5, 1, 0] rfl ?_
                        have e41 := ih40 (p + 1) (by omega) (by omega)
                        rw [show (decide (j = 0) || anyB (fun p => decide (pf p 2 = j)) (p + 1)) = false from by rw [anyB_s, ← Bool.or_assoc, h51]; rw [decide_eq_false (fun z => h66 (by rw [z]))]; rfl] at e41
                        exact e41
                      · refine v_iconst C dX10_could_69 (v := 1) rfl ?_
                        refine v_goto (tgt := 74) C dX10_could_70 (by decide) ?_
                        refine v_istore (lv' := [(4, .int 1), (0, .ref md), (1, .int (nI k)), (2, .int (nI i)), (3, .int (nI j)), (5, .int (nI p))]) C dX10_could_74 hN (by decide) rfl ?_
                        refine v_iinc (lv' := [(5, .int (nI (p + 1))), (4, .int 1), (0, .ref md), (1, .int (nI k)), (2, .int (nI i)), (3, .int (nI j))]) C dX10_could_76 5 rfl (nI_1 _) hN (by decide) rfl ?_
                        refine v_goto (tgt := 40) C dX10_could_79 (by decide) ?_
                        refine v_sub (lv' := [(0, .ref md), (1, .int (nI k)), (2, .int (nI i)), (3, .int (nI j)), (4, .int 1), (5, .int (nI (p + 1)))]) [2, 3, 4, 5, 1, 0] rfl ?_
                        have e41 := ih40 (p + 1) (by omega) (by omega)
                        rw [show (decide (j = 0) || anyB (fun p => decide (pf p 2 = j)) (p + 1)) = true from by rw [anyB_s, ← Bool.or_assoc, h51]; first | rfl | (rw [decide_eq_true (nI_eqN (by omega) (by omega) h66)]; rfl)] at e41
                        exact e41
              have e40 := lp40 (_ + 1) 0 (Nat.zero_le _) (Nat.lt_succ_self _)
              rw [show (decide (j = 0) || anyB (fun p => decide (pf p 2 = j)) 0) = false from by rw [decide_eq_false (nI_neN (b := 0) (by omega) (by decide) h27)]; rfl] at e40
              exact e40
            · refine v_iconst C dX10_could_30 (v := 1) rfl ?_
              refine v_goto (tgt := 35) C dX10_could_31 (by decide) ?_
              refine v_istore (lv' := [(4, .int 1), (0, .ref md), (1, .int (nI k)), (2, .int (nI i)), (3, .int (nI j))]) C dX10_could_35 hN (by decide) rfl ?_
              refine v_iconst C dX10_could_37 (v := 0) rfl ?_
              refine v_istore (lv' := [(5, .int 0), (4, .int 1), (0, .ref md), (1, .int (nI k)), (2, .int (nI i)), (3, .int (nI j))]) C dX10_could_38 hN (by decide) rfl ?_
              refine v_sub (lv' := [(0, .ref md), (1, .int (nI k)), (2, .int (nI i)), (3, .int (nI j)), (4, .int 1), (5, .int 0)]) [2, 3, 4, 5, 1, 0] rfl ?_
              have lp40 : ∀ (mm : Nat) (p : Nat) (hp : p ≤ nP), nP - p < mm → V X (rmD 9 0 0) M 0 0 [(0, .ref md), (1, .int (nI k)), (2, .int (nI i)), (3, .int (nI j)), (4, .int (bI ((decide (j = 0) || anyB (fun p => decide (pf p 2 = j)) p)))), (5, .int (nI p))] 40 [] := by
                intro mm
                induction mm with
                | zero => intro p hp hmu; exact absurd hmu (Nat.not_lt_zero _)
                | succ mm ih40 =>
                  intro p hp hmu
                  refine v_iload C dX10_could_40 rfl ?_
                  refine v_aload_n C dX10_could_42 rfl ?_
                  refine v_get C kX10 hO 3 (by decide) wF_X10_43 rfl dX10_could_43 ?_
                  refine v_icmp_ge (tgt := 82) C dX10_could_46 (by decide) (fun h46 => ?_) (fun h46 => ?_)
                  · rw [show p = nP from Nat.le_antisymm hp (nI_leN (by omega) (by omega) h46)]
                    show V X (rmD 9 0 0) M 0 0 [(0, .ref md), (1, .int (nI k)), (2, .int (nI i)), (3, .int (nI j)), (4, .int (bI ((decide (j = 0) || anyB (fun p => decide (pf p 2 = j)) nP)))), (5, .int (nI nP))] 82 []
                    refine v_iload C dX10_could_82 rfl ?_
                    refine v_ifb_eq (tgt := 100) C dX10_could_84 (by decide) (fun h84 => ?_) (fun h84 => ?_)
                    · refine v_iinc (lv' := [(3, .int (nI (j + 1))), (0, .ref md), (1, .int (nI k)), (2, .int (nI i)), (4, .int (bI ((decide (j = 0) || anyB (fun p => decide (pf p 2 = j)) nP)))), (5, .int (nI nP))]) C dX10_could_100 3 rfl (nI_1 _) hN (by decide) rfl ?_
                      refine v_goto (tgt := 20) C dX10_could_103 (by decide) ?_
                      refine v_sub (lv' := [(0, .ref md), (1, .int (nI k)), (2, .int (nI i)), (3, .int (nI (j + 1)))]) [1, 2, 3, 0] rfl ?_
                      exact ih20 (j + 1) (by omega) (fstB_step h2 (by simp [h84])) (by omega)
                    · refine v_aload_n C dX10_could_87 rfl ?_
                      refine v_iload_n C dX10_could_88 rfl ?_
                      refine v_iload_n C dX10_could_89 rfl ?_
                      refine v_iload_n C dX10_could_90 rfl ?_
                      refine v_callV (As := [.int (nI k), .int (nI i), .int (nI j)]) (rest := []) (b := md) C (c_X10_fitOf (xl X) (xg X) M md t1 t2 t3 t4 t5 t6 t7 t8 fT fD fP fC fS fU fX fF mo nT m dB nP pf cB nS sg ln tx fl hM k i j (by omega) hlu (by omega) (by omega)) pm_X10_fitOf wI_X10_fitOf wS_X10_fitOf wM_X10_109 kX10 hO ⟨by decide, by decide⟩ ⟨by decide, by decide⟩ (nle rfl) dX10_could_91 rfl (dt1 ?_)
                      show V X (rmD 9 0 0) M 0 0 [(0, .ref md), (1, .int (nI k)), (2, .int (nI i)), (3, .int (nI j)), (4, .int (bI ((decide (j = 0) || anyB (fun p => decide (pf p 2 = j)) nP)))), (5, .int (nI nP))] 94 [.int (fitI nT m nP pf cB ln tx k i j)]
                      refine v_iconst C dX10_could_94 (v := 2) rfl ?_
                      refine v_icmp_ne (tgt := 100) C dX10_could_95 (by decide) (fun h95 => ?_) (fun h95 => ?_)
                      · refine v_iinc (lv' := [(3, .int (nI (j + 1))), (0, .ref md), (1, .int (nI k)), (2, .int (nI i)), (4, .int (bI ((decide (j = 0) || anyB (fun p => decide (pf p 2 = j)) nP)))), (5, .int (nI nP))]) C dX10_could_100 3 rfl (nI_1 _) hN (by decide) rfl ?_
                        refine v_goto (tgt := 20) C dX10_could_103 (by decide) ?_
                        refine v_sub (lv' := [(0, .ref md), (1, .int (nI k)), (2, .int (nI i)), (3, .int (nI (j + 1)))]) [1, 2, 3, 0] rfl ?_
                        exact ih20 (j + 1) (by omega) (fstB_step h2 (by simp [h95])) (by omega)
                      · refine v_iload_n C dX10_could_98 rfl ?_
                        exact v_iret C E dX10_could_99 (nle rfl) (nle rfl) ⟨by simp only [aCould, hx, hxu]; rw [fstB_hit (i := j) h2 (by simp [h84, h95]) g23]; rfl, rfl⟩
                  · have g46 := nI_nleN (by omega) (by omega) h46
                    have ep := okP_ p g46
                    unfold okP at ep
                    refine v_iload C dX10_could_49 rfl ?_
                    refine v_ifb_ne (tgt := 69) C dX10_could_51 (by decide) (fun h51 => ?_) (fun h51 => ?_)
                    · refine v_iconst C dX10_could_69 (v := 1) rfl ?_
                      refine v_goto (tgt := 74) C dX10_could_70 (by decide) ?_
                      refine v_istore (lv' := [(4, .int 1), (0, .ref md), (1, .int (nI k)), (2, .int (nI i)), (3, .int (nI j)), (5, .int (nI p))]) C dX10_could_74 hN (by decide) rfl ?_
                      refine v_iinc (lv' := [(5, .int (nI (p + 1))), (4, .int 1), (0, .ref md), (1, .int (nI k)), (2, .int (nI i)), (3, .int (nI j))]) C dX10_could_76 5 rfl (nI_1 _) hN (by decide) rfl ?_
                      refine v_goto (tgt := 40) C dX10_could_79 (by decide) ?_
                      refine v_sub (lv' := [(0, .ref md), (1, .int (nI k)), (2, .int (nI i)), (3, .int (nI j)), (4, .int 1), (5, .int (nI (p + 1)))]) [2, 3, 4, 5, 1, 0] rfl ?_
                      have e41 := ih40 (p + 1) (by omega) (by omega)
                      rw [show (decide (j = 0) || anyB (fun p => decide (pf p 2 = j)) (p + 1)) = true from by rw [anyB_s, ← Bool.or_assoc, h51]; first | rfl | (rw [decide_eq_true (nI_eqN (by omega) (by omega) h66)]; rfl)] at e41
                      exact e41
                    · refine v_aload_n C dX10_could_54 rfl ?_
                      refine v_get C kX10 hO 4 (by decide) wF_X10_17 rfl dX10_could_55 ?_
                      refine v_iconst C dX10_could_58 (v := 5) rfl ?_
                      refine v_iload C dX10_could_59 rfl ?_
                      refine v_imul C dX10_could_61 ?_
                      refine v_iconst C dX10_could_62 (v := 2) rfl ?_
                      refine v_iadd C dX10_could_63 ?_
                      rw [show ((5 * (nI p)) + 2 : Int32) = nI (5 * p + 2) from ix_ad (ix_mu rfl rfl) rfl]
                      refine v_iald C h3_ (vp_in_nI (by omega) (by decide)) dX10_could_64 ?_
                      rw [show fP (nI (5 * p + 2) : Int32).toNatClampNeg = nI (pf p 2) from by rw [nI_clamp (by omega)]; exact cP p g46 2 (by omega)]
                      refine v_iload_n C dX10_could_65 rfl ?_
                      refine v_icmp_ne (tgt := 73) C dX10_could_66 (by decide) (fun h66 => ?_) (fun h66 => ?_)
                      · refine v_iconst C dX10_could_73 (v := 0) rfl ?_
                        refine v_istore (lv' := [(4, .int 0), (0, .ref md), (1, .int (nI k)), (2, .int (nI i)), (3, .int (nI j)), (5, .int (nI p))]) C dX10_could_74 hN (by decide) rfl ?_
                        refine v_iinc (lv' := [(5, .int (nI (p + 1))), (4, .int 0), (0, .ref md), (1, .int (nI k)), (2, .int (nI i)), (3, .int (nI j))]) C dX10_could_76 5 rfl (nI_1 _) hN (by decide) rfl ?_
                        refine v_goto (tgt := 40) C dX10_could_79 (by decide) ?_
                        refine v_sub (lv' := [(0, .ref md), (1, .int (nI k)), (2, .int (nI i)), (3, .int (nI j)), (4, .int 0), (5, .int (nI (p + 1)))]) [2, 3, 4, 5, 1, 0] rfl ?_
                        have e41 := ih40 (p + 1) (by omega) (by omega)
                        rw [show (decide (j = 0) || anyB (fun p => decide (pf p 2 = j)) (p + 1)) = false from by rw [anyB_s, ← Bool.or_assoc, h51]; rw [decide_eq_false (fun z => h66 (by rw [z]))]; rfl] at e41
                        exact e41
                      · refine v_iconst C dX10_could_69 (v := 1) rfl ?_
                        refine v_goto (tgt := 74) C dX10_could_70 (by decide) ?_
                        refine v_istore (lv' := [(4, .int 1), (0, .ref md), (1, .int (nI k)), (2, .int (nI i)), (3, .int (nI j)), (5, .int (nI p))]) C dX10_could_74 hN (by decide) rfl ?_
                        refine v_iinc (lv' := [(5, .int (nI (p + 1))), (4, .int 1), (0, .ref md), (1, .int (nI k)), (2, .int (nI i)), (3, .int (nI j))]) C dX10_could_76 5 rfl (nI_1 _) hN (by decide) rfl ?_
                        refine v_goto (tgt := 40) C dX10_could_79 (by decide) ?_
                        refine v_sub (lv' := [(0, .ref md), (1, .int (nI k)), (2, .int (nI i)), (3, .int (nI j)), (4, .int 1), (5, .int (nI (p + 1)))]) [2, 3, 4, 5, 1, 0] rfl ?_
                        have e41 := ih40 (p + 1) (by omega) (by omega)
                        rw [show (decide (j = 0) || anyB (fun p => decide (pf p 2 = j)) (p + 1)) = true from by rw [anyB_s, ← Bool.or_assoc, h51]; first | rfl | (rw [decide_eq_true (nI_eqN (by omega) (by omega) h66)]; rfl)] at e41
                        exact e41
              have e40 := lp40 (_ + 1) 0 (Nat.zero_le _) (Nat.lt_succ_self _)
              rw [show (decide (j = 0) || anyB (fun p => decide (pf p 2 = j)) 0) = true from by rw [decide_eq_true (nI_eqN (b := 0) (by omega) (by decide) h27)]; rfl] at e40
              exact e40
      exact lp20 (_ + 1) 0 (Nat.zero_le _) rfl (Nat.lt_succ_self _)
    · have hzi := trivial
      show V X (rmD 9 0 0) M 0 0 [(0, .ref md), (1, .int (nI k)), (2, .int t)] 1 [.ref md]
      refine v_iload_n C dX10_could_1 rfl ?_
      refine v_callV (As := [.int (nI k)]) (rest := []) (b := md) C (c_X10_isUse (xl X) (xg X) M md t1 t2 t3 t4 t5 t6 t7 t8 fT fD fP fC fS fU fX fF mo nT m dB nP pf cB nS sg ln tx fl hM (nI k)) pm_X10_isUse wI_X10_isUse wS_X10_isUse wM_X10_106 kX10 hO ⟨by decide, by decide⟩ ⟨by decide, by decide⟩ (nle rfl) dX10_could_2 rfl (dt1 ?_)
      show V X (rmD 9 0 0) M 0 0 [(0, .ref md), (1, .int (nI k)), (2, .int t)] 5 [.int (bI ((useI ln (nI k)).isSome))]
      refine v_ifb_eq (tgt := 16) C dX10_could_5 (by decide) (fun hbad => absurd hbad (by rw [hxu]; simp)) (fun h5 => ?_)
      refine v_aload_n C dX10_could_8 rfl ?_
      refine v_iload_n C dX10_could_9 rfl ?_
      refine v_callV (As := [.int t]) (rest := []) (b := md) C (c_X10_isThing (xl X) (xg X) M md t1 t2 t3 t4 t5 t6 t7 t8 fT fD fP fC fS fU fX fF mo nT m dB nP pf cB nS sg ln tx fl hM t) pm_X10_isThing wI_X10_isThing wS_X10_isThing wM_X10_50 kX10 hO ⟨by decide, by decide⟩ ⟨by decide, by decide⟩ (nle rfl) dX10_could_10 rfl (dt1 ?_)
      show V X (rmD 9 0 0) M 0 0 [(0, .ref md), (1, .int (nI k)), (2, .int t)] 13 [.int (bI ((idx nT t).isSome))]
      refine v_ifb_ne (tgt := 18) C dX10_could_13 (by decide) (fun hbad => absurd hbad (by rw [hx]; simp)) (fun h13 => ?_)
      refine v_iconst C dX10_could_16 (v := (-1)) rfl ?_
      exact v_iret C E dX10_could_17 (nle rfl) (nle rfl) ⟨(by rw [(aFit_U (d := 0) (Or.inr hx)).2]), rfl⟩
  · have hzu := trivial
    show V X (rmD 9 0 0) M 0 0 [(0, .ref md), (1, .int u), (2, .int t)] 0 []
    refine v_aload_n C dX10_could_0 rfl ?_
    rcases idx_cases nT (by omega) t with ⟨i, lt, rfl, hx⟩ | ⟨hn, hx⟩
    · have hzi := trivial
      show V X (rmD 9 0 0) M 0 0 [(0, .ref md), (1, .int u), (2, .int (nI i))] 1 [.ref md]
      refine v_iload_n C dX10_could_1 rfl ?_
      refine v_callV (As := [.int u]) (rest := []) (b := md) C (c_X10_isUse (xl X) (xg X) M md t1 t2 t3 t4 t5 t6 t7 t8 fT fD fP fC fS fU fX fF mo nT m dB nP pf cB nS sg ln tx fl hM u) pm_X10_isUse wI_X10_isUse wS_X10_isUse wM_X10_106 kX10 hO ⟨by decide, by decide⟩ ⟨by decide, by decide⟩ (nle rfl) dX10_could_2 rfl (dt1 ?_)
      show V X (rmD 9 0 0) M 0 0 [(0, .ref md), (1, .int u), (2, .int (nI i))] 5 [.int (bI ((useI ln u).isSome))]
      refine v_ifb_eq (tgt := 16) C dX10_could_5 (by decide) (fun h5 => ?_) (fun hbad => absurd hbad (by rw [hxu]; simp))
      refine v_iconst C dX10_could_16 (v := (-1)) rfl ?_
      exact v_iret C E dX10_could_17 (nle rfl) (nle rfl) ⟨(by rw [(aFit_U (d := 0) (Or.inl hxu)).2]), rfl⟩
    · have hzi := trivial
      show V X (rmD 9 0 0) M 0 0 [(0, .ref md), (1, .int u), (2, .int t)] 1 [.ref md]
      refine v_iload_n C dX10_could_1 rfl ?_
      refine v_callV (As := [.int u]) (rest := []) (b := md) C (c_X10_isUse (xl X) (xg X) M md t1 t2 t3 t4 t5 t6 t7 t8 fT fD fP fC fS fU fX fF mo nT m dB nP pf cB nS sg ln tx fl hM u) pm_X10_isUse wI_X10_isUse wS_X10_isUse wM_X10_106 kX10 hO ⟨by decide, by decide⟩ ⟨by decide, by decide⟩ (nle rfl) dX10_could_2 rfl (dt1 ?_)
      show V X (rmD 9 0 0) M 0 0 [(0, .ref md), (1, .int u), (2, .int t)] 5 [.int (bI ((useI ln u).isSome))]
      refine v_ifb_eq (tgt := 16) C dX10_could_5 (by decide) (fun h5 => ?_) (fun hbad => absurd hbad (by rw [hxu]; simp))
      refine v_iconst C dX10_could_16 (v := (-1)) rfl ?_
      exact v_iret C E dX10_could_17 (nle rfl) (nle rfl) ⟨(by rw [(aFit_U (d := 0) (Or.inl hxu)).2]), rfl⟩

set_option maxHeartbeats 4000000 in
set_option maxRecDepth 100000 in
theorem c_X10_all (l : Launch) (g : Gm) (M : Mem) (md : Nat) (t1 t2 t3 t4 t5 t6 t7 t8 : Nat) (fT fD fP fC fS fU fX fF : Nat → Int32) (mo : Int32) (nT : Nat) (m : Nat → Nat → Nat) (dB : Nat → Nat → Bool) (nP : Nat) (pf : Nat → Nat → Nat) (cB : Nat → Nat → Bool) (nS : Nat) (sg : Nat → Int32) (ln : Nat → Nat) (tx : Nat → Nat → Int32) (fl : Nat → Nat → Nat) (hM : ModA g M md t1 t2 t3 t4 t5 t6 t7 t8 fT fD fP fC fS fU fX fF mo nT m dB nP pf cB nS sg ln tx fl) (u d z : Int32) : Ct l g yX10_all cX10_all 6 (some .int) 9 0 0 [.ref md, .int u, .int d, .int z] M (fun v N => v = some (.int (aAll nT m nP pf cB ln tx u d z)) ∧ N = M) := by
  refine Ct.of (by decide) (Nat.le_of_ble_eq_true rfl) ?_
  intro X hXl hXg hN C E
  subst hXl; subst hXg
  show V X (rmD 9 0 0) M 0 0 [(0, .ref md), (1, .int u), (2, .int d), (3, .int z)] 0 []
  obtain ⟨hO, h1_, h2_, h3_, h4_, h5_, h6_, h7_, h8_, bT, bP, bS, okT_, cT, cD, okP_, cP, cC, cS, cU, bU_, cX, okX, okF_, cF⟩ := id hM
  rcases use_cases ln u with ⟨k, ltk, hlu, rfl, hxu⟩ | hxu
  · have hzu := trivial
    show V X (rmD 9 0 0) M 0 0 [(0, .ref md), (1, .int (nI k)), (2, .int d), (3, .int z)] 0 []
    refine v_aload_n C dX10_all_0 rfl ?_
    refine v_iload_n C dX10_all_1 rfl ?_
    refine v_callV (As := [.int (nI k)]) (rest := []) (b := md) C (c_X10_isUse (xl X) (xg X) M md t1 t2 t3 t4 t5 t6 t7 t8 fT fD fP fC fS fU fX fF mo nT m dB nP pf cB nS sg ln tx fl hM (nI k)) pm_X10_isUse wI_X10_isUse wS_X10_isUse wM_X10_106 kX10 hO ⟨by decide, by decide⟩ ⟨by decide, by decide⟩ (nle rfl) dX10_all_2 rfl (dt1 ?_)
    show V X (rmD 9 0 0) M 0 0 [(0, .ref md), (1, .int (nI k)), (2, .int d), (3, .int z)] 5 [.int (bI ((useI ln (nI k)).isSome))]
    refine v_ifb_ne (tgt := 10) C dX10_all_5 (by decide) (fun h5 => ?_) (fun hbad => absurd hbad (by rw [hxu]; simp))
    refine v_iload_n C dX10_all_10 rfl ?_
    refine v_callS (As := [.int d]) (rest := []) C (c_X10_isDay (xl X) (xg X) d M) pm_X10_isDay wT_X10_isDay wM_X10_46 ⟨by decide, by decide⟩ ⟨by decide, by decide⟩ (nle rfl) dX10_all_11 rfl (dt1 ?_)
    show V X (rmD 9 0 0) M 0 0 [(0, .ref md), (1, .int (nI k)), (2, .int d), (3, .int z)] 14 [.int (bI (qin d 0 99))]
    refine v_ifb_eq (tgt := 26) C dX10_all_14 (by decide) (fun h14 => ?_) (fun h14 => ?_)
    · refine v_bipush C dX10_all_26 (v := (-2)) rfl ?_
      exact v_iret C E dX10_all_28 (nle rfl) (nle rfl) ⟨by first | (simp [aAll, hxu, h14, h23]; done) | (simp [aAll, hxu, h14]; done), rfl⟩
    · refine v_iload_n C dX10_all_17 rfl ?_
      refine v_iconst C dX10_all_18 (v := 0) rfl ?_
      refine v_iconst C dX10_all_19 (v := 2) rfl ?_
      refine v_callS (As := [.int z, .int 0, .int 2]) (rest := []) C (c_X10_in (xl X) (xg X) z 0 2 M) pm_X10_in wT_X10_in wM_X10_35 ⟨by decide, by decide⟩ ⟨by decide, by decide⟩ (nle rfl) dX10_all_20 rfl (dt1 ?_)
      show V X (rmD 9 0 0) M 0 0 [(0, .ref md), (1, .int (nI k)), (2, .int d), (3, .int z)] 23 [.int (bI (qin z 0 2))]
      refine v_ifb_ne (tgt := 29) C dX10_all_23 (by decide) (fun h23 => ?_) (fun h23 => ?_)
      · obtain ⟨e, hLe, hje, rfl⟩ := qin_nJ (x := d) (L := 0) (N := 99) (by decide) (by decide) h14
        obtain ⟨q, hLq, hjq, rfl⟩ := qin_nJ (x := z) (L := 0) (N := 2) (by decide) (by decide) h23
        show V X (rmD 9 0 0) M 0 0 [(0, .ref md), (1, .int (nI k)), (2, .int (nI e)), (3, .int (nI q))] 29 []
        refine v_iconst C dX10_all_29 (v := 0) rfl ?_
        refine v_istore (lv' := [(4, .int 0), (0, .ref md), (1, .int (nI k)), (2, .int (nI e)), (3, .int (nI q))]) C dX10_all_30 hN (by decide) rfl ?_
        refine v_iconst C dX10_all_32 (v := 0) rfl ?_
        refine v_istore (lv' := [(5, .int 0), (4, .int 0), (0, .ref md), (1, .int (nI k)), (2, .int (nI e)), (3, .int (nI q))]) C dX10_all_33 hN (by decide) rfl ?_
        refine v_sub (lv' := [(0, .ref md), (1, .int (nI k)), (2, .int (nI e)), (3, .int (nI q)), (4, .int 0), (5, .int 0)]) [2, 3, 4, 5, 1, 0] rfl ?_
        have lp35 : ∀ (mm : Nat) (j : Nat) (h1 : j ≤ nT), nT - j < mm → V X (rmD 9 0 0) M 0 0 [(0, .ref md), (1, .int (nI k)), (2, .int (nI e)), (3, .int (nI q)), (4, .int (orB (fun i => decide (fitI nT m nP pf cB ln tx k i e = nI q)) j)), (5, .int (nI j))] 35 [] := by
          intro mm
          induction mm with
          | zero => intro j h1 hmu; exact absurd hmu (Nat.not_lt_zero _)
          | succ mm ih35 =>
            intro j h1 hmu
            refine v_iload C dX10_all_35 rfl ?_
            refine v_aload_n C dX10_all_37 rfl ?_
            refine v_get C kX10 hO 0 (by decide) wF_X10_39 rfl dX10_all_38 ?_
            refine v_icmp_ge (tgt := 75) C dX10_all_41 (by decide) (fun h41 => ?_) (fun h41 => ?_)
            · refine v_iload C dX10_all_75 rfl ?_
              exact v_iret C E dX10_all_77 (nle rfl) (nle rfl) ⟨by simp only [aAll, hxu, h14, h23, Bool.and_self, if_true]; rw [nI_clamp (n := e) (by omega), ← show j = nT from Nat.le_antisymm h1 (nI_leN (by omega) (by omega) h41)], rfl⟩
            · have g41 := nI_nleN (by omega) (by omega) h41
              refine v_iload C dX10_all_44 rfl ?_
              refine v_aload_n C dX10_all_46 rfl ?_
              refine v_iload_n C dX10_all_47 rfl ?_
              refine v_iload C dX10_all_48 rfl ?_
              refine v_iload_n C dX10_all_50 rfl ?_
              refine v_callV (As := [.int (nI k), .int (nI j), .int (nI e)]) (rest := [.int (orB (fun i => decide (fitI nT m nP pf cB ln tx k i e = nI q)) j)]) (b := md) C (c_X10_fitOf (xl X) (xg X) M md t1 t2 t3 t4 t5 t6 t7 t8 fT fD fP fC fS fU fX fF mo nT m dB nP pf cB nS sg ln tx fl hM k j e (by omega) hlu (by omega) (by omega)) pm_X10_fitOf wI_X10_fitOf wS_X10_fitOf wM_X10_109 kX10 hO ⟨by decide, by decide⟩ ⟨by decide, by decide⟩ (nle rfl) dX10_all_51 rfl (dt1 ?_)
              show V X (rmD 9 0 0) M 0 0 [(0, .ref md), (1, .int (nI k)), (2, .int (nI e)), (3, .int (nI q)), (4, .int (orB (fun i => decide (fitI nT m nP pf cB ln tx k i e = nI q)) j)), (5, .int (nI j))] 54 [.int (fitI nT m nP pf cB ln tx k j e), .int (orB (fun i => decide (fitI nT m nP pf cB ln tx k i e = nI q)) j)]
              refine v_iload_n C dX10_all_54 rfl ?_
              refine v_icmp_ne (tgt := 65) C dX10_all_55 (by decide) (fun h55 => ?_) (fun h55 => ?_)
              · refine v_iconst C dX10_all_65 (v := 0) rfl ?_
                refine v_ior C dX10_all_66 ?_
                refine v_istore (lv' := [(4, .int ((orB (fun i => decide (fitI nT m nP pf cB ln tx k i e = nI q)) j) ||| 0)), (0, .ref md), (1, .int (nI k)), (2, .int (nI e)), (3, .int (nI q)), (5, .int (nI j))]) C dX10_all_67 hN (by decide) rfl ?_
                refine v_iinc (lv' := [(5, .int (nI (j + 1))), (4, .int ((orB (fun i => decide (fitI nT m nP pf cB ln tx k i e = nI q)) j) ||| 0)), (0, .ref md), (1, .int (nI k)), (2, .int (nI e)), (3, .int (nI q))]) C dX10_all_69 5 rfl (nI_1 _) hN (by decide) rfl ?_
                refine v_goto (tgt := 35) C dX10_all_72 (by decide) ?_
                refine v_sub (lv' := [(0, .ref md), (1, .int (nI k)), (2, .int (nI e)), (3, .int (nI q)), (4, .int ((orB (fun i => decide (fitI nT m nP pf cB ln tx k i e = nI q)) j) ||| 0)), (5, .int (nI (j + 1)))]) [2, 3, 4, 5, 1, 0] rfl ?_
                rw [show orB (fun i => decide (fitI nT m nP pf cB ln tx k i e = nI q)) j ||| 0 = orB (fun i => decide (fitI nT m nP pf cB ln tx k i e = nI q)) (j + 1) from by rw [orB_f (p := fun i => decide (fitI nT m nP pf cB ln tx k i e = nI q)) (decide_eq_false h55)]; exact Int32.or_zero]
                exact ih35 (j + 1) (by omega) (by omega)
              · refine v_iconst C dX10_all_58 (v := 1) rfl ?_
                refine v_iload C dX10_all_59 rfl ?_
                refine v_ishl C dX10_all_61 ?_
                refine v_goto (tgt := 66) C dX10_all_62 (by decide) ?_
                refine v_ior C dX10_all_66 ?_
                refine v_istore (lv' := [(4, .int ((orB (fun i => decide (fitI nT m nP pf cB ln tx k i e = nI q)) j) ||| (1 <<< ((nI j) &&& 31)))), (0, .ref md), (1, .int (nI k)), (2, .int (nI e)), (3, .int (nI q)), (5, .int (nI j))]) C dX10_all_67 hN (by decide) rfl ?_
                refine v_iinc (lv' := [(5, .int (nI (j + 1))), (4, .int ((orB (fun i => decide (fitI nT m nP pf cB ln tx k i e = nI q)) j) ||| (1 <<< ((nI j) &&& 31)))), (0, .ref md), (1, .int (nI k)), (2, .int (nI e)), (3, .int (nI q))]) C dX10_all_69 5 rfl (nI_1 _) hN (by decide) rfl ?_
                refine v_goto (tgt := 35) C dX10_all_72 (by decide) ?_
                refine v_sub (lv' := [(0, .ref md), (1, .int (nI k)), (2, .int (nI e)), (3, .int (nI q)), (4, .int ((orB (fun i => decide (fitI nT m nP pf cB ln tx k i e = nI q)) j) ||| (1 <<< ((nI j) &&& 31)))), (5, .int (nI (j + 1)))]) [2, 3, 4, 5, 1, 0] rfl ?_
                rw [← orB_t (p := fun i => decide (fitI nT m nP pf cB ln tx k i e = nI q)) (decide_eq_true h55)]
                exact ih35 (j + 1) (by omega) (by omega)
        exact lp35 (_ + 1) 0 (Nat.zero_le _) (Nat.lt_succ_self _)
      · refine v_bipush C dX10_all_26 (v := (-2)) rfl ?_
        exact v_iret C E dX10_all_28 (nle rfl) (nle rfl) ⟨by first | (simp [aAll, hxu, h14, h23]; done) | (simp [aAll, hxu, h14]; done), rfl⟩
  · have hzu := trivial
    show V X (rmD 9 0 0) M 0 0 [(0, .ref md), (1, .int u), (2, .int d), (3, .int z)] 0 []
    refine v_aload_n C dX10_all_0 rfl ?_
    refine v_iload_n C dX10_all_1 rfl ?_
    refine v_callV (As := [.int u]) (rest := []) (b := md) C (c_X10_isUse (xl X) (xg X) M md t1 t2 t3 t4 t5 t6 t7 t8 fT fD fP fC fS fU fX fF mo nT m dB nP pf cB nS sg ln tx fl hM u) pm_X10_isUse wI_X10_isUse wS_X10_isUse wM_X10_106 kX10 hO ⟨by decide, by decide⟩ ⟨by decide, by decide⟩ (nle rfl) dX10_all_2 rfl (dt1 ?_)
    show V X (rmD 9 0 0) M 0 0 [(0, .ref md), (1, .int u), (2, .int d), (3, .int z)] 5 [.int (bI ((useI ln u).isSome))]
    refine v_ifb_ne (tgt := 10) C dX10_all_5 (by decide) (fun hbad => absurd hbad (by rw [hxu]; simp)) (fun h5 => ?_)
    refine v_iconst C dX10_all_8 (v := (-1)) rfl ?_
    exact v_iret C E dX10_all_9 (nle rfl) (nle rfl) ⟨by simp [aAll, hxu], rfl⟩

set_option maxHeartbeats 4000000 in
set_option maxRecDepth 100000 in
theorem c_X10_eastOf (l : Launch) (g : Gm) (w : Nat) (hw : w < 8) (M : Mem)  : Ct l g yX10_eastOf cX10_eastOf 1 (some .int) 0 0 0 [.int (nI w)] M (fun v N => v = some (.int (Int32.ofInt (dx8 w))) ∧ N = M) := by
  refine Ct.of (by decide) (Nat.le_of_ble_eq_true rfl) ?_
  intro X hXl hXg hN C E
  subst hXl; subst hXg
  show V X (rmD 0 0 0) M 0 0 [(0, .int (nI w))] 0 []
  refine v_iload_n C dX10_eastOf_0 rfl ?_
  refine v_iconst C dX10_eastOf_1 (v := 1) rfl ?_
  refine v_icmp_eq (tgt := 15) C dX10_eastOf_2 (by decide) (fun h2 => ?_) (fun h2 => ?_)
  · refine v_iconst C dX10_eastOf_15 (v := 1) rfl ?_
    refine v_goto (tgt := 41) C dX10_eastOf_16 (by decide) ?_
    exact v_iret C E dX10_eastOf_41 (nle rfl) (nle rfl) ⟨by rw [show dx8 w = 1 from by have g2 := nI_eqN (b := 1) (by omega) (by decide) h2; unfold dx8; (repeat' split) <;> omega]; rfl, rfl⟩
  · refine v_iload_n C dX10_eastOf_5 rfl ?_
    refine v_iconst C dX10_eastOf_6 (v := 2) rfl ?_
    refine v_icmp_eq (tgt := 15) C dX10_eastOf_7 (by decide) (fun h7 => ?_) (fun h7 => ?_)
    · refine v_iconst C dX10_eastOf_15 (v := 1) rfl ?_
      refine v_goto (tgt := 41) C dX10_eastOf_16 (by decide) ?_
      exact v_iret C E dX10_eastOf_41 (nle rfl) (nle rfl) ⟨by rw [show dx8 w = 1 from by have g2 := nI_neN (b := 1) (by omega) (by decide) h2; have g7 := nI_eqN (b := 2) (by omega) (by decide) h7; unfold dx8; (repeat' split) <;> omega]; rfl, rfl⟩
    · refine v_iload_n C dX10_eastOf_10 rfl ?_
      refine v_iconst C dX10_eastOf_11 (v := 3) rfl ?_
      refine v_icmp_ne (tgt := 19) C dX10_eastOf_12 (by decide) (fun h12 => ?_) (fun h12 => ?_)
      · refine v_iload_n C dX10_eastOf_19 rfl ?_
        refine v_iconst C dX10_eastOf_20 (v := 5) rfl ?_
        refine v_icmp_eq (tgt := 36) C dX10_eastOf_21 (by decide) (fun h21 => ?_) (fun h21 => ?_)
        · refine v_iconst C dX10_eastOf_36 (v := (-1)) rfl ?_
          refine v_goto (tgt := 41) C dX10_eastOf_37 (by decide) ?_
          exact v_iret C E dX10_eastOf_41 (nle rfl) (nle rfl) ⟨by rw [show dx8 w = -1 from by have g2 := nI_neN (b := 1) (by omega) (by decide) h2; have g7 := nI_neN (b := 2) (by omega) (by decide) h7; have g12 := nI_neN (b := 3) (by omega) (by decide) h12; have g21 := nI_eqN (b := 5) (by omega) (by decide) h21; unfold dx8; (repeat' split) <;> omega]; rfl, rfl⟩
        · refine v_iload_n C dX10_eastOf_24 rfl ?_
          refine v_bipush C dX10_eastOf_25 (v := 6) rfl ?_
          refine v_icmp_eq (tgt := 36) C dX10_eastOf_27 (by decide) (fun h27 => ?_) (fun h27 => ?_)
          · refine v_iconst C dX10_eastOf_36 (v := (-1)) rfl ?_
            refine v_goto (tgt := 41) C dX10_eastOf_37 (by decide) ?_
            exact v_iret C E dX10_eastOf_41 (nle rfl) (nle rfl) ⟨by rw [show dx8 w = -1 from by have g2 := nI_neN (b := 1) (by omega) (by decide) h2; have g7 := nI_neN (b := 2) (by omega) (by decide) h7; have g12 := nI_neN (b := 3) (by omega) (by decide) h12; have g21 := nI_neN (b := 5) (by omega) (by decide) h21; have g27 := nI_eqN (b := 6) (by omega) (by decide) h27; unfold dx8; (repeat' split) <;> omega]; rfl, rfl⟩
          · refine v_iload_n C dX10_eastOf_30 rfl ?_
            refine v_bipush C dX10_eastOf_31 (v := 7) rfl ?_
            refine v_icmp_ne (tgt := 40) C dX10_eastOf_33 (by decide) (fun h33 => ?_) (fun h33 => ?_)
            · refine v_iconst C dX10_eastOf_40 (v := 0) rfl ?_
              exact v_iret C E dX10_eastOf_41 (nle rfl) (nle rfl) ⟨by rw [show dx8 w = 0 from by have g2 := nI_neN (b := 1) (by omega) (by decide) h2; have g7 := nI_neN (b := 2) (by omega) (by decide) h7; have g12 := nI_neN (b := 3) (by omega) (by decide) h12; have g21 := nI_neN (b := 5) (by omega) (by decide) h21; have g27 := nI_neN (b := 6) (by omega) (by decide) h27; have g33 := nI_neN (b := 7) (by omega) (by decide) h33; unfold dx8; (repeat' split) <;> omega]; rfl, rfl⟩
            · refine v_iconst C dX10_eastOf_36 (v := (-1)) rfl ?_
              refine v_goto (tgt := 41) C dX10_eastOf_37 (by decide) ?_
              exact v_iret C E dX10_eastOf_41 (nle rfl) (nle rfl) ⟨by rw [show dx8 w = -1 from by have g2 := nI_neN (b := 1) (by omega) (by decide) h2; have g7 := nI_neN (b := 2) (by omega) (by decide) h7; have g12 := nI_neN (b := 3) (by omega) (by decide) h12; have g21 := nI_neN (b := 5) (by omega) (by decide) h21; have g27 := nI_neN (b := 6) (by omega) (by decide) h27; have g33 := nI_eqN (b := 7) (by omega) (by decide) h33; unfold dx8; (repeat' split) <;> omega]; rfl, rfl⟩
      · refine v_iconst C dX10_eastOf_15 (v := 1) rfl ?_
        refine v_goto (tgt := 41) C dX10_eastOf_16 (by decide) ?_
        exact v_iret C E dX10_eastOf_41 (nle rfl) (nle rfl) ⟨by rw [show dx8 w = 1 from by have g2 := nI_neN (b := 1) (by omega) (by decide) h2; have g7 := nI_neN (b := 2) (by omega) (by decide) h7; have g12 := nI_eqN (b := 3) (by omega) (by decide) h12; unfold dx8; (repeat' split) <;> omega]; rfl, rfl⟩

set_option maxHeartbeats 4000000 in
set_option maxRecDepth 100000 in
theorem c_X10_southOf (l : Launch) (g : Gm) (w : Nat) (hw : w < 8) (M : Mem)  : Ct l g yX10_southOf cX10_southOf 1 (some .int) 0 0 0 [.int (nI w)] M (fun v N => v = some (.int (Int32.ofInt (dy8 w))) ∧ N = M) := by
  refine Ct.of (by decide) (Nat.le_of_ble_eq_true rfl) ?_
  intro X hXl hXg hN C E
  subst hXl; subst hXg
  show V X (rmD 0 0 0) M 0 0 [(0, .int (nI w))] 0 []
  refine v_iload_n C dX10_southOf_0 rfl ?_
  refine v_iconst C dX10_southOf_1 (v := 2) rfl ?_
  refine v_icmp_le (tgt := 15) C dX10_southOf_2 (by decide) (fun h2 => ?_) (fun h2 => ?_)
  · refine v_iload_n C dX10_southOf_15 rfl ?_
    refine v_bipush C dX10_southOf_16 (v := 7) rfl ?_
    refine v_icmp_eq (tgt := 26) C dX10_southOf_18 (by decide) (fun h18 => ?_) (fun h18 => ?_)
    · refine v_iconst C dX10_southOf_26 (v := (-1)) rfl ?_
      refine v_goto (tgt := 31) C dX10_southOf_27 (by decide) ?_
      exact v_iret C E dX10_southOf_31 (nle rfl) (nle rfl) ⟨by rw [show dy8 w = -1 from by have g2 := nI_leN (b := 2) (by omega) (by decide) h2; have g18 := nI_eqN (b := 7) (by omega) (by decide) h18; unfold dy8; (repeat' split) <;> omega]; rfl, rfl⟩
    · refine v_iload_n C dX10_southOf_21 rfl ?_
      refine v_iconst C dX10_southOf_22 (v := 2) rfl ?_
      refine v_icmp_ge (tgt := 30) C dX10_southOf_23 (by decide) (fun h23 => ?_) (fun h23 => ?_)
      · refine v_iconst C dX10_southOf_30 (v := 0) rfl ?_
        exact v_iret C E dX10_southOf_31 (nle rfl) (nle rfl) ⟨by rw [show dy8 w = 0 from by have g2 := nI_leN (b := 2) (by omega) (by decide) h2; have g18 := nI_neN (b := 7) (by omega) (by decide) h18; have g23 := nI_leN (a := 2) (by decide) (by omega) h23; unfold dy8; (repeat' split) <;> omega]; rfl, rfl⟩
      · refine v_iconst C dX10_southOf_26 (v := (-1)) rfl ?_
        refine v_goto (tgt := 31) C dX10_southOf_27 (by decide) ?_
        exact v_iret C E dX10_southOf_31 (nle rfl) (nle rfl) ⟨by rw [show dy8 w = -1 from by have g2 := nI_leN (b := 2) (by omega) (by decide) h2; have g18 := nI_neN (b := 7) (by omega) (by decide) h18; have g23 := nI_nleN (a := 2) (by decide) (by omega) h23; unfold dy8; (repeat' split) <;> omega]; rfl, rfl⟩
  · refine v_iload_n C dX10_southOf_5 rfl ?_
    refine v_bipush C dX10_southOf_6 (v := 6) rfl ?_
    refine v_icmp_ge (tgt := 15) C dX10_southOf_8 (by decide) (fun h8 => ?_) (fun h8 => ?_)
    · refine v_iload_n C dX10_southOf_15 rfl ?_
      refine v_bipush C dX10_southOf_16 (v := 7) rfl ?_
      refine v_icmp_eq (tgt := 26) C dX10_southOf_18 (by decide) (fun h18 => ?_) (fun h18 => ?_)
      · refine v_iconst C dX10_southOf_26 (v := (-1)) rfl ?_
        refine v_goto (tgt := 31) C dX10_southOf_27 (by decide) ?_
        exact v_iret C E dX10_southOf_31 (nle rfl) (nle rfl) ⟨by rw [show dy8 w = -1 from by have g2 := nI_nleN (b := 2) (by omega) (by decide) h2; have g8 := nI_leN (a := 6) (by decide) (by omega) h8; have g18 := nI_eqN (b := 7) (by omega) (by decide) h18; unfold dy8; (repeat' split) <;> omega]; rfl, rfl⟩
      · refine v_iload_n C dX10_southOf_21 rfl ?_
        refine v_iconst C dX10_southOf_22 (v := 2) rfl ?_
        refine v_icmp_ge (tgt := 30) C dX10_southOf_23 (by decide) (fun h23 => ?_) (fun h23 => ?_)
        · refine v_iconst C dX10_southOf_30 (v := 0) rfl ?_
          exact v_iret C E dX10_southOf_31 (nle rfl) (nle rfl) ⟨by rw [show dy8 w = 0 from by have g2 := nI_nleN (b := 2) (by omega) (by decide) h2; have g8 := nI_leN (a := 6) (by decide) (by omega) h8; have g18 := nI_neN (b := 7) (by omega) (by decide) h18; have g23 := nI_leN (a := 2) (by decide) (by omega) h23; unfold dy8; (repeat' split) <;> omega]; rfl, rfl⟩
        · refine v_iconst C dX10_southOf_26 (v := (-1)) rfl ?_
          refine v_goto (tgt := 31) C dX10_southOf_27 (by decide) ?_
          exact v_iret C E dX10_southOf_31 (nle rfl) (nle rfl) ⟨by rw [show dy8 w = -1 from by have g2 := nI_nleN (b := 2) (by omega) (by decide) h2; have g8 := nI_leN (a := 6) (by decide) (by omega) h8; have g18 := nI_neN (b := 7) (by omega) (by decide) h18; have g23 := nI_nleN (a := 2) (by decide) (by omega) h23; unfold dy8; (repeat' split) <;> omega]; rfl, rfl⟩
    · refine v_iconst C dX10_southOf_11 (v := 1) rfl ?_
      refine v_goto (tgt := 31) C dX10_southOf_12 (by decide) ?_
      exact v_iret C E dX10_southOf_31 (nle rfl) (nle rfl) ⟨by rw [show dy8 w = 1 from by have g2 := nI_nleN (b := 2) (by omega) (by decide) h2; have g8 := nI_nleN (a := 6) (by decide) (by omega) h8; unfold dy8; (repeat' split) <;> omega]; rfl, rfl⟩

set_option maxHeartbeats 4000000 in
set_option maxRecDepth 100000 in
theorem c_X10_faces (l : Launch) (g : Gm) (M : Mem) (md : Nat) (t1 t2 t3 t4 t5 t6 t7 t8 : Nat) (fT fD fP fC fS fU fX fF : Nat → Int32) (mo : Int32) (nT : Nat) (m : Nat → Nat → Nat) (dB : Nat → Nat → Bool) (nP : Nat) (pf : Nat → Nat → Nat) (cB : Nat → Nat → Bool) (nS : Nat) (sg : Nat → Int32) (ln : Nat → Nat) (tx : Nat → Nat → Int32) (fl : Nat → Nat → Nat) (hM : ModA g M md t1 t2 t3 t4 t5 t6 t7 t8 fT fD fP fC fS fU fX fF mo nT m dB nP pf cB nS sg ln tx fl) (t d : Nat) (lt : t < nT) (hd : d < 100) : Ct l g yX10_faces cX10_faces 3 (some .boolean) 2 0 0 [.ref md, .int (nI t), .int (nI d)] M (fun v N => v = some (.int (bI (faceN (m t) d))) ∧ N = M) := by
  refine Ct.of (by decide) (Nat.le_of_ble_eq_true rfl) ?_
  intro X hXl hXg hN C E
  subst hXl; subst hXg
  show V X (rmD 2 0 0) M 0 0 [(0, .ref md), (1, .int (nI t)), (2, .int (nI d))] 0 []
  obtain ⟨hO, h1_, h2_, h3_, h4_, h5_, h6_, h7_, h8_, bT, bP, bS, okT_, cT, cD, okP_, cP, cC, cS, cU, bU_, cX, okX, okF_, cF⟩ := id hM
  have e8 := okT_ t lt
  unfold okM at e8
  refine v_aload_n C dX10_faces_0 rfl ?_
  refine v_get C kX10 hO 1 (by decide) wF_X10_7 rfl dX10_faces_1 ?_
  refine v_bipush C dX10_faces_4 (v := 11) rfl ?_
  refine v_iload_n C dX10_faces_6 rfl ?_
  refine v_imul C dX10_faces_7 ?_
  refine v_bipush C dX10_faces_8 (v := 8) rfl ?_
  refine v_iadd C dX10_faces_10 ?_
  rw [show ((11 * (nI t)) + 8 : Int32) = nI (11 * t + 8) from ix_ad (ix_mu rfl rfl) rfl]
  refine v_iald C h1_ (vp_in_nI (by omega) (by decide)) dX10_faces_11 ?_
  rw [show fT (nI (11 * t + 8) : Int32).toNatClampNeg = nI (m t 8) from by rw [nI_clamp (by omega)]; exact cT t lt 8 (by omega)]
  refine v_bipush C dX10_faces_12 (v := 8) rfl ?_
  refine v_icmp_ge (tgt := 30) C dX10_faces_14 (by decide) (fun h14 => ?_) (fun h14 => ?_)
  · refine v_iconst C dX10_faces_30 (v := 0) rfl ?_
    exact v_zret C E dX10_faces_31 (nle rfl) (nle rfl) (by decide) ⟨by rw [faceN]; first | (rw [h23, Bool.and_false]; rfl) | (rw [decide_eq_true (p := m t 8 = 8) (by have := nI_leN (a := 8) (by decide) (by omega) h14; omega)]; rfl), rfl⟩
  · refine v_aload_n C dX10_faces_17 rfl ?_
    refine v_iload_n C dX10_faces_18 rfl ?_
    refine v_iload_n C dX10_faces_19 rfl ?_
    refine v_callV (As := [.int (nI t), .int (nI d)]) (rest := []) (b := md) C (c_X10_isThere (xl X) (xg X) M md t1 t2 t3 t4 t5 t6 t7 t8 fT fD fP fC fS fU fX fF mo nT m dB nP pf cB nS sg ln tx fl hM t d (by omega) (by omega)) pm_X10_isThere wI_X10_isThere wS_X10_isThere wM_X10_53 kX10 hO ⟨by decide, by decide⟩ ⟨by decide, by decide⟩ (nle rfl) dX10_faces_20 rfl (dt1 ?_)
    show V X (rmD 2 0 0) M 0 0 [(0, .ref md), (1, .int (nI t)), (2, .int (nI d))] 23 [.int (bI (there (m t) d))]
    refine v_ifb_eq (tgt := 30) C dX10_faces_23 (by decide) (fun h23 => ?_) (fun h23 => ?_)
    · refine v_iconst C dX10_faces_30 (v := 0) rfl ?_
      exact v_zret C E dX10_faces_31 (nle rfl) (nle rfl) (by decide) ⟨by rw [faceN]; first | (rw [h23, Bool.and_false]; rfl) | (rw [decide_eq_true (p := m t 8 = 8) (by have := nI_leN (a := 8) (by decide) (by omega) h14; omega)]; rfl), rfl⟩
    · refine v_iconst C dX10_faces_26 (v := 1) rfl ?_
      refine v_goto (tgt := 31) C dX10_faces_27 (by decide) ?_
      exact v_zret C E dX10_faces_31 (nle rfl) (nle rfl) (by decide) ⟨by rw [faceN, decide_eq_false (p := m t 8 = 8) (by have := nI_nleN (a := 8) (by decide) (by omega) h14; omega), h23]; rfl, rfl⟩

def xI (m : Nat → Nat) (c : Nat) : Int := ((c % 12 : Nat) : Int) - (m 0 : Nat)
def yI (m : Nat → Nat) (c : Nat) : Int := ((c / 12 : Nat) : Int) - (m 1 : Nat)
def fr1 (x : Int) : Int := if 0 ≤ x then x else -x
def fr2 (x y : Int) : Int := if fr1 x < y then y else if fr1 x < -y then -y else fr1 x
theorem dif_I (a b : Nat) : nI a - nI b = Int32.ofInt ((a : Int) - b) := by rw [nI_ofInt, nI_ofInt, ← Int32.ofInt_sub]
theorem oi_le {a b : Int} (ha : -1000000 ≤ a ∧ a ≤ 1000000) (hb : -1000000 ≤ b ∧ b ≤ 1000000) : Int32.ofInt a ≤ Int32.ofInt b ↔ a ≤ b := by rw [Int32.le_iff_toInt_le, ofI_toInt ha, ofI_toInt hb]
theorem oi_eq {a b : Int} (ha : -1000000 ≤ a ∧ a ≤ 1000000) (hb : -1000000 ≤ b ∧ b ≤ 1000000) : Int32.ofInt a = Int32.ofInt b ↔ a = b := ⟨fun h => by have := congrArg Int32.toInt h; rwa [ofI_toInt ha, ofI_toInt hb] at this, fun h => by rw [h]⟩
theorem xy_b {m : Nat → Nat} (hm : okM m) {c : Nat} (hc : c < 96) : -11 ≤ xI m c ∧ xI m c ≤ 11 ∧ -11 ≤ yI m c ∧ yI m c ≤ 11 := by
  unfold okM at hm
  unfold xI yI
  omega
theorem fr_b {x y : Int} (h : -11 ≤ x ∧ x ≤ 11 ∧ -11 ≤ y ∧ y ≤ 11) : 0 ≤ fr1 x ∧ fr1 x ≤ 11 ∧ 0 ≤ fr2 x y ∧ fr2 x y ≤ 11 := by
  unfold fr2 fr1
  (repeat' split) <;> omega
theorem bool_acm (p q r : Bool) : ((p && q) && !r) = ((!r && p) && q) := by cases p <;> cases q <;> cases r <;> rfl
theorem on_far {m : Nat → Nat} (hm : okM m) {w c : Nat} (hw : w < 8) (hc : c < 96) : onN m w c = ((!liesN m (c % 12) (c / 12) && decide (xI m c = fr2 (xI m c) (yI m c) * dx8 w)) && decide (yI m c = fr2 (xI m c) (yI m c) * dy8 w)) := by
  have hb := xy_b hm hc
  have hf := fr_b hb
  have e : anyB (fun j => decide (lmv m w j = some c)) 12 = (decide (xI m c = fr2 (xI m c) (yI m c) * dx8 w) && decide (yI m c = fr2 (xI m c) (yI m c) * dy8 w)) := by
    rw [Bool.eq_iff_iff, anyB_iff, Bool.and_eq_true, decide_eq_true_eq, decide_eq_true_eq]
    constructor
    · rintro ⟨j, hj, hl⟩
      obtain ⟨a1, a2, -⟩ := lmv_xy (of_decide_eq_true hl)
      have hx := dx8_1 w
      have hy := dy8_1 w
      have hn := d8_ne hw
      unfold lx at a1
      unfold ly at a2
      unfold fr2 fr1 xI yI
      generalize dx8 w = a at *
      generalize dy8 w = b at *
      rcases (show a = -1 ∨ a = 0 ∨ a = 1 by omega) with rfl | rfl | rfl <;> rcases (show b = -1 ∨ b = 0 ∨ b = 1 by omega) with rfl | rfl | rfl <;> (repeat' split) <;> omega
    · rintro ⟨h1, h2⟩
      refine ⟨(fr2 (xI m c) (yI m c)).toNat, by omega, decide_eq_true (lmv_of hc ?_ ?_)⟩
      · unfold lx
        rw [Int.toNat_of_nonneg hf.2.2.1, ← h1]
        unfold xI
        omega
      · unfold ly
        rw [Int.toNat_of_nonneg hf.2.2.1, ← h2]
        unfold yI
        omega
  show (anyB (fun j => decide (lmv m w j = some c)) 12 && !liesN m (c % 12) (c / 12)) = _
  rw [e]
  exact bool_acm _ _ _
theorem d8_inj : ∀ w, w < 8 → ∀ v, v < 8 → dx8 w = dx8 v → dy8 w = dy8 v → w = v := by decide
theorem on_uniq {m : Nat → Nat} (hm : okM m) {w v c : Nat} (hw : w < 8) (hv : v < 8) (hc : c < 96) (h1 : onN m w c = true) (h2 : onN m v c = true) : w = v := by
  rw [on_far hm hw hc] at h1
  rw [on_far hm hv hc] at h2
  simp only [Bool.and_eq_true, decide_eq_true_eq, Bool.not_eq_true'] at h1 h2
  obtain ⟨⟨hl, x1⟩, y1⟩ := h1
  obtain ⟨⟨-, x2⟩, y2⟩ := h2
  have hb := xy_b hm hc
  have hf := fr_b hb
  by_cases z : fr2 (xI m c) (yI m c) = 0
  · exfalso
    rw [z, Int.zero_mul] at x1 y1
    unfold xI at x1
    unfold yI at y1
    unfold okM at hm
    unfold liesN at hl
    have q1 : c % 12 = m 0 := by omega
    have q2 : c / 12 = m 1 := by omega
    rw [q1, q2] at hl
    simp at hl
    omega
  · exact d8_inj w hw v hv (Int.eq_of_mul_eq_mul_left z (x1.symm.trans x2)) (Int.eq_of_mul_eq_mul_left z (y1.symm.trans y2))
set_option maxHeartbeats 4000000 in
set_option maxRecDepth 100000 in
theorem c_X10_isOn (l : Launch) (g : Gm) (M : Mem) (md : Nat) (t1 t2 t3 t4 t5 t6 t7 t8 : Nat) (fT fD fP fC fS fU fX fF : Nat → Int32) (mo : Int32) (nT : Nat) (m : Nat → Nat → Nat) (dB : Nat → Nat → Bool) (nP : Nat) (pf : Nat → Nat → Nat) (cB : Nat → Nat → Bool) (nS : Nat) (sg : Nat → Int32) (ln : Nat → Nat) (tx : Nat → Nat → Int32) (fl : Nat → Nat → Nat) (hM : ModA g M md t1 t2 t3 t4 t5 t6 t7 t8 fT fD fP fC fS fU fX fF mo nT m dB nP pf cB nS sg ln tx fl) (t w c : Nat) (lt : t < nT) (hw : w < 8) (hc : c < 96) : Ct l g yX10_isOn cX10_isOn 7 (some .boolean) 1 0 0 [.ref md, .int (nI t), .int (nI w), .int (nI c)] M (fun v N => v = some (.int (bI (onN (m t) w c))) ∧ N = M) := by
  refine Ct.of (by decide) (Nat.le_of_ble_eq_true rfl) ?_
  intro X hXl hXg hN C E
  subst hXl; subst hXg
  show V X (rmD 1 0 0) M 0 0 [(0, .ref md), (1, .int (nI t)), (2, .int (nI w)), (3, .int (nI c))] 0 []
  obtain ⟨hO, h1_, h2_, h3_, h4_, h5_, h6_, h7_, h8_, bT, bP, bS, okT_, cT, cD, okP_, cP, cC, cS, cU, bU_, cX, okX, okF_, cF⟩ := id hM
  have hb := xy_b (okT_ t lt) hc
  have hf := fr_b hb
  have hbx : -1000000 ≤ fr2 (xI (m t) c) (yI (m t) c) * dx8 w ∧ fr2 (xI (m t) c) (yI (m t) c) * dx8 w ≤ 1000000 := by have := mulB (k := fr2 (xI (m t) c) (yI (m t) c)) (n := 11) hf.2.2.1 hf.2.2.2 (dx8_1 w); omega
  have hby : -1000000 ≤ fr2 (xI (m t) c) (yI (m t) c) * dy8 w ∧ fr2 (xI (m t) c) (yI (m t) c) * dy8 w ≤ 1000000 := by have := mulB (k := fr2 (xI (m t) c) (yI (m t) c)) (n := 11) hf.2.2.1 hf.2.2.2 (dy8_1 w); omega
  refine v_iload_n C dX10_isOn_0 rfl ?_
  refine v_bipush C dX10_isOn_1 (v := 12) rfl ?_
  refine v_irem C dX10_isOn_3 (by decide) ?_
  rw [cell_mod (c := c) (by omega)]
  show V X (rmD 1 0 0) M 0 0 [(0, .ref md), (1, .int (nI t)), (2, .int (nI w)), (3, .int (nI c))] 4 [.int (nI (c % 12))]
  refine v_aload_n C dX10_isOn_4 rfl ?_
  refine v_get C kX10 hO 1 (by decide) wF_X10_7 rfl dX10_isOn_5 ?_
  refine v_bipush C dX10_isOn_8 (v := 11) rfl ?_
  refine v_iload_n C dX10_isOn_10 rfl ?_
  refine v_imul C dX10_isOn_11 ?_
  rw [show (11 * (nI t) : Int32) = nI (11 * t) from ix_mu rfl rfl]
  refine v_iald C h1_ (vp_in_nI (by omega) (by decide)) dX10_isOn_12 ?_
  rw [show fT (nI (11 * t) : Int32).toNatClampNeg = nI (m t 0) from by rw [nI_clamp (by omega)]; exact cT t lt 0 (by omega)]
  refine v_isub C dX10_isOn_13 ?_
  rw [show nI (c % 12) - nI (m t 0) = Int32.ofInt (xI (m t) c) from dif_I _ _]
  show V X (rmD 1 0 0) M 0 0 [(0, .ref md), (1, .int (nI t)), (2, .int (nI w)), (3, .int (nI c))] 14 [.int (Int32.ofInt (xI (m t) c))]
  refine v_istore (lv' := [(4, .int (Int32.ofInt (xI (m t) c))), (0, .ref md), (1, .int (nI t)), (2, .int (nI w)), (3, .int (nI c))]) C dX10_isOn_14 hN (by decide) rfl ?_
  refine v_iload_n C dX10_isOn_16 rfl ?_
  refine v_bipush C dX10_isOn_17 (v := 12) rfl ?_
  refine v_idiv C dX10_isOn_19 (by decide) ?_
  rw [cell_div (c := c) (by omega)]
  show V X (rmD 1 0 0) M 0 0 [(4, .int (Int32.ofInt (xI (m t) c))), (0, .ref md), (1, .int (nI t)), (2, .int (nI w)), (3, .int (nI c))] 20 [.int (nI (c / 12))]
  refine v_aload_n C dX10_isOn_20 rfl ?_
  refine v_get C kX10 hO 1 (by decide) wF_X10_7 rfl dX10_isOn_21 ?_
  refine v_bipush C dX10_isOn_24 (v := 11) rfl ?_
  refine v_iload_n C dX10_isOn_26 rfl ?_
  refine v_imul C dX10_isOn_27 ?_
  refine v_iconst C dX10_isOn_28 (v := 1) rfl ?_
  refine v_iadd C dX10_isOn_29 ?_
  rw [show ((11 * (nI t)) + 1 : Int32) = nI (11 * t + 1) from ix_ad (ix_mu rfl rfl) rfl]
  refine v_iald C h1_ (vp_in_nI (by omega) (by decide)) dX10_isOn_30 ?_
  rw [show fT (nI (11 * t + 1) : Int32).toNatClampNeg = nI (m t 1) from by rw [nI_clamp (by omega)]; exact cT t lt 1 (by omega)]
  refine v_isub C dX10_isOn_31 ?_
  rw [show nI (c / 12) - nI (m t 1) = Int32.ofInt (yI (m t) c) from dif_I _ _]
  show V X (rmD 1 0 0) M 0 0 [(4, .int (Int32.ofInt (xI (m t) c))), (0, .ref md), (1, .int (nI t)), (2, .int (nI w)), (3, .int (nI c))] 32 [.int (Int32.ofInt (yI (m t) c))]
  refine v_istore (lv' := [(5, .int (Int32.ofInt (yI (m t) c))), (4, .int (Int32.ofInt (xI (m t) c))), (0, .ref md), (1, .int (nI t)), (2, .int (nI w)), (3, .int (nI c))]) C dX10_isOn_32 hN (by decide) rfl ?_
  have j47 : V X (rmD 1 0 0) M 0 0 [(0, .ref md), (1, .int (nI t)), (2, .int (nI w)), (3, .int (nI c)), (4, .int (Int32.ofInt (xI (m t) c))), (5, .int (Int32.ofInt (yI (m t) c)))] 47 [.int (Int32.ofInt (fr1 (xI (m t) c)))] := by
    refine v_istore (lv' := [(6, .int (Int32.ofInt (fr1 (xI (m t) c)))), (0, .ref md), (1, .int (nI t)), (2, .int (nI w)), (3, .int (nI c)), (4, .int (Int32.ofInt (xI (m t) c))), (5, .int (Int32.ofInt (yI (m t) c)))]) C dX10_isOn_47 hN (by decide) rfl ?_
    have j77 : V X (rmD 1 0 0) M 0 0 [(0, .ref md), (1, .int (nI t)), (2, .int (nI w)), (3, .int (nI c)), (4, .int (Int32.ofInt (xI (m t) c))), (5, .int (Int32.ofInt (yI (m t) c))), (6, .int (Int32.ofInt (fr1 (xI (m t) c))))] 77 [.int (Int32.ofInt (fr2 (xI (m t) c) (yI (m t) c)))] := by
      refine v_istore (lv' := [(6, .int (Int32.ofInt (fr2 (xI (m t) c) (yI (m t) c)))), (0, .ref md), (1, .int (nI t)), (2, .int (nI w)), (3, .int (nI c)), (4, .int (Int32.ofInt (xI (m t) c))), (5, .int (Int32.ofInt (yI (m t) c)))]) C dX10_isOn_77 hN (by decide) rfl ?_
      refine v_aload_n C dX10_isOn_79 rfl ?_
      refine v_iload_n C dX10_isOn_80 rfl ?_
      refine v_iload_n C dX10_isOn_81 rfl ?_
      refine v_bipush C dX10_isOn_82 (v := 12) rfl ?_
      refine v_irem C dX10_isOn_84 (by decide) ?_
      rw [cell_mod (c := c) (by omega)]
      show V X (rmD 1 0 0) M 0 0 [(6, .int (Int32.ofInt (fr2 (xI (m t) c) (yI (m t) c)))), (0, .ref md), (1, .int (nI t)), (2, .int (nI w)), (3, .int (nI c)), (4, .int (Int32.ofInt (xI (m t) c))), (5, .int (Int32.ofInt (yI (m t) c)))] 85 [.int (nI (c % 12)), .int (nI t), .ref md]
      refine v_iload_n C dX10_isOn_85 rfl ?_
      refine v_bipush C dX10_isOn_86 (v := 12) rfl ?_
      refine v_idiv C dX10_isOn_88 (by decide) ?_
      rw [cell_div (c := c) (by omega)]
      show V X (rmD 1 0 0) M 0 0 [(6, .int (Int32.ofInt (fr2 (xI (m t) c) (yI (m t) c)))), (0, .ref md), (1, .int (nI t)), (2, .int (nI w)), (3, .int (nI c)), (4, .int (Int32.ofInt (xI (m t) c))), (5, .int (Int32.ofInt (yI (m t) c)))] 89 [.int (nI (c / 12)), .int (nI (c % 12)), .int (nI t), .ref md]
      refine v_callV (As := [.int (nI t), .int (nI (c % 12)), .int (nI (c / 12))]) (rest := []) (b := md) C (c_X10_isOwn (xl X) (xg X) M md t1 t2 t3 t4 t5 t6 t7 t8 fT fD fP fC fS fU fX fF mo nT m dB nP pf cB nS sg ln tx fl hM t ((c % 12)) ((c / 12)) (by omega) (by omega) (by omega)) pm_X10_isOwn wI_X10_isOwn wS_X10_isOwn wM_X10_57 kX10 hO ⟨by decide, by decide⟩ ⟨by decide, by decide⟩ (nle rfl) dX10_isOn_89 rfl (dt1 ?_)
      show V X (rmD 1 0 0) M 0 0 [(6, .int (Int32.ofInt (fr2 (xI (m t) c) (yI (m t) c)))), (0, .ref md), (1, .int (nI t)), (2, .int (nI w)), (3, .int (nI c)), (4, .int (Int32.ofInt (xI (m t) c))), (5, .int (Int32.ofInt (yI (m t) c)))] 92 [.int (bI (liesN (m t) ((c % 12)) ((c / 12))))]
      refine v_ifb_ne (tgt := 123) C dX10_isOn_92 (by decide) (fun h92 => ?_) (fun h92 => ?_)
      · refine v_iconst C dX10_isOn_123 (v := 0) rfl ?_
        exact v_zret C E dX10_isOn_124 (nle rfl) (nle rfl) (by decide) ⟨by rw [on_far (okT_ t lt) hw hc, h92]; first | rfl | (rw [decide_eq_false (fun z => h104 ((oi_eq (by omega) hbx).mpr z)), Bool.and_false]; rfl) | (rw [decide_eq_false (p := yI (m t) c = fr2 (xI (m t) c) (yI (m t) c) * dy8 w) (fun z => h116 ((oi_eq (by omega) hby).mpr z)), Bool.and_false]; rfl), rfl⟩
      · refine v_iload C dX10_isOn_95 rfl ?_
        refine v_iload C dX10_isOn_97 rfl ?_
        refine v_iload_n C dX10_isOn_99 rfl ?_
        refine v_callS (As := [.int (nI w)]) (rest := [.int (Int32.ofInt (fr2 (xI (m t) c) (yI (m t) c))), .int (Int32.ofInt (xI (m t) c))]) C (c_X10_eastOf (xl X) (xg X) w (by omega) M) pm_X10_eastOf wT_X10_eastOf wM_X10_112 ⟨by decide, by decide⟩ ⟨by decide, by decide⟩ (nle rfl) dX10_isOn_100 rfl (dt1 ?_)
        show V X (rmD 1 0 0) M 0 0 [(6, .int (Int32.ofInt (fr2 (xI (m t) c) (yI (m t) c)))), (0, .ref md), (1, .int (nI t)), (2, .int (nI w)), (3, .int (nI c)), (4, .int (Int32.ofInt (xI (m t) c))), (5, .int (Int32.ofInt (yI (m t) c)))] 103 [.int (Int32.ofInt (dx8 w)), .int (Int32.ofInt (fr2 (xI (m t) c) (yI (m t) c))), .int (Int32.ofInt (xI (m t) c))]
        refine v_imul C dX10_isOn_103 ?_
        rw [← Int32.ofInt_mul]
        show V X (rmD 1 0 0) M 0 0 [(6, .int (Int32.ofInt (fr2 (xI (m t) c) (yI (m t) c)))), (0, .ref md), (1, .int (nI t)), (2, .int (nI w)), (3, .int (nI c)), (4, .int (Int32.ofInt (xI (m t) c))), (5, .int (Int32.ofInt (yI (m t) c)))] 104 [.int (Int32.ofInt (fr2 (xI (m t) c) (yI (m t) c) * dx8 w)), .int (Int32.ofInt (xI (m t) c))]
        refine v_icmp_ne (tgt := 123) C dX10_isOn_104 (by decide) (fun h104 => ?_) (fun h104 => ?_)
        · refine v_iconst C dX10_isOn_123 (v := 0) rfl ?_
          exact v_zret C E dX10_isOn_124 (nle rfl) (nle rfl) (by decide) ⟨by rw [on_far (okT_ t lt) hw hc, h92]; first | rfl | (rw [decide_eq_false (fun z => h104 ((oi_eq (by omega) hbx).mpr z)), Bool.and_false]; rfl) | (rw [decide_eq_false (p := yI (m t) c = fr2 (xI (m t) c) (yI (m t) c) * dy8 w) (fun z => h116 ((oi_eq (by omega) hby).mpr z)), Bool.and_false]; rfl), rfl⟩
        · refine v_iload C dX10_isOn_107 rfl ?_
          refine v_iload C dX10_isOn_109 rfl ?_
          refine v_iload_n C dX10_isOn_111 rfl ?_
          refine v_callS (As := [.int (nI w)]) (rest := [.int (Int32.ofInt (fr2 (xI (m t) c) (yI (m t) c))), .int (Int32.ofInt (yI (m t) c))]) C (c_X10_southOf (xl X) (xg X) w (by omega) M) pm_X10_southOf wT_X10_southOf wM_X10_116 ⟨by decide, by decide⟩ ⟨by decide, by decide⟩ (nle rfl) dX10_isOn_112 rfl (dt1 ?_)
          show V X (rmD 1 0 0) M 0 0 [(6, .int (Int32.ofInt (fr2 (xI (m t) c) (yI (m t) c)))), (0, .ref md), (1, .int (nI t)), (2, .int (nI w)), (3, .int (nI c)), (4, .int (Int32.ofInt (xI (m t) c))), (5, .int (Int32.ofInt (yI (m t) c)))] 115 [.int (Int32.ofInt (dy8 w)), .int (Int32.ofInt (fr2 (xI (m t) c) (yI (m t) c))), .int (Int32.ofInt (yI (m t) c))]
          refine v_imul C dX10_isOn_115 ?_
          rw [← Int32.ofInt_mul]
          show V X (rmD 1 0 0) M 0 0 [(6, .int (Int32.ofInt (fr2 (xI (m t) c) (yI (m t) c)))), (0, .ref md), (1, .int (nI t)), (2, .int (nI w)), (3, .int (nI c)), (4, .int (Int32.ofInt (xI (m t) c))), (5, .int (Int32.ofInt (yI (m t) c)))] 116 [.int (Int32.ofInt (fr2 (xI (m t) c) (yI (m t) c) * dy8 w)), .int (Int32.ofInt (yI (m t) c))]
          refine v_icmp_ne (tgt := 123) C dX10_isOn_116 (by decide) (fun h116 => ?_) (fun h116 => ?_)
          · refine v_iconst C dX10_isOn_123 (v := 0) rfl ?_
            exact v_zret C E dX10_isOn_124 (nle rfl) (nle rfl) (by decide) ⟨by rw [on_far (okT_ t lt) hw hc, h92]; first | rfl | (rw [decide_eq_false (fun z => h104 ((oi_eq (by omega) hbx).mpr z)), Bool.and_false]; rfl) | (rw [decide_eq_false (p := yI (m t) c = fr2 (xI (m t) c) (yI (m t) c) * dy8 w) (fun z => h116 ((oi_eq (by omega) hby).mpr z)), Bool.and_false]; rfl), rfl⟩
          · refine v_iconst C dX10_isOn_119 (v := 1) rfl ?_
            refine v_goto (tgt := 124) C dX10_isOn_120 (by decide) ?_
            exact v_zret C E dX10_isOn_124 (nle rfl) (nle rfl) (by decide) ⟨by rw [on_far (okT_ t lt) hw hc, h92, decide_eq_true ((oi_eq (by omega) hbx).mp h104), decide_eq_true ((oi_eq (by omega) hby).mp h116)]; rfl, rfl⟩
    refine v_iload C dX10_isOn_49 rfl ?_
    refine v_iload C dX10_isOn_51 rfl ?_
    refine v_icmp_le (tgt := 61) C dX10_isOn_53 (by decide) (fun h53 => ?_) (fun h53 => ?_)
    · refine v_iload C dX10_isOn_61 rfl ?_
      refine v_ineg C dX10_isOn_63 ?_
      rw [← Int32.ofInt_neg]
      show V X (rmD 1 0 0) M 0 0 [(6, .int (Int32.ofInt (fr1 (xI (m t) c)))), (0, .ref md), (1, .int (nI t)), (2, .int (nI w)), (3, .int (nI c)), (4, .int (Int32.ofInt (xI (m t) c))), (5, .int (Int32.ofInt (yI (m t) c)))] 64 [.int (Int32.ofInt (-(yI (m t) c)))]
      refine v_iload C dX10_isOn_64 rfl ?_
      refine v_icmp_le (tgt := 75) C dX10_isOn_66 (by decide) (fun h66 => ?_) (fun h66 => ?_)
      · refine v_iload C dX10_isOn_75 rfl ?_
        refine v_sub (lv' := [(0, .ref md), (1, .int (nI t)), (2, .int (nI w)), (3, .int (nI c)), (4, .int (Int32.ofInt (xI (m t) c))), (5, .int (Int32.ofInt (yI (m t) c))), (6, .int (Int32.ofInt (fr1 (xI (m t) c))))]) [1, 2, 3, 4, 5, 6, 0] rfl ?_
        have e77 := j77
        rw [show fr2 (xI (m t) c) (yI (m t) c) = fr1 (xI (m t) c) from (if_neg (fun z => absurd ((oi_le (by omega) (by omega)).mp h53) (by omega))).trans (if_neg (fun z => absurd ((oi_le (by omega) (by omega)).mp h66) (by omega)))] at e77
        exact e77
      · refine v_iload C dX10_isOn_69 rfl ?_
        refine v_ineg C dX10_isOn_71 ?_
        rw [← Int32.ofInt_neg]
        show V X (rmD 1 0 0) M 0 0 [(6, .int (Int32.ofInt (fr1 (xI (m t) c)))), (0, .ref md), (1, .int (nI t)), (2, .int (nI w)), (3, .int (nI c)), (4, .int (Int32.ofInt (xI (m t) c))), (5, .int (Int32.ofInt (yI (m t) c)))] 72 [.int (Int32.ofInt (-(yI (m t) c)))]
        refine v_goto (tgt := 77) C dX10_isOn_72 (by decide) ?_
        refine v_sub (lv' := [(0, .ref md), (1, .int (nI t)), (2, .int (nI w)), (3, .int (nI c)), (4, .int (Int32.ofInt (xI (m t) c))), (5, .int (Int32.ofInt (yI (m t) c))), (6, .int (Int32.ofInt (fr1 (xI (m t) c))))]) [1, 2, 3, 4, 5, 6, 0] rfl ?_
        have e77 := j77
        rw [show fr2 (xI (m t) c) (yI (m t) c) = -(yI (m t) c) from (if_neg (fun z => absurd ((oi_le (by omega) (by omega)).mp h53) (by omega))).trans (if_pos (Int.not_le.mp (fun z => h66 ((oi_le (by omega) (by omega)).mpr z))))] at e77
        exact e77
    · refine v_iload C dX10_isOn_56 rfl ?_
      refine v_goto (tgt := 77) C dX10_isOn_58 (by decide) ?_
      refine v_sub (lv' := [(0, .ref md), (1, .int (nI t)), (2, .int (nI w)), (3, .int (nI c)), (4, .int (Int32.ofInt (xI (m t) c))), (5, .int (Int32.ofInt (yI (m t) c))), (6, .int (Int32.ofInt (fr1 (xI (m t) c))))]) [1, 2, 3, 4, 5, 6, 0] rfl ?_
      have e77 := j77
      rw [show fr2 (xI (m t) c) (yI (m t) c) = yI (m t) c from if_pos (Int.not_le.mp (fun z => h53 ((oi_le (by omega) (by omega)).mpr z)))] at e77
      exact e77
  refine v_iload C dX10_isOn_34 rfl ?_
  refine v_if_ge (tgt := 45) C dX10_isOn_36 (by decide) (fun h36 => ?_) (fun h36 => ?_)
  · refine v_iload C dX10_isOn_45 rfl ?_
    refine v_sub (lv' := [(0, .ref md), (1, .int (nI t)), (2, .int (nI w)), (3, .int (nI c)), (4, .int (Int32.ofInt (xI (m t) c))), (5, .int (Int32.ofInt (yI (m t) c)))]) [2, 3, 4, 5, 1, 0] rfl ?_
    have e47 := j47
    rw [show fr1 (xI (m t) c) = xI (m t) c from if_pos ((oi_le (a := 0) (by omega) (by omega)).mp h36)] at e47
    exact e47
  · refine v_iload C dX10_isOn_39 rfl ?_
    refine v_ineg C dX10_isOn_41 ?_
    rw [← Int32.ofInt_neg]
    show V X (rmD 1 0 0) M 0 0 [(5, .int (Int32.ofInt (yI (m t) c))), (4, .int (Int32.ofInt (xI (m t) c))), (0, .ref md), (1, .int (nI t)), (2, .int (nI w)), (3, .int (nI c))] 42 [.int (Int32.ofInt (-(xI (m t) c)))]
    refine v_goto (tgt := 47) C dX10_isOn_42 (by decide) ?_
    refine v_sub (lv' := [(0, .ref md), (1, .int (nI t)), (2, .int (nI w)), (3, .int (nI c)), (4, .int (Int32.ofInt (xI (m t) c))), (5, .int (Int32.ofInt (yI (m t) c)))]) [2, 3, 4, 5, 1, 0] rfl ?_
    have e47 := j47
    rw [show fr1 (xI (m t) c) = -(xI (m t) c) from if_neg (fun z => h36 ((oi_le (a := 0) (by omega) (by omega)).mpr z))] at e47
    exact e47


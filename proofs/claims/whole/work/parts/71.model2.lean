/-! The model: covers, showsOf. -/
set_option maxHeartbeats 4000000 in
set_option maxRecDepth 100000 in
theorem c_X10_covers (l : Launch) (g : Gm) (M : Mem) (md : Nat) (t1 t2 t3 t4 t5 t6 t7 t8 : Nat) (fT fD fP fC fS fU fX fF : Nat → Int32) (mo : Int32) (nT : Nat) (m : Nat → Nat → Nat) (dB : Nat → Nat → Bool) (nP : Nat) (pf : Nat → Nat → Nat) (cB : Nat → Nat → Bool) (nS : Nat) (sg : Nat → Int32) (ln : Nat → Nat) (tx : Nat → Nat → Int32) (fl : Nat → Nat → Nat) (hM : ModA g M md t1 t2 t3 t4 t5 t6 t7 t8 fT fD fP fC fS fU fX fF mo nT m dB nP pf cB nS sg ln tx fl) (p c : Nat) (lt : p < nP) (hc : c < 96) : Ct l g yX10_covers cX10_covers 3 (some .boolean) 1 0 0 [.ref md, .int (nI p), .int (nI c)] M (fun v N => v = some (.int (bI (covN (pf p) (cB p) c))) ∧ N = M) := by
  refine Ct.of (by decide) (Nat.le_of_ble_eq_true rfl) ?_
  intro X hXl hXg hN C E
  subst hXl; subst hXg
  show V X (rmD 1 0 0) M 0 0 [(0, .ref md), (1, .int (nI p)), (2, .int (nI c))] 0 []
  obtain ⟨hO, h1_, h2_, h3_, h4_, h5_, h6_, h7_, h8_, bT, bP, bS, okT_, cT, cD, okP_, cP, cC, cS, cU, bU_, cX, okX, okF_, cF⟩ := id hM
  refine v_iload_n C dX10_covers_0 rfl ?_
  refine v_bipush C dX10_covers_1 (v := 12) rfl ?_
  refine v_irem C dX10_covers_3 (by decide) ?_
  rw [cell_mod (c := c) (by omega)]
  show V X (rmD 1 0 0) M 0 0 [(0, .ref md), (1, .int (nI p)), (2, .int (nI c))] 4 [.int (nI (c % 12))]
  refine v_aload_n C dX10_covers_4 rfl ?_
  refine v_get C kX10 hO 4 (by decide) wF_X10_17 rfl dX10_covers_5 ?_
  refine v_iconst C dX10_covers_8 (v := 5) rfl ?_
  refine v_iload_n C dX10_covers_9 rfl ?_
  refine v_imul C dX10_covers_10 ?_
  rw [show (5 * (nI p) : Int32) = nI (5 * p) from ix_mu rfl rfl]
  refine v_iald C h3_ (vp_in_nI (by omega) (by decide)) dX10_covers_11 ?_
  rw [show fP (nI (5 * p) : Int32).toNatClampNeg = nI (pf p 0) from by rw [nI_clamp (by omega)]; exact cP p lt 0 (by omega)]
  refine v_aload_n C dX10_covers_12 rfl ?_
  refine v_get C kX10 hO 4 (by decide) wF_X10_17 rfl dX10_covers_13 ?_
  refine v_iconst C dX10_covers_16 (v := 5) rfl ?_
  refine v_iload_n C dX10_covers_17 rfl ?_
  refine v_imul C dX10_covers_18 ?_
  refine v_iconst C dX10_covers_19 (v := 1) rfl ?_
  refine v_iadd C dX10_covers_20 ?_
  rw [show ((5 * (nI p)) + 1 : Int32) = nI (5 * p + 1) from ix_ad (ix_mu rfl rfl) rfl]
  refine v_iald C h3_ (vp_in_nI (by omega) (by decide)) dX10_covers_21 ?_
  rw [show fP (nI (5 * p + 1) : Int32).toNatClampNeg = nI (pf p 1) from by rw [nI_clamp (by omega)]; exact cP p lt 1 (by omega)]
  refine v_callS (As := [.int (nI (c % 12)), .int (nI (pf p 0)), .int (nI (pf p 1))]) (rest := []) C (c_X10_in (xl X) (xg X) (nI (c % 12)) (nI (pf p 0)) (nI (pf p 1)) M) pm_X10_in wT_X10_in wM_X10_35 ⟨by decide, by decide⟩ ⟨by decide, by decide⟩ (nle rfl) dX10_covers_22 rfl (dt1 ?_)
  show V X (rmD 1 0 0) M 0 0 [(0, .ref md), (1, .int (nI p)), (2, .int (nI c))] 25 [.int (bI (qin (nI (c % 12)) (nI (pf p 0)) (nI (pf p 1))))]
  rw [qin_N (by omega) (by have := okP_ p lt; unfold okP at this; omega) (by have := okP_ p lt; unfold okP at this; omega)]
  show V X (rmD 1 0 0) M 0 0 [(0, .ref md), (1, .int (nI p)), (2, .int (nI c))] 25 [.int (bI (decide (pf p 0 ≤ c % 12) && decide (c % 12 ≤ pf p 1)))]
  refine v_ifb_eq (tgt := 46) C dX10_covers_25 (by decide) (fun h25 => ?_) (fun h25 => ?_)
  · refine v_iconst C dX10_covers_46 (v := 0) rfl ?_
    exact v_zret C E dX10_covers_47 (nle rfl) (nle rfl) (by decide) ⟨by rw [show covN (pf p) (cB p) c = false from by unfold covN; first | (rw [h25]; rfl) | (rw [h25, h39]; rfl)]; rfl, rfl⟩
  · refine v_aload_n C dX10_covers_28 rfl ?_
    refine v_get C kX10 hO 5 (by decide) wF_X10_20 rfl dX10_covers_29 ?_
    refine v_bipush C dX10_covers_32 (v := 96) rfl ?_
    refine v_iload_n C dX10_covers_34 rfl ?_
    refine v_imul C dX10_covers_35 ?_
    refine v_iload_n C dX10_covers_36 rfl ?_
    refine v_iadd C dX10_covers_37 ?_
    rw [show ((96 * (nI p)) + (nI c) : Int32) = nI (96 * p + c) from ix_ad (ix_mu rfl rfl) rfl]
    refine v_zald C h4_ (vp_in_nI (by omega) (by decide)) dX10_covers_38 ?_
    rw [show fC (nI (96 * p + c) : Int32).toNatClampNeg = bI (cB p c) from by rw [nI_clamp (by omega)]; exact (cC p (by omega) c (by omega)).trans (by rw [if_pos lt])]
    refine v_ifb_ne (tgt := 46) C dX10_covers_39 (by decide) (fun h39 => ?_) (fun h39 => ?_)
    · refine v_iconst C dX10_covers_46 (v := 0) rfl ?_
      exact v_zret C E dX10_covers_47 (nle rfl) (nle rfl) (by decide) ⟨by rw [show covN (pf p) (cB p) c = false from by unfold covN; first | (rw [h25]; rfl) | (rw [h25, h39]; rfl)]; rfl, rfl⟩
    · refine v_iconst C dX10_covers_42 (v := 1) rfl ?_
      refine v_goto (tgt := 47) C dX10_covers_43 (by decide) ?_
      exact v_zret C E dX10_covers_47 (nle rfl) (nle rfl) (by decide) ⟨by rw [show covN (pf p) (cB p) c = true from by unfold covN; rw [h25, h39]; rfl]; rfl, rfl⟩

theorem px_N (s c k : Nat) : nI (c % 12) + nI k * Int32.ofInt (dxI s) = Int32.ofInt (px s c k) := by
  rw [nI_ofInt, nI_ofInt, ← Int32.ofInt_mul, ← Int32.ofInt_add]
  rfl
theorem py_N (s c k : Nat) : nI (c / 12) + nI k * Int32.ofInt (dyI s) = Int32.ofInt (py s c k) := by
  rw [nI_ofInt, nI_ofInt, ← Int32.ofInt_mul, ← Int32.ofInt_add]
  rfl
theorem anyB_s (p : Nat → Bool) (n : Nat) : anyB p (n + 1) = (anyB p n || p n) := rfl
set_option maxHeartbeats 4000000 in
set_option maxRecDepth 100000 in
theorem c_X10_showsOf (l : Launch) (g : Gm) (M : Mem) (md : Nat) (t1 t2 t3 t4 t5 t6 t7 t8 : Nat) (fT fD fP fC fS fU fX fF : Nat → Int32) (mo : Int32) (nT : Nat) (m : Nat → Nat → Nat) (dB : Nat → Nat → Bool) (nP : Nat) (pf : Nat → Nat → Nat) (cB : Nat → Nat → Bool) (nS : Nat) (sg : Nat → Int32) (ln : Nat → Nat) (tx : Nat → Nat → Int32) (fl : Nat → Nat → Nat) (hM : ModA g M md t1 t2 t3 t4 t5 t6 t7 t8 fT fD fP fC fS fU fX fF mo nT m dB nP pf cB nS sg ln tx fl) (p c : Nat) (lt : p < nP) (hc : c < 96) : Ct l g yX10_showsOf cX10_showsOf 15 (some .int) 3 0 0 [.ref md, .int (nI p), .int (nI c)] M (fun v N => v = some (.int (seeI m nT (pf p) (cB p) c)) ∧ N = M) := by
  refine Ct.of (by decide) (Nat.le_of_ble_eq_true rfl) ?_
  intro X hXl hXg hN C E
  subst hXl; subst hXg
  show V X (rmD 3 0 0) M 0 0 [(0, .ref md), (1, .int (nI p)), (2, .int (nI c))] 0 []
  obtain ⟨hO, h1_, h2_, h3_, h4_, h5_, h6_, h7_, h8_, bT, bP, bS, okT_, cT, cD, okP_, cP, cC, cS, cU, bU_, cX, okX, okF_, cF⟩ := id hM
  have e9 := okP_ p lt
  unfold okP at e9
  refine v_aload_n C dX10_showsOf_0 rfl ?_
  refine v_iload_n C dX10_showsOf_1 rfl ?_
  refine v_iload_n C dX10_showsOf_2 rfl ?_
  refine v_callV (As := [.int (nI p), .int (nI c)]) (rest := []) (b := md) C (c_X10_covers (xl X) (xg X) M md t1 t2 t3 t4 t5 t6 t7 t8 fT fD fP fC fS fU fX fF mo nT m dB nP pf cB nS sg ln tx fl hM p c (by omega) (by omega)) pm_X10_covers wI_X10_covers wS_X10_covers wM_X10_70 kX10 hO ⟨by decide, by decide⟩ ⟨by decide, by decide⟩ (nle rfl) dX10_showsOf_3 rfl (dt1 ?_)
  show V X (rmD 3 0 0) M 0 0 [(0, .ref md), (1, .int (nI p)), (2, .int (nI c))] 6 [.int (bI (covN (pf p) (cB p) c))]
  refine v_ifb_ne (tgt := 12) C dX10_showsOf_6 (by decide) (fun h6 => ?_) (fun h6 => ?_)
  · refine v_aload_n C dX10_showsOf_12 rfl ?_
    refine v_get C kX10 hO 4 (by decide) wF_X10_17 rfl dX10_showsOf_13 ?_
    refine v_iconst C dX10_showsOf_16 (v := 5) rfl ?_
    refine v_iload_n C dX10_showsOf_17 rfl ?_
    refine v_imul C dX10_showsOf_18 ?_
    refine v_iconst C dX10_showsOf_19 (v := 2) rfl ?_
    refine v_iadd C dX10_showsOf_20 ?_
    rw [show ((5 * (nI p)) + 2 : Int32) = nI (5 * p + 2) from ix_ad (ix_mu rfl rfl) rfl]
    refine v_iald C h3_ (vp_in_nI (by omega) (by decide)) dX10_showsOf_21 ?_
    rw [show fP (nI (5 * p + 2) : Int32).toNatClampNeg = nI (pf p 2) from by rw [nI_clamp (by omega)]; exact cP p lt 2 (by omega)]
    refine v_istore_n (lv' := [(3, .int (nI (pf p 2))), (0, .ref md), (1, .int (nI p)), (2, .int (nI c))]) C dX10_showsOf_22 hN (by decide) rfl ?_
    refine v_aload_n C dX10_showsOf_23 rfl ?_
    refine v_get C kX10 hO 4 (by decide) wF_X10_17 rfl dX10_showsOf_24 ?_
    refine v_iconst C dX10_showsOf_27 (v := 5) rfl ?_
    refine v_iload_n C dX10_showsOf_28 rfl ?_
    refine v_imul C dX10_showsOf_29 ?_
    refine v_iconst C dX10_showsOf_30 (v := 3) rfl ?_
    refine v_iadd C dX10_showsOf_31 ?_
    rw [show ((5 * (nI p)) + 3 : Int32) = nI (5 * p + 3) from ix_ad (ix_mu rfl rfl) rfl]
    refine v_iald C h3_ (vp_in_nI (by omega) (by decide)) dX10_showsOf_32 ?_
    rw [show fP (nI (5 * p + 3) : Int32).toNatClampNeg = nI (pf p 3) from by rw [nI_clamp (by omega)]; exact cP p lt 3 (by omega)]
    refine v_istore (lv' := [(4, .int (nI (pf p 3))), (3, .int (nI (pf p 2))), (0, .ref md), (1, .int (nI p)), (2, .int (nI c))]) C dX10_showsOf_33 hN (by decide) rfl ?_
    refine v_aload_n C dX10_showsOf_35 rfl ?_
    refine v_get C kX10 hO 4 (by decide) wF_X10_17 rfl dX10_showsOf_36 ?_
    refine v_iconst C dX10_showsOf_39 (v := 5) rfl ?_
    refine v_iload_n C dX10_showsOf_40 rfl ?_
    refine v_imul C dX10_showsOf_41 ?_
    refine v_iconst C dX10_showsOf_42 (v := 4) rfl ?_
    refine v_iadd C dX10_showsOf_43 ?_
    rw [show ((5 * (nI p)) + 4 : Int32) = nI (5 * p + 4) from ix_ad (ix_mu rfl rfl) rfl]
    refine v_iald C h3_ (vp_in_nI (by omega) (by decide)) dX10_showsOf_44 ?_
    rw [show fP (nI (5 * p + 4) : Int32).toNatClampNeg = nI (pf p 4) from by rw [nI_clamp (by omega)]; exact cP p lt 4 (by omega)]
    refine v_istore (lv' := [(5, .int (nI (pf p 4))), (4, .int (nI (pf p 3))), (3, .int (nI (pf p 2))), (0, .ref md), (1, .int (nI p)), (2, .int (nI c))]) C dX10_showsOf_45 hN (by decide) rfl ?_
    refine v_iload_n C dX10_showsOf_47 rfl ?_
    refine v_bipush C dX10_showsOf_48 (v := 12) rfl ?_
    refine v_irem C dX10_showsOf_50 (by decide) ?_
    rw [cell_mod (c := c) (by omega)]
    show V X (rmD 3 0 0) M 0 0 [(5, .int (nI (pf p 4))), (4, .int (nI (pf p 3))), (3, .int (nI (pf p 2))), (0, .ref md), (1, .int (nI p)), (2, .int (nI c))] 51 [.int (nI (c % 12))]
    refine v_istore (lv' := [(6, .int (nI (c % 12))), (5, .int (nI (pf p 4))), (4, .int (nI (pf p 3))), (3, .int (nI (pf p 2))), (0, .ref md), (1, .int (nI p)), (2, .int (nI c))]) C dX10_showsOf_51 hN (by decide) rfl ?_
    refine v_iload_n C dX10_showsOf_53 rfl ?_
    refine v_bipush C dX10_showsOf_54 (v := 12) rfl ?_
    refine v_idiv C dX10_showsOf_56 (by decide) ?_
    rw [cell_div (c := c) (by omega)]
    show V X (rmD 3 0 0) M 0 0 [(6, .int (nI (c % 12))), (5, .int (nI (pf p 4))), (4, .int (nI (pf p 3))), (3, .int (nI (pf p 2))), (0, .ref md), (1, .int (nI p)), (2, .int (nI c))] 57 [.int (nI (c / 12))]
    refine v_istore (lv' := [(7, .int (nI (c / 12))), (6, .int (nI (c % 12))), (5, .int (nI (pf p 4))), (4, .int (nI (pf p 3))), (3, .int (nI (pf p 2))), (0, .ref md), (1, .int (nI p)), (2, .int (nI c))]) C dX10_showsOf_57 hN (by decide) rfl ?_
    have j155 : (lookN m nT (pf p) c = (if shade m nT (pf p) c then 1 else 0)) → V X (rmD 3 0 0) M 0 0 [(0, .ref md), (1, .int (nI p)), (2, .int (nI c)), (3, .int (nI (pf p 2))), (4, .int (nI (pf p 3))), (5, .int (nI (pf p 4))), (6, .int (nI (c % 12))), (7, .int (nI (c / 12))), (9, .int (Int32.ofInt (dxI (opp (pf p 3))))), (10, .int (Int32.ofInt (dyI (opp (pf p 3))))), (11, .int 1)] 155 [] := by
      intro hlk
      have lp155 : ∀ (mm : Nat) (j : Nat) (h1 : j ≤ 11) (h2 : anyB (fun s => shS m nT (pf p) c (s + 1)) j = false), 11 - j < mm → V X (rmD 3 0 0) M 0 0 [(0, .ref md), (1, .int (nI p)), (2, .int (nI c)), (3, .int (nI (pf p 2))), (4, .int (nI (pf p 3))), (5, .int (nI (pf p 4))), (6, .int (nI (c % 12))), (7, .int (nI (c / 12))), (9, .int (Int32.ofInt (dxI (opp (pf p 3))))), (10, .int (Int32.ofInt (dyI (opp (pf p 3))))), (11, .int (nI (j + 1)))] 155 [] := by
        intro mm
        induction mm with
        | zero => intro j h1 h2 hmu; exact absurd hmu (Nat.not_lt_zero _)
        | succ mm ih155 =>
          intro j h1 h2 hmu
          refine v_iload C dX10_showsOf_155 rfl ?_
          refine v_bipush C dX10_showsOf_157 (v := 12) rfl ?_
          refine v_icmp_ge (tgt := 256) C dX10_showsOf_159 (by decide) (fun h159 => ?_) (fun h159 => ?_)
          · refine v_iconst C dX10_showsOf_256 (v := 0) rfl ?_
            exact v_iret C E dX10_showsOf_257 (nle rfl) (nle rfl) ⟨by rw [seeI, h6, if_pos rfl, hlk, show shade m nT (pf p) c = false from by have g159 := nI_leN (a := 12) (by decide) (by omega) h159; rw [show j = 11 by omega] at h2; exact h2]; rfl, rfl⟩
          · have g159 := nI_nleN (a := 12) (by decide) (by omega) h159
            refine v_iload C dX10_showsOf_162 rfl ?_
            refine v_iload C dX10_showsOf_164 rfl ?_
            refine v_iload C dX10_showsOf_166 rfl ?_
            refine v_imul C dX10_showsOf_168 ?_
            refine v_iadd C dX10_showsOf_169 ?_
            rw [px_N]
            show V X (rmD 3 0 0) M 0 0 [(0, .ref md), (1, .int (nI p)), (2, .int (nI c)), (3, .int (nI (pf p 2))), (4, .int (nI (pf p 3))), (5, .int (nI (pf p 4))), (6, .int (nI (c % 12))), (7, .int (nI (c / 12))), (9, .int (Int32.ofInt (dxI (opp (pf p 3))))), (10, .int (Int32.ofInt (dyI (opp (pf p 3))))), (11, .int (nI (j + 1)))] 170 [.int (Int32.ofInt (px (opp (pf p 3)) c (j + 1)))]
            refine v_istore (lv' := [(12, .int (Int32.ofInt (px (opp (pf p 3)) c (j + 1)))), (0, .ref md), (1, .int (nI p)), (2, .int (nI c)), (3, .int (nI (pf p 2))), (4, .int (nI (pf p 3))), (5, .int (nI (pf p 4))), (6, .int (nI (c % 12))), (7, .int (nI (c / 12))), (9, .int (Int32.ofInt (dxI (opp (pf p 3))))), (10, .int (Int32.ofInt (dyI (opp (pf p 3))))), (11, .int (nI (j + 1)))]) C dX10_showsOf_170 hN (by decide) rfl ?_
            refine v_iload C dX10_showsOf_172 rfl ?_
            refine v_iload C dX10_showsOf_174 rfl ?_
            refine v_iload C dX10_showsOf_176 rfl ?_
            refine v_imul C dX10_showsOf_178 ?_
            refine v_iadd C dX10_showsOf_179 ?_
            rw [py_N]
            show V X (rmD 3 0 0) M 0 0 [(12, .int (Int32.ofInt (px (opp (pf p 3)) c (j + 1)))), (0, .ref md), (1, .int (nI p)), (2, .int (nI c)), (3, .int (nI (pf p 2))), (4, .int (nI (pf p 3))), (5, .int (nI (pf p 4))), (6, .int (nI (c % 12))), (7, .int (nI (c / 12))), (9, .int (Int32.ofInt (dxI (opp (pf p 3))))), (10, .int (Int32.ofInt (dyI (opp (pf p 3))))), (11, .int (nI (j + 1)))] 180 [.int (Int32.ofInt (py (opp (pf p 3)) c (j + 1)))]
            refine v_istore (lv' := [(13, .int (Int32.ofInt (py (opp (pf p 3)) c (j + 1)))), (12, .int (Int32.ofInt (px (opp (pf p 3)) c (j + 1)))), (0, .ref md), (1, .int (nI p)), (2, .int (nI c)), (3, .int (nI (pf p 2))), (4, .int (nI (pf p 3))), (5, .int (nI (pf p 4))), (6, .int (nI (c % 12))), (7, .int (nI (c / 12))), (9, .int (Int32.ofInt (dxI (opp (pf p 3))))), (10, .int (Int32.ofInt (dyI (opp (pf p 3))))), (11, .int (nI (j + 1)))]) C dX10_showsOf_180 hN (by decide) rfl ?_
            refine v_iload C dX10_showsOf_182 rfl ?_
            refine v_iconst C dX10_showsOf_184 (v := 0) rfl ?_
            refine v_bipush C dX10_showsOf_185 (v := 11) rfl ?_
            refine v_callS (As := [.int (Int32.ofInt (px (opp (pf p 3)) c (j + 1))), .int 0, .int 11]) (rest := []) C (c_X10_in (xl X) (xg X) (Int32.ofInt (px (opp (pf p 3)) c (j + 1))) 0 11 M) pm_X10_in wT_X10_in wM_X10_35 ⟨by decide, by decide⟩ ⟨by decide, by decide⟩ (nle rfl) dX10_showsOf_187 rfl (dt1 ?_)
            show V X (rmD 3 0 0) M 0 0 [(13, .int (Int32.ofInt (py (opp (pf p 3)) c (j + 1)))), (12, .int (Int32.ofInt (px (opp (pf p 3)) c (j + 1)))), (0, .ref md), (1, .int (nI p)), (2, .int (nI c)), (3, .int (nI (pf p 2))), (4, .int (nI (pf p 3))), (5, .int (nI (pf p 4))), (6, .int (nI (c % 12))), (7, .int (nI (c / 12))), (9, .int (Int32.ofInt (dxI (opp (pf p 3))))), (10, .int (Int32.ofInt (dyI (opp (pf p 3))))), (11, .int (nI (j + 1)))] 190 [.int (bI (qin (Int32.ofInt (px (opp (pf p 3)) c (j + 1))) 0 11))]
            refine v_ifb_eq (tgt := 216) C dX10_showsOf_190 (by decide) (fun h190 => ?_) (fun h190 => ?_)
            · refine v_bipush C dX10_showsOf_216 (v := (-6)) rfl ?_
              have hoff : (qin (Int32.ofInt (px (opp (pf p 3)) c (j + 1))) 0 11 && qin (Int32.ofInt (py (opp (pf p 3)) c (j + 1))) 0 7) = false := by first | (rw [h190]; rfl) | (rw [h190, h201]; rfl)
              refine v_istore (lv' := [(14, .int ((-6))), (13, .int (Int32.ofInt (py (opp (pf p 3)) c (j + 1)))), (12, .int (Int32.ofInt (px (opp (pf p 3)) c (j + 1)))), (0, .ref md), (1, .int (nI p)), (2, .int (nI c)), (3, .int (nI (pf p 2))), (4, .int (nI (pf p 3))), (5, .int (nI (pf p 4))), (6, .int (nI (c % 12))), (7, .int (nI (c / 12))), (9, .int (Int32.ofInt (dxI (opp (pf p 3))))), (10, .int (Int32.ofInt (dyI (opp (pf p 3))))), (11, .int (nI (j + 1)))]) C dX10_showsOf_218 hN (by decide) rfl ?_
              refine v_iload C dX10_showsOf_220 rfl ?_
              refine v_if_lt (tgt := 250) C dX10_showsOf_222 (by decide) (fun h222 => ?_) (fun hbad => absurd hbad (by decide))
              refine v_iinc (lv' := [(11, .int (nI ((j + 1) + 1))), (14, .int ((-6))), (13, .int (Int32.ofInt (py (opp (pf p 3)) c (j + 1)))), (12, .int (Int32.ofInt (px (opp (pf p 3)) c (j + 1)))), (0, .ref md), (1, .int (nI p)), (2, .int (nI c)), (3, .int (nI (pf p 2))), (4, .int (nI (pf p 3))), (5, .int (nI (pf p 4))), (6, .int (nI (c % 12))), (7, .int (nI (c / 12))), (9, .int (Int32.ofInt (dxI (opp (pf p 3))))), (10, .int (Int32.ofInt (dyI (opp (pf p 3)))))]) C dX10_showsOf_250 13 rfl (nI_1 _) hN (by decide) rfl ?_
              refine v_goto (tgt := 155) C dX10_showsOf_253 (by decide) ?_
              refine v_sub (lv' := [(0, .ref md), (1, .int (nI p)), (2, .int (nI c)), (3, .int (nI (pf p 2))), (4, .int (nI (pf p 3))), (5, .int (nI (pf p 4))), (6, .int (nI (c % 12))), (7, .int (nI (c / 12))), (9, .int (Int32.ofInt (dxI (opp (pf p 3))))), (10, .int (Int32.ofInt (dyI (opp (pf p 3))))), (11, .int (nI ((j + 1) + 1)))]) [4, 5, 6, 7, 8, 9, 10, 11, 12, 13, 0] rfl ?_
              exact ih155 (j + 1) (by omega) (by rw [anyB_s, h2, show shS m nT (pf p) c (j + 1) = false from by unfold shS; rw [mv_off (by omega) (by omega) hoff]]; rfl) (by omega)
            · refine v_iload C dX10_showsOf_193 rfl ?_
              refine v_iconst C dX10_showsOf_195 (v := 0) rfl ?_
              refine v_bipush C dX10_showsOf_196 (v := 7) rfl ?_
              refine v_callS (As := [.int (Int32.ofInt (py (opp (pf p 3)) c (j + 1))), .int 0, .int 7]) (rest := []) C (c_X10_in (xl X) (xg X) (Int32.ofInt (py (opp (pf p 3)) c (j + 1))) 0 7 M) pm_X10_in wT_X10_in wM_X10_35 ⟨by decide, by decide⟩ ⟨by decide, by decide⟩ (nle rfl) dX10_showsOf_198 rfl (dt1 ?_)
              show V X (rmD 3 0 0) M 0 0 [(13, .int (Int32.ofInt (py (opp (pf p 3)) c (j + 1)))), (12, .int (Int32.ofInt (px (opp (pf p 3)) c (j + 1)))), (0, .ref md), (1, .int (nI p)), (2, .int (nI c)), (3, .int (nI (pf p 2))), (4, .int (nI (pf p 3))), (5, .int (nI (pf p 4))), (6, .int (nI (c % 12))), (7, .int (nI (c / 12))), (9, .int (Int32.ofInt (dxI (opp (pf p 3))))), (10, .int (Int32.ofInt (dyI (opp (pf p 3))))), (11, .int (nI (j + 1)))] 201 [.int (bI (qin (Int32.ofInt (py (opp (pf p 3)) c (j + 1))) 0 7))]
              refine v_ifb_eq (tgt := 216) C dX10_showsOf_201 (by decide) (fun h201 => ?_) (fun h201 => ?_)
              · refine v_bipush C dX10_showsOf_216 (v := (-6)) rfl ?_
                have hoff : (qin (Int32.ofInt (px (opp (pf p 3)) c (j + 1))) 0 11 && qin (Int32.ofInt (py (opp (pf p 3)) c (j + 1))) 0 7) = false := by first | (rw [h190]; rfl) | (rw [h190, h201]; rfl)
                refine v_istore (lv' := [(14, .int ((-6))), (13, .int (Int32.ofInt (py (opp (pf p 3)) c (j + 1)))), (12, .int (Int32.ofInt (px (opp (pf p 3)) c (j + 1)))), (0, .ref md), (1, .int (nI p)), (2, .int (nI c)), (3, .int (nI (pf p 2))), (4, .int (nI (pf p 3))), (5, .int (nI (pf p 4))), (6, .int (nI (c % 12))), (7, .int (nI (c / 12))), (9, .int (Int32.ofInt (dxI (opp (pf p 3))))), (10, .int (Int32.ofInt (dyI (opp (pf p 3))))), (11, .int (nI (j + 1)))]) C dX10_showsOf_218 hN (by decide) rfl ?_
                refine v_iload C dX10_showsOf_220 rfl ?_
                refine v_if_lt (tgt := 250) C dX10_showsOf_222 (by decide) (fun h222 => ?_) (fun hbad => absurd hbad (by decide))
                refine v_iinc (lv' := [(11, .int (nI ((j + 1) + 1))), (14, .int ((-6))), (13, .int (Int32.ofInt (py (opp (pf p 3)) c (j + 1)))), (12, .int (Int32.ofInt (px (opp (pf p 3)) c (j + 1)))), (0, .ref md), (1, .int (nI p)), (2, .int (nI c)), (3, .int (nI (pf p 2))), (4, .int (nI (pf p 3))), (5, .int (nI (pf p 4))), (6, .int (nI (c % 12))), (7, .int (nI (c / 12))), (9, .int (Int32.ofInt (dxI (opp (pf p 3))))), (10, .int (Int32.ofInt (dyI (opp (pf p 3)))))]) C dX10_showsOf_250 13 rfl (nI_1 _) hN (by decide) rfl ?_
                refine v_goto (tgt := 155) C dX10_showsOf_253 (by decide) ?_
                refine v_sub (lv' := [(0, .ref md), (1, .int (nI p)), (2, .int (nI c)), (3, .int (nI (pf p 2))), (4, .int (nI (pf p 3))), (5, .int (nI (pf p 4))), (6, .int (nI (c % 12))), (7, .int (nI (c / 12))), (9, .int (Int32.ofInt (dxI (opp (pf p 3))))), (10, .int (Int32.ofInt (dyI (opp (pf p 3))))), (11, .int (nI ((j + 1) + 1)))]) [4, 5, 6, 7, 8, 9, 10, 11, 12, 13, 0] rfl ?_
                exact ih155 (j + 1) (by omega) (by rw [anyB_s, h2, show shS m nT (pf p) c (j + 1) = false from by unfold shS; rw [mv_off (by omega) (by omega) hoff]]; rfl) (by omega)
              · obtain ⟨c2, hc2, hmv, -⟩ := mv_on (s := opp (pf p 3)) (c := c) (k := j + 1) hc (by omega) (by rw [h190, h201]; rfl)
                rw [show Int32.ofInt (px (opp (pf p 3)) c (j + 1)) = nI (c2 % 12) by rw [nI_ofInt, (mv_xy hmv).1], show Int32.ofInt (py (opp (pf p 3)) c (j + 1)) = nI (c2 / 12) by rw [nI_ofInt, (mv_xy hmv).2]]
                show V X (rmD 3 0 0) M 0 0 [(13, .int (nI (c2 / 12))), (12, .int (nI (c2 % 12))), (0, .ref md), (1, .int (nI p)), (2, .int (nI c)), (3, .int (nI (pf p 2))), (4, .int (nI (pf p 3))), (5, .int (nI (pf p 4))), (6, .int (nI (c % 12))), (7, .int (nI (c / 12))), (9, .int (Int32.ofInt (dxI (opp (pf p 3))))), (10, .int (Int32.ofInt (dyI (opp (pf p 3))))), (11, .int (nI (j + 1)))] 204 []
                refine v_aload_n C dX10_showsOf_204 rfl ?_
                refine v_iload C dX10_showsOf_205 rfl ?_
                refine v_iload C dX10_showsOf_207 rfl ?_
                refine v_iload_n C dX10_showsOf_209 rfl ?_
                refine v_callV (As := [.int (nI (c2 % 12)), .int (nI (c2 / 12)), .int (nI (pf p 2))]) (rest := []) (b := md) C (c_X10_thingAt (xl X) (xg X) M md t1 t2 t3 t4 t5 t6 t7 t8 fT fD fP fC fS fU fX fF mo nT m dB nP pf cB nS sg ln tx fl hM ((c2 % 12)) ((c2 / 12)) ((pf p 2)) (by omega) (by omega) (by omega)) pm_X10_thingAt wI_X10_thingAt wS_X10_thingAt wM_X10_63 kX10 hO ⟨by decide, by decide⟩ ⟨by decide, by decide⟩ (nle rfl) dX10_showsOf_210 rfl (dt1 ?_)
                show V X (rmD 3 0 0) M 0 0 [(13, .int (nI (c2 / 12))), (12, .int (nI (c2 % 12))), (0, .ref md), (1, .int (nI p)), (2, .int (nI c)), (3, .int (nI (pf p 2))), (4, .int (nI (pf p 3))), (5, .int (nI (pf p 4))), (6, .int (nI (c % 12))), (7, .int (nI (c / 12))), (9, .int (Int32.ofInt (dxI (opp (pf p 3))))), (10, .int (Int32.ofInt (dyI (opp (pf p 3))))), (11, .int (nI (j + 1)))] 213 [.int (oI (bst m ((c2 % 12)) ((c2 / 12)) ((pf p 2)) nT))]
                refine v_goto (tgt := 218) C dX10_showsOf_213 (by decide) ?_
                obtain ⟨o1, ho⟩ : ∃ o1, o1 = bst m (c2 % 12) (c2 / 12) (pf p 2) nT := ⟨_, rfl⟩
                rcases o1 with _ | b
                · have hb := ho.symm
                  rw [show oI (bst m (c2 % 12) (c2 / 12) (pf p 2) nT) = (-6) by rw [hb]; rfl]
                  show V X (rmD 3 0 0) M 0 0 [(13, .int (nI (c2 / 12))), (12, .int (nI (c2 % 12))), (0, .ref md), (1, .int (nI p)), (2, .int (nI c)), (3, .int (nI (pf p 2))), (4, .int (nI (pf p 3))), (5, .int (nI (pf p 4))), (6, .int (nI (c % 12))), (7, .int (nI (c / 12))), (9, .int (Int32.ofInt (dxI (opp (pf p 3))))), (10, .int (Int32.ofInt (dyI (opp (pf p 3))))), (11, .int (nI (j + 1)))] 218 [.int ((-6))]
                  refine v_istore (lv' := [(14, .int ((-6))), (13, .int (nI (c2 / 12))), (12, .int (nI (c2 % 12))), (0, .ref md), (1, .int (nI p)), (2, .int (nI c)), (3, .int (nI (pf p 2))), (4, .int (nI (pf p 3))), (5, .int (nI (pf p 4))), (6, .int (nI (c % 12))), (7, .int (nI (c / 12))), (9, .int (Int32.ofInt (dxI (opp (pf p 3))))), (10, .int (Int32.ofInt (dyI (opp (pf p 3))))), (11, .int (nI (j + 1)))]) C dX10_showsOf_218 hN (by decide) rfl ?_
                  refine v_iload C dX10_showsOf_220 rfl ?_
                  refine v_if_lt (tgt := 250) C dX10_showsOf_222 (by decide) (fun h222 => ?_) (fun hbad => absurd hbad (by decide))
                  refine v_iinc (lv' := [(11, .int (nI ((j + 1) + 1))), (14, .int ((-6))), (13, .int (nI (c2 / 12))), (12, .int (nI (c2 % 12))), (0, .ref md), (1, .int (nI p)), (2, .int (nI c)), (3, .int (nI (pf p 2))), (4, .int (nI (pf p 3))), (5, .int (nI (pf p 4))), (6, .int (nI (c % 12))), (7, .int (nI (c / 12))), (9, .int (Int32.ofInt (dxI (opp (pf p 3))))), (10, .int (Int32.ofInt (dyI (opp (pf p 3)))))]) C dX10_showsOf_250 13 rfl (nI_1 _) hN (by decide) rfl ?_
                  refine v_goto (tgt := 155) C dX10_showsOf_253 (by decide) ?_
                  refine v_sub (lv' := [(0, .ref md), (1, .int (nI p)), (2, .int (nI c)), (3, .int (nI (pf p 2))), (4, .int (nI (pf p 3))), (5, .int (nI (pf p 4))), (6, .int (nI (c % 12))), (7, .int (nI (c / 12))), (9, .int (Int32.ofInt (dxI (opp (pf p 3))))), (10, .int (Int32.ofInt (dyI (opp (pf p 3))))), (11, .int (nI ((j + 1) + 1)))]) [4, 5, 6, 7, 8, 9, 10, 11, 12, 13, 0] rfl ?_
                  exact ih155 (j + 1) (by omega) (by rw [anyB_s, h2, show shS m nT (pf p) c (j + 1) = false from by unfold shS; rw [hmv]; simp only; rw [hb]]; rfl) (by omega)
                · have hb := ho.symm
                  have hbl := bst_lt hb
                  have e1 := okT_ b hbl
                  unfold okM at e1
                  rw [show oI (bst m (c2 % 12) (c2 / 12) (pf p 2) nT) = nI b by rw [hb]; rfl]
                  show V X (rmD 3 0 0) M 0 0 [(13, .int (nI (c2 / 12))), (12, .int (nI (c2 % 12))), (0, .ref md), (1, .int (nI p)), (2, .int (nI c)), (3, .int (nI (pf p 2))), (4, .int (nI (pf p 3))), (5, .int (nI (pf p 4))), (6, .int (nI (c % 12))), (7, .int (nI (c / 12))), (9, .int (Int32.ofInt (dxI (opp (pf p 3))))), (10, .int (Int32.ofInt (dyI (opp (pf p 3))))), (11, .int (nI (j + 1)))] 218 [.int (nI b)]
                  refine v_istore (lv' := [(14, .int (nI b)), (13, .int (nI (c2 / 12))), (12, .int (nI (c2 % 12))), (0, .ref md), (1, .int (nI p)), (2, .int (nI c)), (3, .int (nI (pf p 2))), (4, .int (nI (pf p 3))), (5, .int (nI (pf p 4))), (6, .int (nI (c % 12))), (7, .int (nI (c / 12))), (9, .int (Int32.ofInt (dxI (opp (pf p 3))))), (10, .int (Int32.ofInt (dyI (opp (pf p 3))))), (11, .int (nI (j + 1)))]) C dX10_showsOf_218 hN (by decide) rfl ?_
                  refine v_iload C dX10_showsOf_220 rfl ?_
                  refine v_if_lt (tgt := 250) C dX10_showsOf_222 (by decide) (fun hbad => absurd hbad (nI_pos (by omega))) (fun h222 => ?_)
                  refine v_aload_n C dX10_showsOf_225 rfl ?_
                  refine v_get C kX10 hO 1 (by decide) wF_X10_7 rfl dX10_showsOf_226 ?_
                  refine v_bipush C dX10_showsOf_229 (v := 11) rfl ?_
                  refine v_iload C dX10_showsOf_231 rfl ?_
                  refine v_imul C dX10_showsOf_233 ?_
                  refine v_iconst C dX10_showsOf_234 (v := 4) rfl ?_
                  refine v_iadd C dX10_showsOf_235 ?_
                  rw [show ((11 * (nI b)) + 4 : Int32) = nI (11 * b + 4) from ix_ad (ix_mu rfl rfl) rfl]
                  refine v_iald C h1_ (vp_in_nI (by omega) (by decide)) dX10_showsOf_236 ?_
                  rw [show fT (nI (11 * b + 4) : Int32).toNatClampNeg = nI (m b 4) from by rw [nI_clamp (by omega)]; exact cT b hbl 4 (by omega)]
                  refine v_iload C dX10_showsOf_237 rfl ?_
                  refine v_imul C dX10_showsOf_239 ?_
                  refine v_bipush C dX10_showsOf_240 (v := 10) rfl ?_
                  refine v_idiv C dX10_showsOf_242 (by decide) ?_
                  have hre := reach_N (okP_ p lt) (k := m b 4) (by omega)
                  rw [hre.1]
                  show V X (rmD 3 0 0) M 0 0 [(14, .int (nI b)), (13, .int (nI (c2 / 12))), (12, .int (nI (c2 % 12))), (0, .ref md), (1, .int (nI p)), (2, .int (nI c)), (3, .int (nI (pf p 2))), (4, .int (nI (pf p 3))), (5, .int (nI (pf p 4))), (6, .int (nI (c % 12))), (7, .int (nI (c / 12))), (9, .int (Int32.ofInt (dxI (opp (pf p 3))))), (10, .int (Int32.ofInt (dyI (opp (pf p 3))))), (11, .int (nI (j + 1)))] 243 [.int (nI (m b 4 * pf p 4 / 10))]
                  refine v_iload C dX10_showsOf_243 rfl ?_
                  refine v_icmp_lt (tgt := 250) C dX10_showsOf_245 (by decide) (fun h245 => ?_) (fun h245 => ?_)
                  · refine v_iinc (lv' := [(11, .int (nI ((j + 1) + 1))), (14, .int (nI b)), (13, .int (nI (c2 / 12))), (12, .int (nI (c2 % 12))), (0, .ref md), (1, .int (nI p)), (2, .int (nI c)), (3, .int (nI (pf p 2))), (4, .int (nI (pf p 3))), (5, .int (nI (pf p 4))), (6, .int (nI (c % 12))), (7, .int (nI (c / 12))), (9, .int (Int32.ofInt (dxI (opp (pf p 3))))), (10, .int (Int32.ofInt (dyI (opp (pf p 3)))))]) C dX10_showsOf_250 13 rfl (nI_1 _) hN (by decide) rfl ?_
                    refine v_goto (tgt := 155) C dX10_showsOf_253 (by decide) ?_
                    refine v_sub (lv' := [(0, .ref md), (1, .int (nI p)), (2, .int (nI c)), (3, .int (nI (pf p 2))), (4, .int (nI (pf p 3))), (5, .int (nI (pf p 4))), (6, .int (nI (c % 12))), (7, .int (nI (c / 12))), (9, .int (Int32.ofInt (dxI (opp (pf p 3))))), (10, .int (Int32.ofInt (dyI (opp (pf p 3))))), (11, .int (nI ((j + 1) + 1)))]) [4, 5, 6, 7, 8, 9, 10, 11, 12, 13, 0] rfl ?_
                    exact ih155 (j + 1) (by omega) (by rw [anyB_s, h2, show shS m nT (pf p) c (j + 1) = false from by unfold shS; rw [hmv]; simp only; rw [hb]; exact decide_eq_false (Nat.not_le.mpr (nI_ltN (by omega) (by omega) h245))]; rfl) (by omega)
                  · refine v_iconst C dX10_showsOf_248 (v := 1) rfl ?_
                    exact v_iret C E dX10_showsOf_249 (nle rfl) (nle rfl) ⟨by rw [seeI, h6, if_pos rfl, hlk, show shade m nT (pf p) c = true from anyB_iff.mpr ⟨j, by omega, by show shS m nT (pf p) c (j + 1) = true; unfold shS; rw [hmv]; simp only; rw [hb]; exact decide_eq_true (nI_nltN (by omega) (by omega) h245)⟩]; rfl, rfl⟩
      exact lp155 (_ + 1) 0 (Nat.zero_le _) rfl (Nat.lt_succ_self _)
    have j107 : ∀ z : Int32, (lookN m nT (pf p) c = (if shade m nT (pf p) c then 1 else 0)) → V X (rmD 3 0 0) M 0 0 [(0, .ref md), (1, .int (nI p)), (2, .int (nI c)), (3, .int (nI (pf p 2))), (4, .int (nI (pf p 3))), (5, .int (nI (pf p 4))), (6, .int (nI (c % 12))), (7, .int (nI (c / 12))), (8, .int z)] 107 [] := by
      intro z hlk
      rcases (show pf p 3 = 0 ∨ pf p 3 = 1 ∨ pf p 3 = 2 ∨ pf p 3 = 3 by have := okP_ p lt; unfold okP at this; omega) with hsun | hsun | hsun | hsun
      · rw [hsun]
        show V X (rmD 3 0 0) M 0 0 [(0, .ref md), (1, .int (nI p)), (2, .int (nI c)), (3, .int (nI (pf p 2))), (4, .int (nI 0)), (5, .int (nI (pf p 4))), (6, .int (nI (c % 12))), (7, .int (nI (c / 12))), (8, .int z)] 107 []
        refine v_iload C dX10_showsOf_107 rfl ?_
        refine v_iconst C dX10_showsOf_109 (v := 1) rfl ?_
        refine v_icmp_ne (tgt := 117) C dX10_showsOf_110 (by decide) (fun h110 => ?_) (fun hbad => absurd hbad (by decide))
        refine v_iload C dX10_showsOf_117 rfl ?_
        refine v_iconst C dX10_showsOf_119 (v := 3) rfl ?_
        refine v_icmp_ne (tgt := 127) C dX10_showsOf_120 (by decide) (fun h120 => ?_) (fun hbad => absurd hbad (by decide))
        refine v_iconst C dX10_showsOf_127 (v := 0) rfl ?_
        refine v_istore (lv' := [(9, .int 0), (0, .ref md), (1, .int (nI p)), (2, .int (nI c)), (3, .int (nI (pf p 2))), (4, .int (nI 0)), (5, .int (nI (pf p 4))), (6, .int (nI (c % 12))), (7, .int (nI (c / 12))), (8, .int z)]) C dX10_showsOf_128 hN (by decide) rfl ?_
        refine v_iload C dX10_showsOf_130 rfl ?_
        refine v_if_ne (tgt := 139) C dX10_showsOf_132 (by decide) (fun hbad => absurd hbad (not_not_intro rfl)) (fun h132 => ?_)
        refine v_iconst C dX10_showsOf_135 (v := 1) rfl ?_
        refine v_goto (tgt := 150) C dX10_showsOf_136 (by decide) ?_
        refine v_istore (lv' := [(10, .int 1), (9, .int 0), (0, .ref md), (1, .int (nI p)), (2, .int (nI c)), (3, .int (nI (pf p 2))), (4, .int (nI 0)), (5, .int (nI (pf p 4))), (6, .int (nI (c % 12))), (7, .int (nI (c / 12))), (8, .int z)]) C dX10_showsOf_150 hN (by decide) rfl ?_
        refine v_iconst C dX10_showsOf_152 (v := 1) rfl ?_
        refine v_istore (lv' := [(11, .int 1), (10, .int 1), (9, .int 0), (0, .ref md), (1, .int (nI p)), (2, .int (nI c)), (3, .int (nI (pf p 2))), (4, .int (nI 0)), (5, .int (nI (pf p 4))), (6, .int (nI (c % 12))), (7, .int (nI (c / 12))), (8, .int z)]) C dX10_showsOf_153 hN (by decide) rfl ?_
        refine v_sub (lv' := [(0, .ref md), (1, .int (nI p)), (2, .int (nI c)), (3, .int (nI (pf p 2))), (4, .int (nI 0)), (5, .int (nI (pf p 4))), (6, .int (nI (c % 12))), (7, .int (nI (c / 12))), (9, .int 0), (10, .int 1), (11, .int 1)]) [3, 4, 5, 6, 7, 8, 9, 10, 2, 1, 0] rfl ?_
        have e1 : (0 : Int32) = Int32.ofInt (dxI (opp (pf p 3))) := by rw [hsun]; rfl
        have e2 : (1 : Int32) = Int32.ofInt (dyI (opp (pf p 3))) := by rw [hsun]; rfl
        have q := j155 hlk
        rw [← e1, ← e2, hsun] at q
        exact q
      · rw [hsun]
        show V X (rmD 3 0 0) M 0 0 [(0, .ref md), (1, .int (nI p)), (2, .int (nI c)), (3, .int (nI (pf p 2))), (4, .int (nI 1)), (5, .int (nI (pf p 4))), (6, .int (nI (c % 12))), (7, .int (nI (c / 12))), (8, .int z)] 107 []
        refine v_iload C dX10_showsOf_107 rfl ?_
        refine v_iconst C dX10_showsOf_109 (v := 1) rfl ?_
        refine v_icmp_ne (tgt := 117) C dX10_showsOf_110 (by decide) (fun hbad => absurd hbad (not_not_intro rfl)) (fun h110 => ?_)
        refine v_iconst C dX10_showsOf_113 (v := (-1)) rfl ?_
        refine v_goto (tgt := 128) C dX10_showsOf_114 (by decide) ?_
        refine v_istore (lv' := [(9, .int ((-1))), (0, .ref md), (1, .int (nI p)), (2, .int (nI c)), (3, .int (nI (pf p 2))), (4, .int (nI 1)), (5, .int (nI (pf p 4))), (6, .int (nI (c % 12))), (7, .int (nI (c / 12))), (8, .int z)]) C dX10_showsOf_128 hN (by decide) rfl ?_
        refine v_iload C dX10_showsOf_130 rfl ?_
        refine v_if_ne (tgt := 139) C dX10_showsOf_132 (by decide) (fun h132 => ?_) (fun hbad => absurd hbad (by decide))
        refine v_iload C dX10_showsOf_139 rfl ?_
        refine v_iconst C dX10_showsOf_141 (v := 2) rfl ?_
        refine v_icmp_ne (tgt := 149) C dX10_showsOf_142 (by decide) (fun h142 => ?_) (fun hbad => absurd hbad (by decide))
        refine v_iconst C dX10_showsOf_149 (v := 0) rfl ?_
        refine v_istore (lv' := [(10, .int 0), (9, .int ((-1))), (0, .ref md), (1, .int (nI p)), (2, .int (nI c)), (3, .int (nI (pf p 2))), (4, .int (nI 1)), (5, .int (nI (pf p 4))), (6, .int (nI (c % 12))), (7, .int (nI (c / 12))), (8, .int z)]) C dX10_showsOf_150 hN (by decide) rfl ?_
        refine v_iconst C dX10_showsOf_152 (v := 1) rfl ?_
        refine v_istore (lv' := [(11, .int 1), (10, .int 0), (9, .int ((-1))), (0, .ref md), (1, .int (nI p)), (2, .int (nI c)), (3, .int (nI (pf p 2))), (4, .int (nI 1)), (5, .int (nI (pf p 4))), (6, .int (nI (c % 12))), (7, .int (nI (c / 12))), (8, .int z)]) C dX10_showsOf_153 hN (by decide) rfl ?_
        refine v_sub (lv' := [(0, .ref md), (1, .int (nI p)), (2, .int (nI c)), (3, .int (nI (pf p 2))), (4, .int (nI 1)), (5, .int (nI (pf p 4))), (6, .int (nI (c % 12))), (7, .int (nI (c / 12))), (9, .int ((-1))), (10, .int 0), (11, .int 1)]) [3, 4, 5, 6, 7, 8, 9, 10, 2, 1, 0] rfl ?_
        have e1 : ((-1) : Int32) = Int32.ofInt (dxI (opp (pf p 3))) := by rw [hsun]; rfl
        have e2 : (0 : Int32) = Int32.ofInt (dyI (opp (pf p 3))) := by rw [hsun]; rfl
        have q := j155 hlk
        rw [← e1, ← e2, hsun] at q
        exact q
      · rw [hsun]
        show V X (rmD 3 0 0) M 0 0 [(0, .ref md), (1, .int (nI p)), (2, .int (nI c)), (3, .int (nI (pf p 2))), (4, .int (nI 2)), (5, .int (nI (pf p 4))), (6, .int (nI (c % 12))), (7, .int (nI (c / 12))), (8, .int z)] 107 []
        refine v_iload C dX10_showsOf_107 rfl ?_
        refine v_iconst C dX10_showsOf_109 (v := 1) rfl ?_
        refine v_icmp_ne (tgt := 117) C dX10_showsOf_110 (by decide) (fun h110 => ?_) (fun hbad => absurd hbad (by decide))
        refine v_iload C dX10_showsOf_117 rfl ?_
        refine v_iconst C dX10_showsOf_119 (v := 3) rfl ?_
        refine v_icmp_ne (tgt := 127) C dX10_showsOf_120 (by decide) (fun h120 => ?_) (fun hbad => absurd hbad (by decide))
        refine v_iconst C dX10_showsOf_127 (v := 0) rfl ?_
        refine v_istore (lv' := [(9, .int 0), (0, .ref md), (1, .int (nI p)), (2, .int (nI c)), (3, .int (nI (pf p 2))), (4, .int (nI 2)), (5, .int (nI (pf p 4))), (6, .int (nI (c % 12))), (7, .int (nI (c / 12))), (8, .int z)]) C dX10_showsOf_128 hN (by decide) rfl ?_
        refine v_iload C dX10_showsOf_130 rfl ?_
        refine v_if_ne (tgt := 139) C dX10_showsOf_132 (by decide) (fun h132 => ?_) (fun hbad => absurd hbad (by decide))
        refine v_iload C dX10_showsOf_139 rfl ?_
        refine v_iconst C dX10_showsOf_141 (v := 2) rfl ?_
        refine v_icmp_ne (tgt := 149) C dX10_showsOf_142 (by decide) (fun hbad => absurd hbad (not_not_intro rfl)) (fun h142 => ?_)
        refine v_iconst C dX10_showsOf_145 (v := (-1)) rfl ?_
        refine v_goto (tgt := 150) C dX10_showsOf_146 (by decide) ?_
        refine v_istore (lv' := [(10, .int ((-1))), (9, .int 0), (0, .ref md), (1, .int (nI p)), (2, .int (nI c)), (3, .int (nI (pf p 2))), (4, .int (nI 2)), (5, .int (nI (pf p 4))), (6, .int (nI (c % 12))), (7, .int (nI (c / 12))), (8, .int z)]) C dX10_showsOf_150 hN (by decide) rfl ?_
        refine v_iconst C dX10_showsOf_152 (v := 1) rfl ?_
        refine v_istore (lv' := [(11, .int 1), (10, .int ((-1))), (9, .int 0), (0, .ref md), (1, .int (nI p)), (2, .int (nI c)), (3, .int (nI (pf p 2))), (4, .int (nI 2)), (5, .int (nI (pf p 4))), (6, .int (nI (c % 12))), (7, .int (nI (c / 12))), (8, .int z)]) C dX10_showsOf_153 hN (by decide) rfl ?_
        refine v_sub (lv' := [(0, .ref md), (1, .int (nI p)), (2, .int (nI c)), (3, .int (nI (pf p 2))), (4, .int (nI 2)), (5, .int (nI (pf p 4))), (6, .int (nI (c % 12))), (7, .int (nI (c / 12))), (9, .int 0), (10, .int ((-1))), (11, .int 1)]) [3, 4, 5, 6, 7, 8, 9, 10, 2, 1, 0] rfl ?_
        have e1 : (0 : Int32) = Int32.ofInt (dxI (opp (pf p 3))) := by rw [hsun]; rfl
        have e2 : ((-1) : Int32) = Int32.ofInt (dyI (opp (pf p 3))) := by rw [hsun]; rfl
        have q := j155 hlk
        rw [← e1, ← e2, hsun] at q
        exact q
      · rw [hsun]
        show V X (rmD 3 0 0) M 0 0 [(0, .ref md), (1, .int (nI p)), (2, .int (nI c)), (3, .int (nI (pf p 2))), (4, .int (nI 3)), (5, .int (nI (pf p 4))), (6, .int (nI (c % 12))), (7, .int (nI (c / 12))), (8, .int z)] 107 []
        refine v_iload C dX10_showsOf_107 rfl ?_
        refine v_iconst C dX10_showsOf_109 (v := 1) rfl ?_
        refine v_icmp_ne (tgt := 117) C dX10_showsOf_110 (by decide) (fun h110 => ?_) (fun hbad => absurd hbad (by decide))
        refine v_iload C dX10_showsOf_117 rfl ?_
        refine v_iconst C dX10_showsOf_119 (v := 3) rfl ?_
        refine v_icmp_ne (tgt := 127) C dX10_showsOf_120 (by decide) (fun hbad => absurd hbad (not_not_intro rfl)) (fun h120 => ?_)
        refine v_iconst C dX10_showsOf_123 (v := 1) rfl ?_
        refine v_goto (tgt := 128) C dX10_showsOf_124 (by decide) ?_
        refine v_istore (lv' := [(9, .int 1), (0, .ref md), (1, .int (nI p)), (2, .int (nI c)), (3, .int (nI (pf p 2))), (4, .int (nI 3)), (5, .int (nI (pf p 4))), (6, .int (nI (c % 12))), (7, .int (nI (c / 12))), (8, .int z)]) C dX10_showsOf_128 hN (by decide) rfl ?_
        refine v_iload C dX10_showsOf_130 rfl ?_
        refine v_if_ne (tgt := 139) C dX10_showsOf_132 (by decide) (fun h132 => ?_) (fun hbad => absurd hbad (by decide))
        refine v_iload C dX10_showsOf_139 rfl ?_
        refine v_iconst C dX10_showsOf_141 (v := 2) rfl ?_
        refine v_icmp_ne (tgt := 149) C dX10_showsOf_142 (by decide) (fun h142 => ?_) (fun hbad => absurd hbad (by decide))
        refine v_iconst C dX10_showsOf_149 (v := 0) rfl ?_
        refine v_istore (lv' := [(10, .int 0), (9, .int 1), (0, .ref md), (1, .int (nI p)), (2, .int (nI c)), (3, .int (nI (pf p 2))), (4, .int (nI 3)), (5, .int (nI (pf p 4))), (6, .int (nI (c % 12))), (7, .int (nI (c / 12))), (8, .int z)]) C dX10_showsOf_150 hN (by decide) rfl ?_
        refine v_iconst C dX10_showsOf_152 (v := 1) rfl ?_
        refine v_istore (lv' := [(11, .int 1), (10, .int 0), (9, .int 1), (0, .ref md), (1, .int (nI p)), (2, .int (nI c)), (3, .int (nI (pf p 2))), (4, .int (nI 3)), (5, .int (nI (pf p 4))), (6, .int (nI (c % 12))), (7, .int (nI (c / 12))), (8, .int z)]) C dX10_showsOf_153 hN (by decide) rfl ?_
        refine v_sub (lv' := [(0, .ref md), (1, .int (nI p)), (2, .int (nI c)), (3, .int (nI (pf p 2))), (4, .int (nI 3)), (5, .int (nI (pf p 4))), (6, .int (nI (c % 12))), (7, .int (nI (c / 12))), (9, .int 1), (10, .int 0), (11, .int 1)]) [3, 4, 5, 6, 7, 8, 9, 10, 2, 1, 0] rfl ?_
        have e1 : (1 : Int32) = Int32.ofInt (dxI (opp (pf p 3))) := by rw [hsun]; rfl
        have e2 : (0 : Int32) = Int32.ofInt (dyI (opp (pf p 3))) := by rw [hsun]; rfl
        have q := j155 hlk
        rw [← e1, ← e2, hsun] at q
        exact q
    refine v_aload_n C dX10_showsOf_59 rfl ?_
    refine v_iload C dX10_showsOf_60 rfl ?_
    refine v_iload C dX10_showsOf_62 rfl ?_
    refine v_iload_n C dX10_showsOf_64 rfl ?_
    refine v_callV (As := [.int (nI (c % 12)), .int (nI (c / 12)), .int (nI (pf p 2))]) (rest := []) (b := md) C (c_X10_thingAt (xl X) (xg X) M md t1 t2 t3 t4 t5 t6 t7 t8 fT fD fP fC fS fU fX fF mo nT m dB nP pf cB nS sg ln tx fl hM ((c % 12)) ((c / 12)) ((pf p 2)) (by omega) (by omega) (by omega)) pm_X10_thingAt wI_X10_thingAt wS_X10_thingAt wM_X10_63 kX10 hO ⟨by decide, by decide⟩ ⟨by decide, by decide⟩ (nle rfl) dX10_showsOf_65 rfl (dt1 ?_)
    show V X (rmD 3 0 0) M 0 0 [(7, .int (nI (c / 12))), (6, .int (nI (c % 12))), (5, .int (nI (pf p 4))), (4, .int (nI (pf p 3))), (3, .int (nI (pf p 2))), (0, .ref md), (1, .int (nI p)), (2, .int (nI c))] 68 [.int (oI (bst m ((c % 12)) ((c / 12)) ((pf p 2)) nT))]
    refine v_istore (lv' := [(8, .int (oI (bst m ((c % 12)) ((c / 12)) ((pf p 2)) nT))), (7, .int (nI (c / 12))), (6, .int (nI (c % 12))), (5, .int (nI (pf p 4))), (4, .int (nI (pf p 3))), (3, .int (nI (pf p 2))), (0, .ref md), (1, .int (nI p)), (2, .int (nI c))]) C dX10_showsOf_68 hN (by decide) rfl ?_
    obtain ⟨o1, ho⟩ : ∃ o1, o1 = bst m (c % 12) (c / 12) (pf p 2) nT := ⟨_, rfl⟩
    rcases o1 with _ | b
    · have hown := ho.symm
      rw [show oI (bst m (c % 12) (c / 12) (pf p 2) nT) = (-6) by rw [hown]; rfl]
      show V X (rmD 3 0 0) M 0 0 [(8, .int ((-6))), (7, .int (nI (c / 12))), (6, .int (nI (c % 12))), (5, .int (nI (pf p 4))), (4, .int (nI (pf p 3))), (3, .int (nI (pf p 2))), (0, .ref md), (1, .int (nI p)), (2, .int (nI c))] 70 []
      refine v_iload C dX10_showsOf_70 rfl ?_
      refine v_if_lt (tgt := 107) C dX10_showsOf_72 (by decide) (fun h72 => ?_) (fun hbad => absurd hbad (by decide))
      refine v_sub (lv' := [(0, .ref md), (1, .int (nI p)), (2, .int (nI c)), (3, .int (nI (pf p 2))), (4, .int (nI (pf p 3))), (5, .int (nI (pf p 4))), (6, .int (nI (c % 12))), (7, .int (nI (c / 12))), (8, .int ((-6)))]) [6, 7, 8, 5, 4, 3, 2, 1, 0] rfl ?_
      exact j107 _ (by rw [lookN, hown])
    · have hown := ho.symm
      have hbl := bst_lt hown
      have e1 := okT_ b hbl
      unfold okM at e1
      rw [show oI (bst m (c % 12) (c / 12) (pf p 2) nT) = nI b by rw [hown]; rfl]
      show V X (rmD 3 0 0) M 0 0 [(8, .int (nI b)), (7, .int (nI (c / 12))), (6, .int (nI (c % 12))), (5, .int (nI (pf p 4))), (4, .int (nI (pf p 3))), (3, .int (nI (pf p 2))), (0, .ref md), (1, .int (nI p)), (2, .int (nI c))] 70 []
      refine v_iload C dX10_showsOf_70 rfl ?_
      refine v_if_lt (tgt := 107) C dX10_showsOf_72 (by decide) (fun hbad => absurd hbad (nI_pos (by omega))) (fun h72 => ?_)
      refine v_aload_n C dX10_showsOf_75 rfl ?_
      refine v_get C kX10 hO 1 (by decide) wF_X10_7 rfl dX10_showsOf_76 ?_
      refine v_bipush C dX10_showsOf_79 (v := 11) rfl ?_
      refine v_iload C dX10_showsOf_81 rfl ?_
      refine v_imul C dX10_showsOf_83 ?_
      refine v_bipush C dX10_showsOf_84 (v := 9) rfl ?_
      refine v_iadd C dX10_showsOf_86 ?_
      rw [show ((11 * (nI b)) + 9 : Int32) = nI (11 * b + 9) from ix_ad (ix_mu rfl rfl) rfl]
      refine v_iald C h1_ (vp_in_nI (by omega) (by decide)) dX10_showsOf_87 ?_
      rw [show fT (nI (11 * b + 9) : Int32).toNatClampNeg = nI (m b 9) from by rw [nI_clamp (by omega)]; exact cT b hbl 9 (by omega)]
      refine v_if_ne (tgt := 107) C dX10_showsOf_88 (by decide) (fun h88 => ?_) (fun h88 => ?_)
      · refine v_sub (lv' := [(0, .ref md), (1, .int (nI p)), (2, .int (nI c)), (3, .int (nI (pf p 2))), (4, .int (nI (pf p 3))), (5, .int (nI (pf p 4))), (6, .int (nI (c % 12))), (7, .int (nI (c / 12))), (8, .int (nI b))]) [6, 7, 8, 5, 4, 3, 2, 1, 0] rfl ?_
        exact j107 _ (by rw [lookN, hown]; simp only; rw [if_neg (nI_neN (b := 0) (by omega) (by decide) h88)])
      · refine v_bipush C dX10_showsOf_91 (v := 10) rfl ?_
        refine v_aload_n C dX10_showsOf_93 rfl ?_
        refine v_get C kX10 hO 1 (by decide) wF_X10_7 rfl dX10_showsOf_94 ?_
        refine v_bipush C dX10_showsOf_97 (v := 11) rfl ?_
        refine v_iload C dX10_showsOf_99 rfl ?_
        refine v_imul C dX10_showsOf_101 ?_
        refine v_iconst C dX10_showsOf_102 (v := 5) rfl ?_
        refine v_iadd C dX10_showsOf_103 ?_
        rw [show ((11 * (nI b)) + 5 : Int32) = nI (11 * b + 5) from ix_ad (ix_mu rfl rfl) rfl]
        refine v_iald C h1_ (vp_in_nI (by omega) (by decide)) dX10_showsOf_104 ?_
        rw [show fT (nI (11 * b + 5) : Int32).toNatClampNeg = nI (m b 5) from by rw [nI_clamp (by omega)]; exact cT b hbl 5 (by omega)]
        refine v_iadd C dX10_showsOf_105 ?_
        exact v_iret C E dX10_showsOf_106 (nle rfl) (nle rfl) ⟨by rw [seeI, h6, if_pos rfl, lookN, hown]; simp only; rw [if_pos (nI_eqN (b := 0) (by omega) (by decide) h88), show (10 : Int32) + nI (m b 5) = nI (10 + m b 5) from ix_ad rfl rfl], rfl⟩
  · refine v_bipush C dX10_showsOf_9 (v := (-6)) rfl ?_
    exact v_iret C E dX10_showsOf_11 (nle rfl) (nle rfl) ⟨by rw [seeI, h6]; rfl, rfl⟩


/-! The model: worth, risk, best, lean, told. -/
theorem misN_s (fl : Nat → Nat → Nat) (x s n : Nat) : misN fl x s (n + 1) = misN fl x s n * (if s / 2 ^ n % 2 = 1 then tmN fl n x else 10) := rfl
theorem worN_s (fl : Nat → Nat → Nat) (m : Nat → Nat → Nat) (s n : Nat) : worN fl m s (n + 1) = worN fl m s n + if m n 10 = 1 then 100000000 - misN fl (m n 0) s 8 else 0 := rfl
theorem rskN_s (fl : Nat → Nat → Nat) (s n : Nat) : rskN fl s (n + 1) = rskN fl s n + s / 2 ^ n % 2 * fl n 3 := rfl
set_option maxHeartbeats 4000000 in
set_option maxRecDepth 100000 in
theorem c_X10_worthOf (l : Launch) (g : Gm) (M : Mem) (md : Nat) (t1 t2 t3 t4 t5 t6 t7 t8 : Nat) (fT fD fP fC fS fU fX fF : Nat → Int32) (mo : Int32) (nT : Nat) (m : Nat → Nat → Nat) (dB : Nat → Nat → Bool) (nP : Nat) (pf : Nat → Nat → Nat) (cB : Nat → Nat → Bool) (nS : Nat) (sg : Nat → Int32) (ln : Nat → Nat) (tx : Nat → Nat → Int32) (fl : Nat → Nat → Nat) (hM : ModA g M md t1 t2 t3 t4 t5 t6 t7 t8 fT fD fP fC fS fU fX fF mo nT m dB nP pf cB nS sg ln tx fl) (s : Nat) (hs : s < 256) : Ct l g yX10_worthOf cX10_worthOf 9 (some .long) 1 0 0 [.ref md, .int (nI s)] M (fun v N => v = some (.long (lN (worN fl m s nT))) ∧ N = M) := by
  refine Ct.of (by decide) (Nat.le_of_ble_eq_true rfl) ?_
  intro X hXl hXg hN C E
  subst hXl; subst hXg
  show V X (rmD 1 0 0) M 0 0 [(0, .ref md), (1, .int (nI s))] 0 []
  obtain ⟨hO, h1_, h2_, h3_, h4_, h5_, h6_, h7_, h8_, bT, bP, bS, okT_, cT, cD, okP_, cP, cC, cS, cU, bU_, cX, okX, okF_, cF⟩ := id hM
  refine v_lconst C dX10_worthOf_0 (v := 0) rfl ?_
  refine v_lstore_n (lv' := [(2, .long 0), (0, .ref md), (1, .int (nI s))]) C dX10_worthOf_1 hN (by decide) rfl ?_
  refine v_iconst C dX10_worthOf_2 (v := 0) rfl ?_
  refine v_istore (lv' := [(4, .int 0), (2, .long 0), (0, .ref md), (1, .int (nI s))]) C dX10_worthOf_3 hN (by decide) rfl ?_
  refine v_sub (lv' := [(0, .ref md), (1, .int (nI s)), (2, .long 0), (4, .int 0)]) [2, 3, 1, 0] rfl ?_
  have lp5 : ∀ (mm : Nat) (k : Nat) (h1 : k ≤ nT), nT - k < mm → V X (rmD 1 0 0) M 0 0 [(0, .ref md), (1, .int (nI s)), (2, .long (lN (worN fl m s k))), (4, .int (nI k))] 5 [] := by
    intro mm
    induction mm with
    | zero => intro k h1 hmu; exact absurd hmu (Nat.not_lt_zero _)
    | succ mm ih5 =>
      intro k h1 hmu
      refine v_iload C dX10_worthOf_5 rfl ?_
      refine v_aload_n C dX10_worthOf_7 rfl ?_
      refine v_get C kX10 hO 0 (by decide) wF_X10_39 rfl dX10_worthOf_8 ?_
      refine v_icmp_ge (tgt := 150) C dX10_worthOf_11 (by decide) (fun h11 => ?_) (fun h11 => ?_)
      · refine v_lload_n C dX10_worthOf_150 rfl ?_
        exact v_lret C E dX10_worthOf_151 (nle rfl) (nle rfl) ⟨by rw [show k = nT from Nat.le_antisymm h1 (nI_leN (by omega) (by omega) h11)], rfl⟩
      · have g11 := nI_nleN (by omega) (by omega) h11
        have e8 := okT_ k g11
        unfold okM at e8
        refine v_aload_n C dX10_worthOf_14 rfl ?_
        refine v_get C kX10 hO 1 (by decide) wF_X10_7 rfl dX10_worthOf_15 ?_
        refine v_bipush C dX10_worthOf_18 (v := 11) rfl ?_
        refine v_iload C dX10_worthOf_20 rfl ?_
        refine v_imul C dX10_worthOf_22 ?_
        refine v_bipush C dX10_worthOf_23 (v := 10) rfl ?_
        refine v_iadd C dX10_worthOf_25 ?_
        rw [show ((11 * (nI k)) + 10 : Int32) = nI (11 * k + 10) from ix_ad (ix_mu rfl rfl) rfl]
        refine v_iald C h1_ (vp_in_nI (by omega) (by decide)) dX10_worthOf_26 ?_
        rw [show fT (nI (11 * k + 10) : Int32).toNatClampNeg = nI (m k 10) from by rw [nI_clamp (by omega)]; exact cT k g11 10 (by omega)]
        refine v_iconst C dX10_worthOf_27 (v := 1) rfl ?_
        refine v_icmp_ne (tgt := 144) C dX10_worthOf_28 (by decide) (fun h28 => ?_) (fun h28 => ?_)
        · refine v_iinc (lv' := [(4, .int (nI (k + 1))), (0, .ref md), (1, .int (nI s)), (2, .long (lN (worN fl m s k)))]) C dX10_worthOf_144 3 rfl (nI_1 _) hN (by decide) rfl ?_
          refine v_goto (tgt := 5) C dX10_worthOf_147 (by decide) ?_
          refine v_sub (lv' := [(0, .ref md), (1, .int (nI s)), (2, .long (lN (worN fl m s k))), (4, .int (nI (k + 1)))]) [1, 2, 3, 0] rfl ?_
          have e5 := ih5 (k + 1) (by omega) (by omega)
          rw [worN_s, if_neg (nI_neN (b := 1) (by omega) (by decide) h28), Nat.add_zero] at e5
          exact e5
        · refine v_lconst C dX10_worthOf_31 (v := 1) rfl ?_
          refine v_lstore (lv' := [(5, .long 1), (0, .ref md), (1, .int (nI s)), (2, .long (lN (worN fl m s k))), (4, .int (nI k))]) C dX10_worthOf_32 hN (by decide) rfl ?_
          refine v_iconst C dX10_worthOf_34 (v := 0) rfl ?_
          refine v_istore (lv' := [(7, .int 0), (5, .long 1), (0, .ref md), (1, .int (nI s)), (2, .long (lN (worN fl m s k))), (4, .int (nI k))]) C dX10_worthOf_35 hN (by decide) rfl ?_
          refine v_sub (lv' := [(0, .ref md), (1, .int (nI s)), (2, .long (lN (worN fl m s k))), (4, .int (nI k)), (5, .long 1), (7, .int 0)]) [2, 3, 4, 5, 1, 0] rfl ?_
          have lp37 : ∀ (mm : Nat) (f : Nat) (h2 : f ≤ 8), 8 - f < mm → V X (rmD 1 0 0) M 0 0 [(0, .ref md), (1, .int (nI s)), (2, .long (lN (worN fl m s k))), (4, .int (nI k)), (5, .long (lN (misN fl (m k 0) s f))), (7, .int (nI f))] 37 [] := by
            intro mm
            induction mm with
            | zero => intro f h2 hmu; exact absurd hmu (Nat.not_lt_zero _)
            | succ mm ih37 =>
              intro f h2 hmu
              refine v_iload C dX10_worthOf_37 rfl ?_
              refine v_bipush C dX10_worthOf_39 (v := 8) rfl ?_
              refine v_icmp_ge (tgt := 135) C dX10_worthOf_41 (by decide) (fun h41 => ?_) (fun h41 => ?_)
              · rw [show f = 8 from Nat.le_antisymm h2 (nI_leN (a := 8) (by decide) (by omega) h41)]
                show V X (rmD 1 0 0) M 0 0 [(0, .ref md), (1, .int (nI s)), (2, .long (lN (worN fl m s k))), (4, .int (nI k)), (5, .long (lN (misN fl (m k 0) s 8))), (7, .int (nI 8))] 135 []
                refine v_lload_n C dX10_worthOf_135 rfl ?_
                refine v_ldc2 C dX10_worthOf_136 wJ_X10_149 ?_
                refine v_lload C dX10_worthOf_139 rfl ?_
                refine v_lsub C dX10_worthOf_141 ?_
                refine v_ladd C dX10_worthOf_142 ?_
                rw [show lN (worN fl m s k) + (100000000 - lN (misN fl (m k 0) s 8)) = lN (worN fl m s (k + 1)) from by rw [show (100000000 : Int64) = lN 100000000 from rfl, lN_sub (misN_le fl (m k 0) s 8), lN_add, worN_s, if_pos (nI_eqN (b := 1) (by omega) (by decide) h28)]]
                show V X (rmD 1 0 0) M 0 0 [(0, .ref md), (1, .int (nI s)), (2, .long (lN (worN fl m s k))), (4, .int (nI k)), (5, .long (lN (misN fl (m k 0) s 8))), (7, .int (nI 8))] 143 [.long (lN (worN fl m s (k + 1)))]
                refine v_lstore_n (lv' := [(2, .long (lN (worN fl m s (k + 1)))), (0, .ref md), (1, .int (nI s)), (4, .int (nI k)), (5, .long (lN (misN fl (m k 0) s 8))), (7, .int (nI 8))]) C dX10_worthOf_143 hN (by decide) rfl ?_
                refine v_iinc (lv' := [(4, .int (nI (k + 1))), (2, .long (lN (worN fl m s (k + 1)))), (0, .ref md), (1, .int (nI s)), (5, .long (lN (misN fl (m k 0) s 8))), (7, .int (nI 8))]) C dX10_worthOf_144 3 rfl (nI_1 _) hN (by decide) rfl ?_
                refine v_goto (tgt := 5) C dX10_worthOf_147 (by decide) ?_
                refine v_sub (lv' := [(0, .ref md), (1, .int (nI s)), (2, .long (lN (worN fl m s (k + 1)))), (4, .int (nI (k + 1)))]) [2, 3, 1, 0] rfl ?_
                exact ih5 (k + 1) (by omega) (by omega)
              · have g41 := nI_nleN (a := 8) (by decide) (by omega) h41
                have e9 := okF_ f g41
                have hb2 : s / 2 ^ f % 2 < 2 := Nat.mod_lt _ (by decide)
                refine v_iload_n C dX10_worthOf_44 rfl ?_
                refine v_iload C dX10_worthOf_45 rfl ?_
                refine v_ishr C dX10_worthOf_47 ?_
                refine v_iconst C dX10_worthOf_48 (v := 1) rfl ?_
                refine v_iand C dX10_worthOf_49 ?_
                rw [bitI hs g41]
                show V X (rmD 1 0 0) M 0 0 [(0, .ref md), (1, .int (nI s)), (2, .long (lN (worN fl m s k))), (4, .int (nI k)), (5, .long (lN (misN fl (m k 0) s f))), (7, .int (nI f))] 50 [.int (nI (s / 2 ^ f % 2))]
                refine v_iconst C dX10_worthOf_50 (v := 1) rfl ?_
                refine v_icmp_ne (tgt := 94) C dX10_worthOf_51 (by decide) (fun h51 => ?_) (fun h51 => ?_)
                · refine v_iconst C dX10_worthOf_94 (v := 0) rfl ?_
                  refine v_istore (lv' := [(8, .int 0), (0, .ref md), (1, .int (nI s)), (2, .long (lN (worN fl m s k))), (4, .int (nI k)), (5, .long (lN (misN fl (m k 0) s f))), (7, .int (nI f))]) C dX10_worthOf_95 hN (by decide) rfl ?_
                  refine v_lload C dX10_worthOf_97 rfl ?_
                  refine v_iload C dX10_worthOf_99 rfl ?_
                  refine v_if_eq (tgt := 123) C dX10_worthOf_101 (by decide) (fun h101 => ?_) (fun hbad => absurd hbad (by decide))
                  refine v_ldc2 C dX10_worthOf_123 wJ_X10_147 ?_
                  refine v_lmul C dX10_worthOf_126 ?_
                  rw [show lN (misN fl (m k 0) s f) * 10 = lN (misN fl (m k 0) s (f + 1)) from by rw [misN_s, show (if s / 2 ^ f % 2 = 1 then tmN fl f (m k 0) else 10) = 10 from if_neg (nI_neN (b := 1) (by omega) (by decide) h51)]; exact lN_mul _ _]
                  show V X (rmD 1 0 0) M 0 0 [(8, .int 0), (0, .ref md), (1, .int (nI s)), (2, .long (lN (worN fl m s k))), (4, .int (nI k)), (5, .long (lN (misN fl (m k 0) s f))), (7, .int (nI f))] 127 [.long (lN (misN fl (m k 0) s (f + 1)))]
                  refine v_lstore (lv' := [(5, .long (lN (misN fl (m k 0) s (f + 1)))), (8, .int 0), (0, .ref md), (1, .int (nI s)), (2, .long (lN (worN fl m s k))), (4, .int (nI k)), (7, .int (nI f))]) C dX10_worthOf_127 hN (by decide) rfl ?_
                  refine v_iinc (lv' := [(7, .int (nI (f + 1))), (5, .long (lN (misN fl (m k 0) s (f + 1)))), (8, .int 0), (0, .ref md), (1, .int (nI s)), (2, .long (lN (worN fl m s k))), (4, .int (nI k))]) C dX10_worthOf_129 6 rfl (nI_1 _) hN (by decide) rfl ?_
                  refine v_goto (tgt := 37) C dX10_worthOf_132 (by decide) ?_
                  refine v_sub (lv' := [(0, .ref md), (1, .int (nI s)), (2, .long (lN (worN fl m s k))), (4, .int (nI k)), (5, .long (lN (misN fl (m k 0) s (f + 1)))), (7, .int (nI (f + 1)))]) [3, 4, 5, 6, 1, 0] rfl ?_
                  exact ih37 (f + 1) (by omega) (by omega)
                · refine v_aload_n C dX10_worthOf_54 rfl ?_
                  refine v_get C kX10 hO 1 (by decide) wF_X10_7 rfl dX10_worthOf_55 ?_
                  refine v_bipush C dX10_worthOf_58 (v := 11) rfl ?_
                  refine v_iload C dX10_worthOf_60 rfl ?_
                  refine v_imul C dX10_worthOf_62 ?_
                  rw [show (11 * (nI k) : Int32) = nI (11 * k) from ix_mu rfl rfl]
                  refine v_iald C h1_ (vp_in_nI (by omega) (by decide)) dX10_worthOf_63 ?_
                  rw [show fT (nI (11 * k) : Int32).toNatClampNeg = nI (m k 0) from by rw [nI_clamp (by omega)]; exact cT k g11 0 (by omega)]
                  refine v_aload_n C dX10_worthOf_64 rfl ?_
                  refine v_get C kX10 hO 10 (by decide) wF_X10_32 rfl dX10_worthOf_65 ?_
                  refine v_iconst C dX10_worthOf_68 (v := 4) rfl ?_
                  refine v_iload C dX10_worthOf_69 rfl ?_
                  refine v_imul C dX10_worthOf_71 ?_
                  rw [show (4 * (nI f) : Int32) = nI (4 * f) from ix_mu rfl rfl]
                  refine v_iald C h8_ (vp_in_nI (by omega) (by decide)) dX10_worthOf_72 ?_
                  rw [show fF (nI (4 * f) : Int32).toNatClampNeg = nI (fl f 0) from by rw [nI_clamp (by omega)]; exact cF f (by omega) 0 (by omega)]
                  refine v_aload_n C dX10_worthOf_73 rfl ?_
                  refine v_get C kX10 hO 10 (by decide) wF_X10_32 rfl dX10_worthOf_74 ?_
                  refine v_iconst C dX10_worthOf_77 (v := 4) rfl ?_
                  refine v_iload C dX10_worthOf_78 rfl ?_
                  refine v_imul C dX10_worthOf_80 ?_
                  refine v_iconst C dX10_worthOf_81 (v := 1) rfl ?_
                  refine v_iadd C dX10_worthOf_82 ?_
                  rw [show ((4 * (nI f)) + 1 : Int32) = nI (4 * f + 1) from ix_ad (ix_mu rfl rfl) rfl]
                  refine v_iald C h8_ (vp_in_nI (by omega) (by decide)) dX10_worthOf_83 ?_
                  rw [show fF (nI (4 * f + 1) : Int32).toNatClampNeg = nI (fl f 1) from by rw [nI_clamp (by omega)]; exact cF f (by omega) 1 (by omega)]
                  refine v_callS (As := [.int (nI (m k 0)), .int (nI (fl f 0)), .int (nI (fl f 1))]) (rest := []) C (c_X10_in (xl X) (xg X) (nI (m k 0)) (nI (fl f 0)) (nI (fl f 1)) M) pm_X10_in wT_X10_in wM_X10_35 ⟨by decide, by decide⟩ ⟨by decide, by decide⟩ (nle rfl) dX10_worthOf_84 rfl (dt1 ?_)
                  show V X (rmD 1 0 0) M 0 0 [(0, .ref md), (1, .int (nI s)), (2, .long (lN (worN fl m s k))), (4, .int (nI k)), (5, .long (lN (misN fl (m k 0) s f))), (7, .int (nI f))] 87 [.int (bI (qin (nI (m k 0)) (nI (fl f 0)) (nI (fl f 1))))]
                  rw [qin_N (by omega) (by omega) (by omega)]
                  show V X (rmD 1 0 0) M 0 0 [(0, .ref md), (1, .int (nI s)), (2, .long (lN (worN fl m s k))), (4, .int (nI k)), (5, .long (lN (misN fl (m k 0) s f))), (7, .int (nI f))] 87 [.int (bI (decide (fl f 0 ≤ m k 0) && decide (m k 0 ≤ fl f 1)))]
                  refine v_ifb_eq (tgt := 94) C dX10_worthOf_87 (by decide) (fun h87 => ?_) (fun h87 => ?_)
                  · refine v_iconst C dX10_worthOf_94 (v := 0) rfl ?_
                    refine v_istore (lv' := [(8, .int 0), (0, .ref md), (1, .int (nI s)), (2, .long (lN (worN fl m s k))), (4, .int (nI k)), (5, .long (lN (misN fl (m k 0) s f))), (7, .int (nI f))]) C dX10_worthOf_95 hN (by decide) rfl ?_
                    refine v_lload C dX10_worthOf_97 rfl ?_
                    refine v_iload C dX10_worthOf_99 rfl ?_
                    refine v_if_eq (tgt := 123) C dX10_worthOf_101 (by decide) (fun h101 => ?_) (fun hbad => absurd hbad (by decide))
                    refine v_ldc2 C dX10_worthOf_123 wJ_X10_147 ?_
                    refine v_lmul C dX10_worthOf_126 ?_
                    rw [show lN (misN fl (m k 0) s f) * 10 = lN (misN fl (m k 0) s (f + 1)) from by rw [misN_s, show (if s / 2 ^ f % 2 = 1 then tmN fl f (m k 0) else 10) = 10 from (if_pos (nI_eqN (b := 1) (by omega) (by decide) h51)).trans (if_neg (by rw [Bool.and_eq_false_iff] at h87; simp only [decide_eq_false_iff_not] at h87; omega))]; exact lN_mul _ _]
                    show V X (rmD 1 0 0) M 0 0 [(8, .int 0), (0, .ref md), (1, .int (nI s)), (2, .long (lN (worN fl m s k))), (4, .int (nI k)), (5, .long (lN (misN fl (m k 0) s f))), (7, .int (nI f))] 127 [.long (lN (misN fl (m k 0) s (f + 1)))]
                    refine v_lstore (lv' := [(5, .long (lN (misN fl (m k 0) s (f + 1)))), (8, .int 0), (0, .ref md), (1, .int (nI s)), (2, .long (lN (worN fl m s k))), (4, .int (nI k)), (7, .int (nI f))]) C dX10_worthOf_127 hN (by decide) rfl ?_
                    refine v_iinc (lv' := [(7, .int (nI (f + 1))), (5, .long (lN (misN fl (m k 0) s (f + 1)))), (8, .int 0), (0, .ref md), (1, .int (nI s)), (2, .long (lN (worN fl m s k))), (4, .int (nI k))]) C dX10_worthOf_129 6 rfl (nI_1 _) hN (by decide) rfl ?_
                    refine v_goto (tgt := 37) C dX10_worthOf_132 (by decide) ?_
                    refine v_sub (lv' := [(0, .ref md), (1, .int (nI s)), (2, .long (lN (worN fl m s k))), (4, .int (nI k)), (5, .long (lN (misN fl (m k 0) s (f + 1)))), (7, .int (nI (f + 1)))]) [3, 4, 5, 6, 1, 0] rfl ?_
                    exact ih37 (f + 1) (by omega) (by omega)
                  · refine v_iconst C dX10_worthOf_90 (v := 1) rfl ?_
                    refine v_goto (tgt := 95) C dX10_worthOf_91 (by decide) ?_
                    refine v_istore (lv' := [(8, .int 1), (0, .ref md), (1, .int (nI s)), (2, .long (lN (worN fl m s k))), (4, .int (nI k)), (5, .long (lN (misN fl (m k 0) s f))), (7, .int (nI f))]) C dX10_worthOf_95 hN (by decide) rfl ?_
                    refine v_lload C dX10_worthOf_97 rfl ?_
                    refine v_iload C dX10_worthOf_99 rfl ?_
                    refine v_if_eq (tgt := 123) C dX10_worthOf_101 (by decide) (fun hbad => absurd hbad (by decide)) (fun h101 => ?_)
                    refine v_ldc2 C dX10_worthOf_104 wJ_X10_147 ?_
                    refine v_aload_n C dX10_worthOf_107 rfl ?_
                    refine v_get C kX10 hO 10 (by decide) wF_X10_32 rfl dX10_worthOf_108 ?_
                    refine v_iconst C dX10_worthOf_111 (v := 4) rfl ?_
                    refine v_iload C dX10_worthOf_112 rfl ?_
                    refine v_imul C dX10_worthOf_114 ?_
                    refine v_iconst C dX10_worthOf_115 (v := 2) rfl ?_
                    refine v_iadd C dX10_worthOf_116 ?_
                    rw [show ((4 * (nI f)) + 2 : Int32) = nI (4 * f + 2) from ix_ad (ix_mu rfl rfl) rfl]
                    refine v_iald C h8_ (vp_in_nI (by omega) (by decide)) dX10_worthOf_117 ?_
                    rw [show fF (nI (4 * f + 2) : Int32).toNatClampNeg = nI (fl f 2) from by rw [nI_clamp (by omega)]; exact cF f (by omega) 2 (by omega)]
                    refine v_i2l C dX10_worthOf_118 ?_
                    refine v_lsub C dX10_worthOf_119 ?_
                    rw [show (10 : Int64) - (nI (fl f 2) : Int32).toInt64 = lN (10 - fl f 2) from by rw [nI_l (by omega), show (10 : Int64) = lN 10 from rfl, lN_sub (by omega)]]
                    show V X (rmD 1 0 0) M 0 0 [(8, .int 1), (0, .ref md), (1, .int (nI s)), (2, .long (lN (worN fl m s k))), (4, .int (nI k)), (5, .long (lN (misN fl (m k 0) s f))), (7, .int (nI f))] 120 [.long (lN (10 - fl f 2)), .long (lN (misN fl (m k 0) s f))]
                    refine v_goto (tgt := 126) C dX10_worthOf_120 (by decide) ?_
                    refine v_lmul C dX10_worthOf_126 ?_
                    rw [show lN (misN fl (m k 0) s f) * lN (10 - fl f 2) = lN (misN fl (m k 0) s (f + 1)) from by rw [misN_s, show (if s / 2 ^ f % 2 = 1 then tmN fl f (m k 0) else 10) = 10 - fl f 2 from (if_pos (nI_eqN (b := 1) (by omega) (by decide) h51)).trans (if_pos (by simp only [Bool.and_eq_true, decide_eq_true_eq] at h87; exact h87))]; exact lN_mul _ _]
                    show V X (rmD 1 0 0) M 0 0 [(8, .int 1), (0, .ref md), (1, .int (nI s)), (2, .long (lN (worN fl m s k))), (4, .int (nI k)), (5, .long (lN (misN fl (m k 0) s f))), (7, .int (nI f))] 127 [.long (lN (misN fl (m k 0) s (f + 1)))]
                    refine v_lstore (lv' := [(5, .long (lN (misN fl (m k 0) s (f + 1)))), (8, .int 1), (0, .ref md), (1, .int (nI s)), (2, .long (lN (worN fl m s k))), (4, .int (nI k)), (7, .int (nI f))]) C dX10_worthOf_127 hN (by decide) rfl ?_
                    refine v_iinc (lv' := [(7, .int (nI (f + 1))), (5, .long (lN (misN fl (m k 0) s (f + 1)))), (8, .int 1), (0, .ref md), (1, .int (nI s)), (2, .long (lN (worN fl m s k))), (4, .int (nI k))]) C dX10_worthOf_129 6 rfl (nI_1 _) hN (by decide) rfl ?_
                    refine v_goto (tgt := 37) C dX10_worthOf_132 (by decide) ?_
                    refine v_sub (lv' := [(0, .ref md), (1, .int (nI s)), (2, .long (lN (worN fl m s k))), (4, .int (nI k)), (5, .long (lN (misN fl (m k 0) s (f + 1)))), (7, .int (nI (f + 1)))]) [3, 4, 5, 6, 1, 0] rfl ?_
                    exact ih37 (f + 1) (by omega) (by omega)
          exact lp37 (_ + 1) 0 (Nat.zero_le _) (Nat.lt_succ_self _)
  exact lp5 (_ + 1) 0 (Nat.zero_le _) (Nat.lt_succ_self _)

set_option maxHeartbeats 4000000 in
set_option maxRecDepth 100000 in
theorem c_X10_worth (l : Launch) (g : Gm) (M : Mem) (md : Nat) (t1 t2 t3 t4 t5 t6 t7 t8 : Nat) (fT fD fP fC fS fU fX fF : Nat → Int32) (mo : Int32) (nT : Nat) (m : Nat → Nat → Nat) (dB : Nat → Nat → Bool) (nP : Nat) (pf : Nat → Nat → Nat) (cB : Nat → Nat → Bool) (nS : Nat) (sg : Nat → Int32) (ln : Nat → Nat) (tx : Nat → Nat → Int32) (fl : Nat → Nat → Nat) (hM : ModA g M md t1 t2 t3 t4 t5 t6 t7 t8 fT fD fP fC fS fU fX fF mo nT m dB nP pf cB nS sg ln tx fl) (ss zz : Int32) : Ct l g yX10_worth cX10_worth 3 (some .long) 9 0 0 [.ref md, .int ss, .int zz] M (fun v N => v = some (.long (aWorth nT m fl ss zz)) ∧ N = M) := by
  refine Ct.of (by decide) (Nat.le_of_ble_eq_true rfl) ?_
  intro X hXl hXg hN C E
  subst hXl; subst hXg
  show V X (rmD 9 0 0) M 0 0 [(0, .ref md), (1, .int ss), (2, .int zz)] 0 []
  obtain ⟨hO, h1_, h2_, h3_, h4_, h5_, h6_, h7_, h8_, bT, bP, bS, okT_, cT, cD, okP_, cP, cC, cS, cU, bU_, cX, okX, okF_, cF⟩ := id hM
  refine v_iload_n C dX10_worth_0 rfl ?_
  refine v_iconst C dX10_worth_1 (v := 0) rfl ?_
  refine v_sipush C dX10_worth_2 (v := 255) rfl ?_
  refine v_callS (As := [.int ss, .int 0, .int 255]) (rest := []) C (c_X10_in (xl X) (xg X) ss 0 255 M) pm_X10_in wT_X10_in wM_X10_35 ⟨by decide, by decide⟩ ⟨by decide, by decide⟩ (nle rfl) dX10_worth_5 rfl (dt1 ?_)
  show V X (rmD 9 0 0) M 0 0 [(0, .ref md), (1, .int ss), (2, .int zz)] 8 [.int (bI (qin ss 0 255))]
  refine v_ifb_eq (tgt := 33) C dX10_worth_8 (by decide) (fun h8 => ?_) (fun h8 => ?_)
  · refine v_ldc2 C dX10_worth_33 wJ_X10_131 ?_
    exact v_lret C E dX10_worth_36 (nle rfl) (nle rfl) ⟨by first | (simp [aWorth, h8, h15]; done) | (simp [aWorth, h8]; done), rfl⟩
  · refine v_iload_n C dX10_worth_11 rfl ?_
    refine v_callS (As := [.int zz]) (rest := []) C (c_X10_isPart (xl X) (xg X) zz M) pm_X10_isPart wT_X10_isPart wM_X10_77 ⟨by decide, by decide⟩ ⟨by decide, by decide⟩ (nle rfl) dX10_worth_12 rfl (dt1 ?_)
    show V X (rmD 9 0 0) M 0 0 [(0, .ref md), (1, .int ss), (2, .int zz)] 15 [.int (bI (qin zz 0 1))]
    refine v_ifb_eq (tgt := 33) C dX10_worth_15 (by decide) (fun h15 => ?_) (fun h15 => ?_)
    · refine v_ldc2 C dX10_worth_33 wJ_X10_131 ?_
      exact v_lret C E dX10_worth_36 (nle rfl) (nle rfl) ⟨by first | (simp [aWorth, h8, h15]; done) | (simp [aWorth, h8]; done), rfl⟩
    · obtain ⟨s, hLs, hjs, rfl⟩ := qin_nJ (x := ss) (L := 0) (N := 255) (by decide) (by decide) h8
      obtain ⟨z, hLz, hjz, rfl⟩ := qin_nJ (x := zz) (L := 0) (N := 1) (by decide) (by decide) h15
      show V X (rmD 9 0 0) M 0 0 [(0, .ref md), (1, .int (nI s)), (2, .int (nI z))] 18 []
      refine v_aload_n C dX10_worth_18 rfl ?_
      refine v_iload_n C dX10_worth_19 rfl ?_
      refine v_callV (As := [.int (nI s)]) (rest := []) (b := md) C (c_X10_worthOf (xl X) (xg X) M md t1 t2 t3 t4 t5 t6 t7 t8 fT fD fP fC fS fU fX fF mo nT m dB nP pf cB nS sg ln tx fl hM s (by omega)) pm_X10_worthOf wI_X10_worthOf wS_X10_worthOf wM_X10_151 kX10 hO ⟨by decide, by decide⟩ ⟨by decide, by decide⟩ (nle rfl) dX10_worth_20 rfl (dt1 ?_)
      show V X (rmD 9 0 0) M 0 0 [(0, .ref md), (1, .int (nI s)), (2, .int (nI z))] 23 [.long (lN (worN fl m s nT))]
      refine v_ldc2 C dX10_worth_23 wJ_X10_149 ?_
      have hwb := worN_le fl m s nT
      rw [show (100000000 : Int64) = lN 100000000 from rfl]
      show V X (rmD 9 0 0) M 0 0 [(0, .ref md), (1, .int (nI s)), (2, .int (nI z))] 26 [.long (lN 100000000), .long (lN (worN fl m s nT))]
      refine v_iload_n C dX10_worth_26 rfl ?_
      refine v_callS (As := [.long (lN (worN fl m s nT)), .long (lN 100000000), .int (nI z)]) (rest := []) C (c_X10_term (xl X) (xg X) (worN fl m s nT) 100000000 z (by omega) (by decide) (by decide) (by omega) M) pm_X10_term wT_X10_term wM_X10_137 ⟨by decide, by decide⟩ ⟨by decide, by decide⟩ (nle rfl) dX10_worth_27 rfl (dt1 ?_)
      show V X (rmD 9 0 0) M 0 0 [(0, .ref md), (1, .int (nI s)), (2, .int (nI z))] 30 [.long (lN (frN (worN fl m s nT) 100000000 z))]
      refine v_goto (tgt := 36) C dX10_worth_30 (by decide) ?_
      exact v_lret C E dX10_worth_36 (nle rfl) (nle rfl) ⟨by simp only [aWorth, h8, h15, Bool.and_self, if_true, nI_clamp (n := s) (show s < 2 ^ 31 by omega), nI_clamp (n := z) (show z < 2 ^ 31 by omega)], rfl⟩

set_option maxHeartbeats 4000000 in
set_option maxRecDepth 100000 in
theorem c_X10_riskOf (l : Launch) (g : Gm) (M : Mem) (md : Nat) (t1 t2 t3 t4 t5 t6 t7 t8 : Nat) (fT fD fP fC fS fU fX fF : Nat → Int32) (mo : Int32) (nT : Nat) (m : Nat → Nat → Nat) (dB : Nat → Nat → Bool) (nP : Nat) (pf : Nat → Nat → Nat) (cB : Nat → Nat → Bool) (nS : Nat) (sg : Nat → Int32) (ln : Nat → Nat) (tx : Nat → Nat → Int32) (fl : Nat → Nat → Nat) (hM : ModA g M md t1 t2 t3 t4 t5 t6 t7 t8 fT fD fP fC fS fU fX fF mo nT m dB nP pf cB nS sg ln tx fl) (s : Nat) (hs : s < 256) : Ct l g yX10_riskOf cX10_riskOf 4 (some .int) 0 0 0 [.ref md, .int (nI s)] M (fun v N => v = some (.int (nI (rskN fl s 8))) ∧ N = M) := by
  refine Ct.of (by decide) (Nat.le_of_ble_eq_true rfl) ?_
  intro X hXl hXg hN C E
  subst hXl; subst hXg
  show V X (rmD 0 0 0) M 0 0 [(0, .ref md), (1, .int (nI s))] 0 []
  obtain ⟨hO, h1_, h2_, h3_, h4_, h5_, h6_, h7_, h8_, bT, bP, bS, okT_, cT, cD, okP_, cP, cC, cS, cU, bU_, cX, okX, okF_, cF⟩ := id hM
  refine v_iconst C dX10_riskOf_0 (v := 0) rfl ?_
  refine v_istore_n (lv' := [(2, .int 0), (0, .ref md), (1, .int (nI s))]) C dX10_riskOf_1 hN (by decide) rfl ?_
  refine v_iconst C dX10_riskOf_2 (v := 0) rfl ?_
  refine v_istore_n (lv' := [(3, .int 0), (2, .int 0), (0, .ref md), (1, .int (nI s))]) C dX10_riskOf_3 hN (by decide) rfl ?_
  refine v_sub (lv' := [(0, .ref md), (1, .int (nI s)), (2, .int 0), (3, .int 0)]) [2, 3, 1, 0] rfl ?_
  have lp4 : ∀ (mm : Nat) (k : Nat) (h1 : k ≤ 8), 8 - k < mm → V X (rmD 0 0 0) M 0 0 [(0, .ref md), (1, .int (nI s)), (2, .int (nI (rskN fl s k))), (3, .int (nI k))] 4 [] := by
    intro mm
    induction mm with
    | zero => intro k h1 hmu; exact absurd hmu (Nat.not_lt_zero _)
    | succ mm ih4 =>
      intro k h1 hmu
      refine v_iload_n C dX10_riskOf_4 rfl ?_
      refine v_bipush C dX10_riskOf_5 (v := 8) rfl ?_
      refine v_icmp_ge (tgt := 35) C dX10_riskOf_7 (by decide) (fun h7 => ?_) (fun h7 => ?_)
      · refine v_iload_n C dX10_riskOf_35 rfl ?_
        exact v_iret C E dX10_riskOf_36 (nle rfl) (nle rfl) ⟨by rw [show k = 8 from Nat.le_antisymm h1 (nI_leN (a := 8) (by decide) (by omega) h7)], rfl⟩
      · have g7 := nI_nleN (a := 8) (by decide) (by omega) h7
        refine v_iload_n C dX10_riskOf_10 rfl ?_
        refine v_iload_n C dX10_riskOf_11 rfl ?_
        refine v_iload_n C dX10_riskOf_12 rfl ?_
        refine v_ishr C dX10_riskOf_13 ?_
        refine v_iconst C dX10_riskOf_14 (v := 1) rfl ?_
        refine v_iand C dX10_riskOf_15 ?_
        rw [bitI hs g7]
        show V X (rmD 0 0 0) M 0 0 [(0, .ref md), (1, .int (nI s)), (2, .int (nI (rskN fl s k))), (3, .int (nI k))] 16 [.int (nI (s / 2 ^ k % 2)), .int (nI (rskN fl s k))]
        refine v_aload_n C dX10_riskOf_16 rfl ?_
        refine v_get C kX10 hO 10 (by decide) wF_X10_32 rfl dX10_riskOf_17 ?_
        refine v_iconst C dX10_riskOf_20 (v := 4) rfl ?_
        refine v_iload_n C dX10_riskOf_21 rfl ?_
        refine v_imul C dX10_riskOf_22 ?_
        refine v_iconst C dX10_riskOf_23 (v := 3) rfl ?_
        refine v_iadd C dX10_riskOf_24 ?_
        rw [show ((4 * (nI k)) + 3 : Int32) = nI (4 * k + 3) from ix_ad (ix_mu rfl rfl) rfl]
        refine v_iald C h8_ (vp_in_nI (by omega) (by decide)) dX10_riskOf_25 ?_
        rw [show fF (nI (4 * k + 3) : Int32).toNatClampNeg = nI (fl k 3) from by rw [nI_clamp (by omega)]; exact cF k (by omega) 3 (by omega)]
        refine v_imul C dX10_riskOf_26 ?_
        refine v_iadd C dX10_riskOf_27 ?_
        rw [show nI (rskN fl s k) + nI (s / 2 ^ k % 2) * nI (fl k 3) = nI (rskN fl s (k + 1)) from ix_ad rfl (ix_mu rfl rfl)]
        show V X (rmD 0 0 0) M 0 0 [(0, .ref md), (1, .int (nI s)), (2, .int (nI (rskN fl s k))), (3, .int (nI k))] 28 [.int (nI (rskN fl s (k + 1)))]
        refine v_istore_n (lv' := [(2, .int (nI (rskN fl s (k + 1)))), (0, .ref md), (1, .int (nI s)), (3, .int (nI k))]) C dX10_riskOf_28 hN (by decide) rfl ?_
        refine v_iinc (lv' := [(3, .int (nI (k + 1))), (2, .int (nI (rskN fl s (k + 1)))), (0, .ref md), (1, .int (nI s))]) C dX10_riskOf_29 3 rfl (nI_1 _) hN (by decide) rfl ?_
        refine v_goto (tgt := 4) C dX10_riskOf_32 (by decide) ?_
        refine v_sub (lv' := [(0, .ref md), (1, .int (nI s)), (2, .int (nI (rskN fl s (k + 1)))), (3, .int (nI (k + 1)))]) [2, 3, 1, 0] rfl ?_
        exact ih4 (k + 1) (by omega) (by omega)
  exact lp4 (_ + 1) 0 (Nat.zero_le _) (Nat.lt_succ_self _)

set_option maxHeartbeats 4000000 in
set_option maxRecDepth 100000 in
theorem c_X10_best (l : Launch) (g : Gm) (M : Mem) (md : Nat) (t1 t2 t3 t4 t5 t6 t7 t8 : Nat) (fT fD fP fC fS fU fX fF : Nat → Int32) (mo : Int32) (nT : Nat) (m : Nat → Nat → Nat) (dB : Nat → Nat → Bool) (nP : Nat) (pf : Nat → Nat → Nat) (cB : Nat → Nat → Bool) (nS : Nat) (sg : Nat → Int32) (ln : Nat → Nat) (tx : Nat → Nat → Int32) (fl : Nat → Nat → Nat) (hM : ModA g M md t1 t2 t3 t4 t5 t6 t7 t8 fT fD fP fC fS fU fX fF mo nT m dB nP pf cB nS sg ln tx fl) (pp zz : Int32) : Ct l g yX10_best cX10_best 8 (some .int) 9 0 0 [.ref md, .int pp, .int zz] M (fun v N => v = some (.int (aBest nT m fl pp zz)) ∧ N = M) := by
  refine Ct.of (by decide) (Nat.le_of_ble_eq_true rfl) ?_
  intro X hXl hXg hN C E
  subst hXl; subst hXg
  show V X (rmD 9 0 0) M 0 0 [(0, .ref md), (1, .int pp), (2, .int zz)] 0 []
  obtain ⟨hO, h1_, h2_, h3_, h4_, h5_, h6_, h7_, h8_, bT, bP, bS, okT_, cT, cD, okP_, cP, cC, cS, cU, bU_, cX, okX, okF_, cF⟩ := id hM
  refine v_iload_n C dX10_best_0 rfl ?_
  refine v_iconst C dX10_best_1 (v := 0) rfl ?_
  refine v_sipush C dX10_best_2 (v := 800) rfl ?_
  refine v_callS (As := [.int pp, .int 0, .int 800]) (rest := []) C (c_X10_in (xl X) (xg X) pp 0 800 M) pm_X10_in wT_X10_in wM_X10_35 ⟨by decide, by decide⟩ ⟨by decide, by decide⟩ (nle rfl) dX10_best_5 rfl (dt1 ?_)
  show V X (rmD 9 0 0) M 0 0 [(0, .ref md), (1, .int pp), (2, .int zz)] 8 [.int (bI (qin pp 0 800))]
  refine v_ifb_eq (tgt := 18) C dX10_best_8 (by decide) (fun h8 => ?_) (fun h8 => ?_)
  · refine v_bipush C dX10_best_18 (v := (-2)) rfl ?_
    exact v_iret C E dX10_best_20 (nle rfl) (nle rfl) ⟨by first | (simp [aBest, h8, h15]; done) | (simp [aBest, h8]; done), rfl⟩
  · refine v_iload_n C dX10_best_11 rfl ?_
    refine v_callS (As := [.int zz]) (rest := []) C (c_X10_isPart (xl X) (xg X) zz M) pm_X10_isPart wT_X10_isPart wM_X10_77 ⟨by decide, by decide⟩ ⟨by decide, by decide⟩ (nle rfl) dX10_best_12 rfl (dt1 ?_)
    show V X (rmD 9 0 0) M 0 0 [(0, .ref md), (1, .int pp), (2, .int zz)] 15 [.int (bI (qin zz 0 1))]
    refine v_ifb_ne (tgt := 21) C dX10_best_15 (by decide) (fun h15 => ?_) (fun h15 => ?_)
    · obtain ⟨p, hLp, hjp, rfl⟩ := qin_nJ (x := pp) (L := 0) (N := 800) (by decide) (by decide) h8
      obtain ⟨z, hLz, hjz, rfl⟩ := qin_nJ (x := zz) (L := 0) (N := 1) (by decide) (by decide) h15
      show V X (rmD 9 0 0) M 0 0 [(0, .ref md), (1, .int (nI p)), (2, .int (nI z))] 21 []
      refine v_iconst C dX10_best_21 (v := 0) rfl ?_
      refine v_istore_n (lv' := [(3, .int 0), (0, .ref md), (1, .int (nI p)), (2, .int (nI z))]) C dX10_best_22 hN (by decide) rfl ?_
      refine v_iconst C dX10_best_23 (v := 1) rfl ?_
      refine v_istore (lv' := [(4, .int 1), (3, .int 0), (0, .ref md), (1, .int (nI p)), (2, .int (nI z))]) C dX10_best_24 hN (by decide) rfl ?_
      refine v_sub (lv' := [(0, .ref md), (1, .int (nI p)), (2, .int (nI z)), (3, .int 0), (4, .int 1)]) [2, 3, 4, 1, 0] rfl ?_
      have lp26 : ∀ (mm : Nat) (n : Nat) (h1 : n ≤ 255), 255 - n < mm → V X (rmD 9 0 0) M 0 0 [(0, .ref md), (1, .int (nI p)), (2, .int (nI z)), (3, .int (nI (chsN (fun s => worN fl m s nT) (fun s => rskN fl s 8) p n))), (4, .int (nI (n + 1)))] 26 [] := by
        intro mm
        induction mm with
        | zero => intro n h1 hmu; exact absurd hmu (Nat.not_lt_zero _)
        | succ mm ih26 =>
          intro n h1 hmu
          have hcl := chsN_le (fun s => worN fl m s nT) (fun s => rskN fl s 8) p n
          refine v_iload C dX10_best_26 rfl ?_
          refine v_sipush C dX10_best_28 (v := 256) rfl ?_
          refine v_icmp_ge (tgt := 111) C dX10_best_31 (by decide) (fun h31 => ?_) (fun h31 => ?_)
          · refine v_iload_n C dX10_best_111 rfl ?_
            refine v_if_ne (tgt := 119) C dX10_best_112 (by decide) (fun h112 => ?_) (fun h112 => ?_)
            · refine v_aload_n C dX10_best_119 rfl ?_
              refine v_iload_n C dX10_best_120 rfl ?_
              refine v_callV (As := [.int (nI (chsN (fun s => worN fl m s nT) (fun s => rskN fl s 8) p n))]) (rest := []) (b := md) C (c_X10_riskOf (xl X) (xg X) M md t1 t2 t3 t4 t5 t6 t7 t8 fT fD fP fC fS fU fX fF mo nT m dB nP pf cB nS sg ln tx fl hM ((chsN (fun s => worN fl m s nT) (fun s => rskN fl s 8) p n)) (by omega)) pm_X10_riskOf wI_X10_riskOf wS_X10_riskOf wM_X10_155 kX10 hO ⟨by decide, by decide⟩ ⟨by decide, by decide⟩ (nle rfl) dX10_best_121 rfl (dt1 ?_)
              show V X (rmD 9 0 0) M 0 0 [(0, .ref md), (1, .int (nI p)), (2, .int (nI z)), (3, .int (nI (chsN (fun s => worN fl m s nT) (fun s => rskN fl s 8) p n))), (4, .int (nI (n + 1)))] 124 [.int (nI (rskN fl ((chsN (fun s => worN fl m s nT) (fun s => rskN fl s 8) p n)) 8))]
              exact v_iret C E dX10_best_124 (nle rfl) (nle rfl) ⟨by simp only [aBest, bestN, h8, h15, Bool.and_self, if_true, nI_clamp (n := p) (show p < 2 ^ 31 by omega)]; rw [← show n = 255 by have := nI_leN (a := 256) (by decide) (by omega) h31; omega, if_neg h112], rfl⟩
            · refine v_iload_n C dX10_best_115 rfl ?_
              refine v_goto (tgt := 124) C dX10_best_116 (by decide) ?_
              exact v_iret C E dX10_best_124 (nle rfl) (nle rfl) ⟨by simp only [aBest, bestN, h8, h15, Bool.and_self, if_true, nI_clamp (n := p) (show p < 2 ^ 31 by omega)]; rw [← show n = 255 by have := nI_leN (a := 256) (by decide) (by omega) h31; omega, if_pos h112], rfl⟩
          · have g31 := nI_nleN (a := 256) (by decide) (by omega) h31
            have w1 := worN_le fl m (n + 1) nT
            have w2 := worN_le fl m (chsN (fun s => worN fl m s nT) (fun s => rskN fl s 8) p n) nT
            have r1 := rskN_le okF_ (s := n + 1) (Nat.le_refl 8)
            have r2 := rskN_le okF_ (s := chsN (fun s => worN fl m s nT) (fun s => rskN fl s 8) p n) (Nat.le_refl 8)
            refine v_aload_n C dX10_best_34 rfl ?_
            refine v_iload C dX10_best_35 rfl ?_
            refine v_callV (As := [.int (nI (n + 1))]) (rest := []) (b := md) C (c_X10_worthOf (xl X) (xg X) M md t1 t2 t3 t4 t5 t6 t7 t8 fT fD fP fC fS fU fX fF mo nT m dB nP pf cB nS sg ln tx fl hM ((n + 1)) (by omega)) pm_X10_worthOf wI_X10_worthOf wS_X10_worthOf wM_X10_151 kX10 hO ⟨by decide, by decide⟩ ⟨by decide, by decide⟩ (nle rfl) dX10_best_37 rfl (dt1 ?_)
            show V X (rmD 9 0 0) M 0 0 [(0, .ref md), (1, .int (nI p)), (2, .int (nI z)), (3, .int (nI (chsN (fun s => worN fl m s nT) (fun s => rskN fl s 8) p n))), (4, .int (nI (n + 1)))] 40 [.long (lN (worN fl m ((n + 1)) nT))]
            refine v_aload_n C dX10_best_40 rfl ?_
            refine v_iload_n C dX10_best_41 rfl ?_
            refine v_callV (As := [.int (nI (chsN (fun s => worN fl m s nT) (fun s => rskN fl s 8) p n))]) (rest := [.long (lN (worN fl m ((n + 1)) nT))]) (b := md) C (c_X10_worthOf (xl X) (xg X) M md t1 t2 t3 t4 t5 t6 t7 t8 fT fD fP fC fS fU fX fF mo nT m dB nP pf cB nS sg ln tx fl hM ((chsN (fun s => worN fl m s nT) (fun s => rskN fl s 8) p n)) (by omega)) pm_X10_worthOf wI_X10_worthOf wS_X10_worthOf wM_X10_151 kX10 hO ⟨by decide, by decide⟩ ⟨by decide, by decide⟩ (nle rfl) dX10_best_42 rfl (dt1 ?_)
            show V X (rmD 9 0 0) M 0 0 [(0, .ref md), (1, .int (nI p)), (2, .int (nI z)), (3, .int (nI (chsN (fun s => worN fl m s nT) (fun s => rskN fl s 8) p n))), (4, .int (nI (n + 1)))] 45 [.long (lN (worN fl m ((chsN (fun s => worN fl m s nT) (fun s => rskN fl s 8) p n)) nT)), .long (lN (worN fl m ((n + 1)) nT))]
            refine v_lsub C dX10_best_45 ?_
            refine v_lstore (lv' := [(5, .long ((lN (worN fl m ((n + 1)) nT)) - (lN (worN fl m ((chsN (fun s => worN fl m s nT) (fun s => rskN fl s 8) p n)) nT)))), (0, .ref md), (1, .int (nI p)), (2, .int (nI z)), (3, .int (nI (chsN (fun s => worN fl m s nT) (fun s => rskN fl s 8) p n))), (4, .int (nI (n + 1)))]) C dX10_best_46 hN (by decide) rfl ?_
            refine v_lload C dX10_best_48 rfl ?_
            refine v_lconst C dX10_best_50 (v := 0) rfl ?_
            refine v_lcmp C dX10_best_51 ?_
            refine v_if_gt (tgt := 76) C dX10_best_52 (by decide) (fun h52 => ?_) (fun h52 => ?_)
            · refine v_iconst C dX10_best_76 (v := 1) rfl ?_
              refine v_goto (tgt := 81) C dX10_best_77 (by decide) ?_
              have g7 : worN fl m (chsN (fun s => worN fl m s nT) (fun s => rskN fl s 8) p n) nT < worN fl m (n + 1) nT ∨ (worN fl m (n + 1) nT = worN fl m (chsN (fun s => worN fl m s nT) (fun s => rskN fl s 8) p n) nT ∧ rskN fl (n + 1) 8 < rskN fl (chsN (fun s => worN fl m s nT) (fun s => rskN fl s 8) p n) 8) := Or.inl ((lN_gain (by omega) (by omega)).1.mp ((lg_cmp_gt _ _).mp h52))
              refine v_istore (lv' := [(7, .int 1), (5, .long ((lN (worN fl m ((n + 1)) nT)) - (lN (worN fl m ((chsN (fun s => worN fl m s nT) (fun s => rskN fl s 8) p n)) nT)))), (0, .ref md), (1, .int (nI p)), (2, .int (nI z)), (3, .int (nI (chsN (fun s => worN fl m s nT) (fun s => rskN fl s 8) p n))), (4, .int (nI (n + 1)))]) C dX10_best_81 hN (by decide) rfl ?_
              refine v_aload_n C dX10_best_83 rfl ?_
              refine v_iload C dX10_best_84 rfl ?_
              refine v_callV (As := [.int (nI (n + 1))]) (rest := []) (b := md) C (c_X10_riskOf (xl X) (xg X) M md t1 t2 t3 t4 t5 t6 t7 t8 fT fD fP fC fS fU fX fF mo nT m dB nP pf cB nS sg ln tx fl hM ((n + 1)) (by omega)) pm_X10_riskOf wI_X10_riskOf wS_X10_riskOf wM_X10_155 kX10 hO ⟨by decide, by decide⟩ ⟨by decide, by decide⟩ (nle rfl) dX10_best_86 rfl (dt1 ?_)
              show V X (rmD 9 0 0) M 0 0 [(7, .int 1), (5, .long ((lN (worN fl m ((n + 1)) nT)) - (lN (worN fl m ((chsN (fun s => worN fl m s nT) (fun s => rskN fl s 8) p n)) nT)))), (0, .ref md), (1, .int (nI p)), (2, .int (nI z)), (3, .int (nI (chsN (fun s => worN fl m s nT) (fun s => rskN fl s 8) p n))), (4, .int (nI (n + 1)))] 89 [.int (nI (rskN fl ((n + 1)) 8))]
              refine v_iload_n C dX10_best_89 rfl ?_
              refine v_icmp_gt (tgt := 103) C dX10_best_90 (by decide) (fun h90 => ?_) (fun h90 => ?_)
              · have g90 : ¬ rskN fl (n + 1) 8 ≤ p := Nat.not_le.mpr (nI_ltN (by omega) (by omega) h90)
                refine v_iload_n C dX10_best_103 rfl ?_
                refine v_istore_n (lv' := [(3, .int (nI (chsN (fun s => worN fl m s nT) (fun s => rskN fl s 8) p n))), (7, .int 1), (5, .long ((lN (worN fl m ((n + 1)) nT)) - (lN (worN fl m ((chsN (fun s => worN fl m s nT) (fun s => rskN fl s 8) p n)) nT)))), (0, .ref md), (1, .int (nI p)), (2, .int (nI z)), (4, .int (nI (n + 1)))]) C dX10_best_104 hN (by decide) rfl ?_
                refine v_iinc (lv' := [(4, .int (nI ((n + 1) + 1))), (3, .int (nI (chsN (fun s => worN fl m s nT) (fun s => rskN fl s 8) p n))), (7, .int 1), (5, .long ((lN (worN fl m ((n + 1)) nT)) - (lN (worN fl m ((chsN (fun s => worN fl m s nT) (fun s => rskN fl s 8) p n)) nT)))), (0, .ref md), (1, .int (nI p)), (2, .int (nI z))]) C dX10_best_105 6 rfl (nI_1 _) hN (by decide) rfl ?_
                refine v_goto (tgt := 26) C dX10_best_108 (by decide) ?_
                refine v_sub (lv' := [(0, .ref md), (1, .int (nI p)), (2, .int (nI z)), (3, .int (nI (chsN (fun s => worN fl m s nT) (fun s => rskN fl s 8) p n))), (4, .int (nI ((n + 1) + 1)))]) [4, 5, 6, 1, 0] rfl ?_
                have hnx : chsN (fun s => worN fl m s nT) (fun s => rskN fl s 8) p (n + 1) = chsN (fun s => worN fl m s nT) (fun s => rskN fl s 8) p n := if_neg (fun z => absurd z.1 g90)
                have e26 := ih26 (n + 1) (by omega) (by omega)
                rw [hnx] at e26
                exact e26
              · have g90 : rskN fl (n + 1) 8 ≤ p := nI_nltN (by omega) (by omega) h90
                refine v_iload C dX10_best_93 rfl ?_
                refine v_if_eq (tgt := 103) C dX10_best_95 (by decide) (fun hbad => absurd hbad (by decide)) (fun h95 => ?_)
                refine v_iload C dX10_best_98 rfl ?_
                refine v_goto (tgt := 104) C dX10_best_100 (by decide) ?_
                refine v_istore_n (lv' := [(3, .int (nI (n + 1))), (7, .int 1), (5, .long ((lN (worN fl m ((n + 1)) nT)) - (lN (worN fl m ((chsN (fun s => worN fl m s nT) (fun s => rskN fl s 8) p n)) nT)))), (0, .ref md), (1, .int (nI p)), (2, .int (nI z)), (4, .int (nI (n + 1)))]) C dX10_best_104 hN (by decide) rfl ?_
                refine v_iinc (lv' := [(4, .int (nI ((n + 1) + 1))), (3, .int (nI (n + 1))), (7, .int 1), (5, .long ((lN (worN fl m ((n + 1)) nT)) - (lN (worN fl m ((chsN (fun s => worN fl m s nT) (fun s => rskN fl s 8) p n)) nT)))), (0, .ref md), (1, .int (nI p)), (2, .int (nI z))]) C dX10_best_105 6 rfl (nI_1 _) hN (by decide) rfl ?_
                refine v_goto (tgt := 26) C dX10_best_108 (by decide) ?_
                refine v_sub (lv' := [(0, .ref md), (1, .int (nI p)), (2, .int (nI z)), (3, .int (nI (n + 1))), (4, .int (nI ((n + 1) + 1)))]) [4, 5, 6, 1, 0] rfl ?_
                have hnx : chsN (fun s => worN fl m s nT) (fun s => rskN fl s 8) p (n + 1) = n + 1 := if_pos ⟨g90, g7⟩
                have e26 := ih26 (n + 1) (by omega) (by omega)
                rw [hnx] at e26
                exact e26
            · refine v_lload C dX10_best_55 rfl ?_
              refine v_lconst C dX10_best_57 (v := 0) rfl ?_
              refine v_lcmp C dX10_best_58 ?_
              refine v_if_ne (tgt := 80) C dX10_best_59 (by decide) (fun h59 => ?_) (fun h59 => ?_)
              · refine v_iconst C dX10_best_80 (v := 0) rfl ?_
                have g7 : ¬ (worN fl m (chsN (fun s => worN fl m s nT) (fun s => rskN fl s 8) p n) nT < worN fl m (n + 1) nT ∨ (worN fl m (n + 1) nT = worN fl m (chsN (fun s => worN fl m s nT) (fun s => rskN fl s 8) p n) nT ∧ rskN fl (n + 1) 8 < rskN fl (chsN (fun s => worN fl m s nT) (fun s => rskN fl s 8) p n) 8)) := fun z => z.elim (fun y => h52 ((lg_cmp_gt _ _).mpr ((lN_gain (by omega) (by omega)).1.mpr y))) (fun y => h59 ((lg_cmp_eq _ _).mpr ((lN_gain (by omega) (by omega)).2.mpr y.1)))
                refine v_istore (lv' := [(7, .int 0), (5, .long ((lN (worN fl m ((n + 1)) nT)) - (lN (worN fl m ((chsN (fun s => worN fl m s nT) (fun s => rskN fl s 8) p n)) nT)))), (0, .ref md), (1, .int (nI p)), (2, .int (nI z)), (3, .int (nI (chsN (fun s => worN fl m s nT) (fun s => rskN fl s 8) p n))), (4, .int (nI (n + 1)))]) C dX10_best_81 hN (by decide) rfl ?_
                refine v_aload_n C dX10_best_83 rfl ?_
                refine v_iload C dX10_best_84 rfl ?_
                refine v_callV (As := [.int (nI (n + 1))]) (rest := []) (b := md) C (c_X10_riskOf (xl X) (xg X) M md t1 t2 t3 t4 t5 t6 t7 t8 fT fD fP fC fS fU fX fF mo nT m dB nP pf cB nS sg ln tx fl hM ((n + 1)) (by omega)) pm_X10_riskOf wI_X10_riskOf wS_X10_riskOf wM_X10_155 kX10 hO ⟨by decide, by decide⟩ ⟨by decide, by decide⟩ (nle rfl) dX10_best_86 rfl (dt1 ?_)
                show V X (rmD 9 0 0) M 0 0 [(7, .int 0), (5, .long ((lN (worN fl m ((n + 1)) nT)) - (lN (worN fl m ((chsN (fun s => worN fl m s nT) (fun s => rskN fl s 8) p n)) nT)))), (0, .ref md), (1, .int (nI p)), (2, .int (nI z)), (3, .int (nI (chsN (fun s => worN fl m s nT) (fun s => rskN fl s 8) p n))), (4, .int (nI (n + 1)))] 89 [.int (nI (rskN fl ((n + 1)) 8))]
                refine v_iload_n C dX10_best_89 rfl ?_
                refine v_icmp_gt (tgt := 103) C dX10_best_90 (by decide) (fun h90 => ?_) (fun h90 => ?_)
                · have g90 : ¬ rskN fl (n + 1) 8 ≤ p := Nat.not_le.mpr (nI_ltN (by omega) (by omega) h90)
                  refine v_iload_n C dX10_best_103 rfl ?_
                  refine v_istore_n (lv' := [(3, .int (nI (chsN (fun s => worN fl m s nT) (fun s => rskN fl s 8) p n))), (7, .int 0), (5, .long ((lN (worN fl m ((n + 1)) nT)) - (lN (worN fl m ((chsN (fun s => worN fl m s nT) (fun s => rskN fl s 8) p n)) nT)))), (0, .ref md), (1, .int (nI p)), (2, .int (nI z)), (4, .int (nI (n + 1)))]) C dX10_best_104 hN (by decide) rfl ?_
                  refine v_iinc (lv' := [(4, .int (nI ((n + 1) + 1))), (3, .int (nI (chsN (fun s => worN fl m s nT) (fun s => rskN fl s 8) p n))), (7, .int 0), (5, .long ((lN (worN fl m ((n + 1)) nT)) - (lN (worN fl m ((chsN (fun s => worN fl m s nT) (fun s => rskN fl s 8) p n)) nT)))), (0, .ref md), (1, .int (nI p)), (2, .int (nI z))]) C dX10_best_105 6 rfl (nI_1 _) hN (by decide) rfl ?_
                  refine v_goto (tgt := 26) C dX10_best_108 (by decide) ?_
                  refine v_sub (lv' := [(0, .ref md), (1, .int (nI p)), (2, .int (nI z)), (3, .int (nI (chsN (fun s => worN fl m s nT) (fun s => rskN fl s 8) p n))), (4, .int (nI ((n + 1) + 1)))]) [4, 5, 6, 1, 0] rfl ?_
                  have hnx : chsN (fun s => worN fl m s nT) (fun s => rskN fl s 8) p (n + 1) = chsN (fun s => worN fl m s nT) (fun s => rskN fl s 8) p n := if_neg (fun z => absurd z.1 g90)
                  have e26 := ih26 (n + 1) (by omega) (by omega)
                  rw [hnx] at e26
                  exact e26
                · have g90 : rskN fl (n + 1) 8 ≤ p := nI_nltN (by omega) (by omega) h90
                  refine v_iload C dX10_best_93 rfl ?_
                  refine v_if_eq (tgt := 103) C dX10_best_95 (by decide) (fun h95 => ?_) (fun hbad => absurd hbad (by decide))
                  refine v_iload_n C dX10_best_103 rfl ?_
                  refine v_istore_n (lv' := [(3, .int (nI (chsN (fun s => worN fl m s nT) (fun s => rskN fl s 8) p n))), (7, .int 0), (5, .long ((lN (worN fl m ((n + 1)) nT)) - (lN (worN fl m ((chsN (fun s => worN fl m s nT) (fun s => rskN fl s 8) p n)) nT)))), (0, .ref md), (1, .int (nI p)), (2, .int (nI z)), (4, .int (nI (n + 1)))]) C dX10_best_104 hN (by decide) rfl ?_
                  refine v_iinc (lv' := [(4, .int (nI ((n + 1) + 1))), (3, .int (nI (chsN (fun s => worN fl m s nT) (fun s => rskN fl s 8) p n))), (7, .int 0), (5, .long ((lN (worN fl m ((n + 1)) nT)) - (lN (worN fl m ((chsN (fun s => worN fl m s nT) (fun s => rskN fl s 8) p n)) nT)))), (0, .ref md), (1, .int (nI p)), (2, .int (nI z))]) C dX10_best_105 6 rfl (nI_1 _) hN (by decide) rfl ?_
                  refine v_goto (tgt := 26) C dX10_best_108 (by decide) ?_
                  refine v_sub (lv' := [(0, .ref md), (1, .int (nI p)), (2, .int (nI z)), (3, .int (nI (chsN (fun s => worN fl m s nT) (fun s => rskN fl s 8) p n))), (4, .int (nI ((n + 1) + 1)))]) [4, 5, 6, 1, 0] rfl ?_
                  have hnx : chsN (fun s => worN fl m s nT) (fun s => rskN fl s 8) p (n + 1) = chsN (fun s => worN fl m s nT) (fun s => rskN fl s 8) p n := if_neg (fun z => g7 z.2)
                  have e26 := ih26 (n + 1) (by omega) (by omega)
                  rw [hnx] at e26
                  exact e26
              · refine v_aload_n C dX10_best_62 rfl ?_
                refine v_iload C dX10_best_63 rfl ?_
                refine v_callV (As := [.int (nI (n + 1))]) (rest := []) (b := md) C (c_X10_riskOf (xl X) (xg X) M md t1 t2 t3 t4 t5 t6 t7 t8 fT fD fP fC fS fU fX fF mo nT m dB nP pf cB nS sg ln tx fl hM ((n + 1)) (by omega)) pm_X10_riskOf wI_X10_riskOf wS_X10_riskOf wM_X10_155 kX10 hO ⟨by decide, by decide⟩ ⟨by decide, by decide⟩ (nle rfl) dX10_best_65 rfl (dt1 ?_)
                show V X (rmD 9 0 0) M 0 0 [(5, .long ((lN (worN fl m ((n + 1)) nT)) - (lN (worN fl m ((chsN (fun s => worN fl m s nT) (fun s => rskN fl s 8) p n)) nT)))), (0, .ref md), (1, .int (nI p)), (2, .int (nI z)), (3, .int (nI (chsN (fun s => worN fl m s nT) (fun s => rskN fl s 8) p n))), (4, .int (nI (n + 1)))] 68 [.int (nI (rskN fl ((n + 1)) 8))]
                refine v_aload_n C dX10_best_68 rfl ?_
                refine v_iload_n C dX10_best_69 rfl ?_
                refine v_callV (As := [.int (nI (chsN (fun s => worN fl m s nT) (fun s => rskN fl s 8) p n))]) (rest := [.int (nI (rskN fl ((n + 1)) 8))]) (b := md) C (c_X10_riskOf (xl X) (xg X) M md t1 t2 t3 t4 t5 t6 t7 t8 fT fD fP fC fS fU fX fF mo nT m dB nP pf cB nS sg ln tx fl hM ((chsN (fun s => worN fl m s nT) (fun s => rskN fl s 8) p n)) (by omega)) pm_X10_riskOf wI_X10_riskOf wS_X10_riskOf wM_X10_155 kX10 hO ⟨by decide, by decide⟩ ⟨by decide, by decide⟩ (nle rfl) dX10_best_70 rfl (dt1 ?_)
                show V X (rmD 9 0 0) M 0 0 [(5, .long ((lN (worN fl m ((n + 1)) nT)) - (lN (worN fl m ((chsN (fun s => worN fl m s nT) (fun s => rskN fl s 8) p n)) nT)))), (0, .ref md), (1, .int (nI p)), (2, .int (nI z)), (3, .int (nI (chsN (fun s => worN fl m s nT) (fun s => rskN fl s 8) p n))), (4, .int (nI (n + 1)))] 73 [.int (nI (rskN fl ((chsN (fun s => worN fl m s nT) (fun s => rskN fl s 8) p n)) 8)), .int (nI (rskN fl ((n + 1)) 8))]
                refine v_icmp_ge (tgt := 80) C dX10_best_73 (by decide) (fun h73 => ?_) (fun h73 => ?_)
                · refine v_iconst C dX10_best_80 (v := 0) rfl ?_
                  have g7 : ¬ (worN fl m (chsN (fun s => worN fl m s nT) (fun s => rskN fl s 8) p n) nT < worN fl m (n + 1) nT ∨ (worN fl m (n + 1) nT = worN fl m (chsN (fun s => worN fl m s nT) (fun s => rskN fl s 8) p n) nT ∧ rskN fl (n + 1) 8 < rskN fl (chsN (fun s => worN fl m s nT) (fun s => rskN fl s 8) p n) 8)) := fun z => z.elim (fun y => h52 ((lg_cmp_gt _ _).mpr ((lN_gain (by omega) (by omega)).1.mpr y))) (fun y => absurd (nI_leN (by omega) (by omega) h73) (Nat.not_le.mpr y.2))
                  refine v_istore (lv' := [(7, .int 0), (5, .long ((lN (worN fl m ((n + 1)) nT)) - (lN (worN fl m ((chsN (fun s => worN fl m s nT) (fun s => rskN fl s 8) p n)) nT)))), (0, .ref md), (1, .int (nI p)), (2, .int (nI z)), (3, .int (nI (chsN (fun s => worN fl m s nT) (fun s => rskN fl s 8) p n))), (4, .int (nI (n + 1)))]) C dX10_best_81 hN (by decide) rfl ?_
                  refine v_aload_n C dX10_best_83 rfl ?_
                  refine v_iload C dX10_best_84 rfl ?_
                  refine v_callV (As := [.int (nI (n + 1))]) (rest := []) (b := md) C (c_X10_riskOf (xl X) (xg X) M md t1 t2 t3 t4 t5 t6 t7 t8 fT fD fP fC fS fU fX fF mo nT m dB nP pf cB nS sg ln tx fl hM ((n + 1)) (by omega)) pm_X10_riskOf wI_X10_riskOf wS_X10_riskOf wM_X10_155 kX10 hO ⟨by decide, by decide⟩ ⟨by decide, by decide⟩ (nle rfl) dX10_best_86 rfl (dt1 ?_)
                  show V X (rmD 9 0 0) M 0 0 [(7, .int 0), (5, .long ((lN (worN fl m ((n + 1)) nT)) - (lN (worN fl m ((chsN (fun s => worN fl m s nT) (fun s => rskN fl s 8) p n)) nT)))), (0, .ref md), (1, .int (nI p)), (2, .int (nI z)), (3, .int (nI (chsN (fun s => worN fl m s nT) (fun s => rskN fl s 8) p n))), (4, .int (nI (n + 1)))] 89 [.int (nI (rskN fl ((n + 1)) 8))]
                  refine v_iload_n C dX10_best_89 rfl ?_
                  refine v_icmp_gt (tgt := 103) C dX10_best_90 (by decide) (fun h90 => ?_) (fun h90 => ?_)
                  · have g90 : ¬ rskN fl (n + 1) 8 ≤ p := Nat.not_le.mpr (nI_ltN (by omega) (by omega) h90)
                    refine v_iload_n C dX10_best_103 rfl ?_
                    refine v_istore_n (lv' := [(3, .int (nI (chsN (fun s => worN fl m s nT) (fun s => rskN fl s 8) p n))), (7, .int 0), (5, .long ((lN (worN fl m ((n + 1)) nT)) - (lN (worN fl m ((chsN (fun s => worN fl m s nT) (fun s => rskN fl s 8) p n)) nT)))), (0, .ref md), (1, .int (nI p)), (2, .int (nI z)), (4, .int (nI (n + 1)))]) C dX10_best_104 hN (by decide) rfl ?_
                    refine v_iinc (lv' := [(4, .int (nI ((n + 1) + 1))), (3, .int (nI (chsN (fun s => worN fl m s nT) (fun s => rskN fl s 8) p n))), (7, .int 0), (5, .long ((lN (worN fl m ((n + 1)) nT)) - (lN (worN fl m ((chsN (fun s => worN fl m s nT) (fun s => rskN fl s 8) p n)) nT)))), (0, .ref md), (1, .int (nI p)), (2, .int (nI z))]) C dX10_best_105 6 rfl (nI_1 _) hN (by decide) rfl ?_
                    refine v_goto (tgt := 26) C dX10_best_108 (by decide) ?_
                    refine v_sub (lv' := [(0, .ref md), (1, .int (nI p)), (2, .int (nI z)), (3, .int (nI (chsN (fun s => worN fl m s nT) (fun s => rskN fl s 8) p n))), (4, .int (nI ((n + 1) + 1)))]) [4, 5, 6, 1, 0] rfl ?_
                    have hnx : chsN (fun s => worN fl m s nT) (fun s => rskN fl s 8) p (n + 1) = chsN (fun s => worN fl m s nT) (fun s => rskN fl s 8) p n := if_neg (fun z => absurd z.1 g90)
                    have e26 := ih26 (n + 1) (by omega) (by omega)
                    rw [hnx] at e26
                    exact e26
                  · have g90 : rskN fl (n + 1) 8 ≤ p := nI_nltN (by omega) (by omega) h90
                    refine v_iload C dX10_best_93 rfl ?_
                    refine v_if_eq (tgt := 103) C dX10_best_95 (by decide) (fun h95 => ?_) (fun hbad => absurd hbad (by decide))
                    refine v_iload_n C dX10_best_103 rfl ?_
                    refine v_istore_n (lv' := [(3, .int (nI (chsN (fun s => worN fl m s nT) (fun s => rskN fl s 8) p n))), (7, .int 0), (5, .long ((lN (worN fl m ((n + 1)) nT)) - (lN (worN fl m ((chsN (fun s => worN fl m s nT) (fun s => rskN fl s 8) p n)) nT)))), (0, .ref md), (1, .int (nI p)), (2, .int (nI z)), (4, .int (nI (n + 1)))]) C dX10_best_104 hN (by decide) rfl ?_
                    refine v_iinc (lv' := [(4, .int (nI ((n + 1) + 1))), (3, .int (nI (chsN (fun s => worN fl m s nT) (fun s => rskN fl s 8) p n))), (7, .int 0), (5, .long ((lN (worN fl m ((n + 1)) nT)) - (lN (worN fl m ((chsN (fun s => worN fl m s nT) (fun s => rskN fl s 8) p n)) nT)))), (0, .ref md), (1, .int (nI p)), (2, .int (nI z))]) C dX10_best_105 6 rfl (nI_1 _) hN (by decide) rfl ?_
                    refine v_goto (tgt := 26) C dX10_best_108 (by decide) ?_
                    refine v_sub (lv' := [(0, .ref md), (1, .int (nI p)), (2, .int (nI z)), (3, .int (nI (chsN (fun s => worN fl m s nT) (fun s => rskN fl s 8) p n))), (4, .int (nI ((n + 1) + 1)))]) [4, 5, 6, 1, 0] rfl ?_
                    have hnx : chsN (fun s => worN fl m s nT) (fun s => rskN fl s 8) p (n + 1) = chsN (fun s => worN fl m s nT) (fun s => rskN fl s 8) p n := if_neg (fun z => g7 z.2)
                    have e26 := ih26 (n + 1) (by omega) (by omega)
                    rw [hnx] at e26
                    exact e26
                · refine v_iconst C dX10_best_76 (v := 1) rfl ?_
                  refine v_goto (tgt := 81) C dX10_best_77 (by decide) ?_
                  have g7 : worN fl m (chsN (fun s => worN fl m s nT) (fun s => rskN fl s 8) p n) nT < worN fl m (n + 1) nT ∨ (worN fl m (n + 1) nT = worN fl m (chsN (fun s => worN fl m s nT) (fun s => rskN fl s 8) p n) nT ∧ rskN fl (n + 1) 8 < rskN fl (chsN (fun s => worN fl m s nT) (fun s => rskN fl s 8) p n) 8) := Or.inr ⟨(lN_gain (by omega) (by omega)).2.mp ((lg_cmp_eq _ _).mp h59), nI_nleN (by omega) (by omega) h73⟩
                  refine v_istore (lv' := [(7, .int 1), (5, .long ((lN (worN fl m ((n + 1)) nT)) - (lN (worN fl m ((chsN (fun s => worN fl m s nT) (fun s => rskN fl s 8) p n)) nT)))), (0, .ref md), (1, .int (nI p)), (2, .int (nI z)), (3, .int (nI (chsN (fun s => worN fl m s nT) (fun s => rskN fl s 8) p n))), (4, .int (nI (n + 1)))]) C dX10_best_81 hN (by decide) rfl ?_
                  refine v_aload_n C dX10_best_83 rfl ?_
                  refine v_iload C dX10_best_84 rfl ?_
                  refine v_callV (As := [.int (nI (n + 1))]) (rest := []) (b := md) C (c_X10_riskOf (xl X) (xg X) M md t1 t2 t3 t4 t5 t6 t7 t8 fT fD fP fC fS fU fX fF mo nT m dB nP pf cB nS sg ln tx fl hM ((n + 1)) (by omega)) pm_X10_riskOf wI_X10_riskOf wS_X10_riskOf wM_X10_155 kX10 hO ⟨by decide, by decide⟩ ⟨by decide, by decide⟩ (nle rfl) dX10_best_86 rfl (dt1 ?_)
                  show V X (rmD 9 0 0) M 0 0 [(7, .int 1), (5, .long ((lN (worN fl m ((n + 1)) nT)) - (lN (worN fl m ((chsN (fun s => worN fl m s nT) (fun s => rskN fl s 8) p n)) nT)))), (0, .ref md), (1, .int (nI p)), (2, .int (nI z)), (3, .int (nI (chsN (fun s => worN fl m s nT) (fun s => rskN fl s 8) p n))), (4, .int (nI (n + 1)))] 89 [.int (nI (rskN fl ((n + 1)) 8))]
                  refine v_iload_n C dX10_best_89 rfl ?_
                  refine v_icmp_gt (tgt := 103) C dX10_best_90 (by decide) (fun h90 => ?_) (fun h90 => ?_)
                  · have g90 : ¬ rskN fl (n + 1) 8 ≤ p := Nat.not_le.mpr (nI_ltN (by omega) (by omega) h90)
                    refine v_iload_n C dX10_best_103 rfl ?_
                    refine v_istore_n (lv' := [(3, .int (nI (chsN (fun s => worN fl m s nT) (fun s => rskN fl s 8) p n))), (7, .int 1), (5, .long ((lN (worN fl m ((n + 1)) nT)) - (lN (worN fl m ((chsN (fun s => worN fl m s nT) (fun s => rskN fl s 8) p n)) nT)))), (0, .ref md), (1, .int (nI p)), (2, .int (nI z)), (4, .int (nI (n + 1)))]) C dX10_best_104 hN (by decide) rfl ?_
                    refine v_iinc (lv' := [(4, .int (nI ((n + 1) + 1))), (3, .int (nI (chsN (fun s => worN fl m s nT) (fun s => rskN fl s 8) p n))), (7, .int 1), (5, .long ((lN (worN fl m ((n + 1)) nT)) - (lN (worN fl m ((chsN (fun s => worN fl m s nT) (fun s => rskN fl s 8) p n)) nT)))), (0, .ref md), (1, .int (nI p)), (2, .int (nI z))]) C dX10_best_105 6 rfl (nI_1 _) hN (by decide) rfl ?_
                    refine v_goto (tgt := 26) C dX10_best_108 (by decide) ?_
                    refine v_sub (lv' := [(0, .ref md), (1, .int (nI p)), (2, .int (nI z)), (3, .int (nI (chsN (fun s => worN fl m s nT) (fun s => rskN fl s 8) p n))), (4, .int (nI ((n + 1) + 1)))]) [4, 5, 6, 1, 0] rfl ?_
                    have hnx : chsN (fun s => worN fl m s nT) (fun s => rskN fl s 8) p (n + 1) = chsN (fun s => worN fl m s nT) (fun s => rskN fl s 8) p n := if_neg (fun z => absurd z.1 g90)
                    have e26 := ih26 (n + 1) (by omega) (by omega)
                    rw [hnx] at e26
                    exact e26
                  · have g90 : rskN fl (n + 1) 8 ≤ p := nI_nltN (by omega) (by omega) h90
                    refine v_iload C dX10_best_93 rfl ?_
                    refine v_if_eq (tgt := 103) C dX10_best_95 (by decide) (fun hbad => absurd hbad (by decide)) (fun h95 => ?_)
                    refine v_iload C dX10_best_98 rfl ?_
                    refine v_goto (tgt := 104) C dX10_best_100 (by decide) ?_
                    refine v_istore_n (lv' := [(3, .int (nI (n + 1))), (7, .int 1), (5, .long ((lN (worN fl m ((n + 1)) nT)) - (lN (worN fl m ((chsN (fun s => worN fl m s nT) (fun s => rskN fl s 8) p n)) nT)))), (0, .ref md), (1, .int (nI p)), (2, .int (nI z)), (4, .int (nI (n + 1)))]) C dX10_best_104 hN (by decide) rfl ?_
                    refine v_iinc (lv' := [(4, .int (nI ((n + 1) + 1))), (3, .int (nI (n + 1))), (7, .int 1), (5, .long ((lN (worN fl m ((n + 1)) nT)) - (lN (worN fl m ((chsN (fun s => worN fl m s nT) (fun s => rskN fl s 8) p n)) nT)))), (0, .ref md), (1, .int (nI p)), (2, .int (nI z))]) C dX10_best_105 6 rfl (nI_1 _) hN (by decide) rfl ?_
                    refine v_goto (tgt := 26) C dX10_best_108 (by decide) ?_
                    refine v_sub (lv' := [(0, .ref md), (1, .int (nI p)), (2, .int (nI z)), (3, .int (nI (n + 1))), (4, .int (nI ((n + 1) + 1)))]) [4, 5, 6, 1, 0] rfl ?_
                    have hnx : chsN (fun s => worN fl m s nT) (fun s => rskN fl s 8) p (n + 1) = n + 1 := if_pos ⟨g90, g7⟩
                    have e26 := ih26 (n + 1) (by omega) (by omega)
                    rw [hnx] at e26
                    exact e26
      exact lp26 (_ + 1) 0 (Nat.zero_le _) (Nat.lt_succ_self _)
    · refine v_bipush C dX10_best_18 (v := (-2)) rfl ?_
      exact v_iret C E dX10_best_20 (nle rfl) (nle rfl) ⟨by first | (simp [aBest, h8, h15]; done) | (simp [aBest, h8]; done), rfl⟩

set_option maxHeartbeats 4000000 in
set_option maxRecDepth 100000 in
theorem c_X10_lean (l : Launch) (g : Gm) (M : Mem) (md : Nat) (t1 t2 t3 t4 t5 t6 t7 t8 : Nat) (fT fD fP fC fS fU fX fF : Nat → Int32) (mo : Int32) (nT : Nat) (m : Nat → Nat → Nat) (dB : Nat → Nat → Bool) (nP : Nat) (pf : Nat → Nat → Nat) (cB : Nat → Nat → Bool) (nS : Nat) (sg : Nat → Int32) (ln : Nat → Nat) (tx : Nat → Nat → Int32) (fl : Nat → Nat → Nat) (hM : ModA g M md t1 t2 t3 t4 t5 t6 t7 t8 fT fD fP fC fS fU fX fF mo nT m dB nP pf cB nS sg ln tx fl) (aa nn bb kk zz : Int32) : Ct l g yX10_lean cX10_lean 9 (some .long) 9 0 0 [.ref md, .int aa, .int nn, .int bb, .int kk, .int zz] M (fun v N => v = some (.long (aLean aa nn bb kk zz)) ∧ N = M) := by
  refine Ct.of (by decide) (Nat.le_of_ble_eq_true rfl) ?_
  intro X hXl hXg hN C E
  subst hXl; subst hXg
  show V X (rmD 9 0 0) M 0 0 [(0, .ref md), (1, .int aa), (2, .int nn), (3, .int bb), (4, .int kk), (5, .int zz)] 0 []
  obtain ⟨hO, h1_, h2_, h3_, h4_, h5_, h6_, h7_, h8_, bT, bP, bS, okT_, cT, cD, okP_, cP, cC, cS, cU, bU_, cX, okX, okF_, cF⟩ := id hM
  refine v_iload_n C dX10_lean_0 rfl ?_
  refine v_iconst C dX10_lean_1 (v := 1) rfl ?_
  refine v_bipush C dX10_lean_2 (v := 20) rfl ?_
  refine v_callS (As := [.int nn, .int 1, .int 20]) (rest := []) C (c_X10_in (xl X) (xg X) nn 1 20 M) pm_X10_in wT_X10_in wM_X10_35 ⟨by decide, by decide⟩ ⟨by decide, by decide⟩ (nle rfl) dX10_lean_4 rfl (dt1 ?_)
  show V X (rmD 9 0 0) M 0 0 [(0, .ref md), (1, .int aa), (2, .int nn), (3, .int bb), (4, .int kk), (5, .int zz)] 7 [.int (bI (qin nn 1 20))]
  refine v_ifb_eq (tgt := 48) C dX10_lean_7 (by decide) (fun h7 => ?_) (fun h7 => ?_)
  · refine v_ldc2 C dX10_lean_48 wJ_X10_131 ?_
    exact v_lret C E dX10_lean_51 (nle rfl) (nle rfl) ⟨by simp [aLean, h7], rfl⟩
  · refine v_iload C dX10_lean_10 rfl ?_
    refine v_iconst C dX10_lean_12 (v := 1) rfl ?_
    refine v_bipush C dX10_lean_13 (v := 20) rfl ?_
    refine v_callS (As := [.int kk, .int 1, .int 20]) (rest := []) C (c_X10_in (xl X) (xg X) kk 1 20 M) pm_X10_in wT_X10_in wM_X10_35 ⟨by decide, by decide⟩ ⟨by decide, by decide⟩ (nle rfl) dX10_lean_15 rfl (dt1 ?_)
    show V X (rmD 9 0 0) M 0 0 [(0, .ref md), (1, .int aa), (2, .int nn), (3, .int bb), (4, .int kk), (5, .int zz)] 18 [.int (bI (qin kk 1 20))]
    refine v_ifb_eq (tgt := 48) C dX10_lean_18 (by decide) (fun h18 => ?_) (fun h18 => ?_)
    · refine v_ldc2 C dX10_lean_48 wJ_X10_131 ?_
      exact v_lret C E dX10_lean_51 (nle rfl) (nle rfl) ⟨by simp [aLean, h7, h18], rfl⟩
    · refine v_iload_n C dX10_lean_21 rfl ?_
      refine v_iconst C dX10_lean_22 (v := 0) rfl ?_
      refine v_iload_n C dX10_lean_23 rfl ?_
      refine v_callS (As := [.int aa, .int 0, .int nn]) (rest := []) C (c_X10_in (xl X) (xg X) aa 0 nn M) pm_X10_in wT_X10_in wM_X10_35 ⟨by decide, by decide⟩ ⟨by decide, by decide⟩ (nle rfl) dX10_lean_24 rfl (dt1 ?_)
      show V X (rmD 9 0 0) M 0 0 [(0, .ref md), (1, .int aa), (2, .int nn), (3, .int bb), (4, .int kk), (5, .int zz)] 27 [.int (bI (qin aa 0 nn))]
      refine v_ifb_eq (tgt := 48) C dX10_lean_27 (by decide) (fun h27 => ?_) (fun h27 => ?_)
      · refine v_ldc2 C dX10_lean_48 wJ_X10_131 ?_
        exact v_lret C E dX10_lean_51 (nle rfl) (nle rfl) ⟨by simp [aLean, h7, h18, h27], rfl⟩
      · refine v_iload_n C dX10_lean_30 rfl ?_
        refine v_iconst C dX10_lean_31 (v := 0) rfl ?_
        refine v_iload C dX10_lean_32 rfl ?_
        refine v_callS (As := [.int bb, .int 0, .int kk]) (rest := []) C (c_X10_in (xl X) (xg X) bb 0 kk M) pm_X10_in wT_X10_in wM_X10_35 ⟨by decide, by decide⟩ ⟨by decide, by decide⟩ (nle rfl) dX10_lean_34 rfl (dt1 ?_)
        show V X (rmD 9 0 0) M 0 0 [(0, .ref md), (1, .int aa), (2, .int nn), (3, .int bb), (4, .int kk), (5, .int zz)] 37 [.int (bI (qin bb 0 kk))]
        refine v_ifb_eq (tgt := 48) C dX10_lean_37 (by decide) (fun h37 => ?_) (fun h37 => ?_)
        · refine v_ldc2 C dX10_lean_48 wJ_X10_131 ?_
          exact v_lret C E dX10_lean_51 (nle rfl) (nle rfl) ⟨by simp [aLean, h7, h18, h27, h37], rfl⟩
        · refine v_iload C dX10_lean_40 rfl ?_
          refine v_callS (As := [.int zz]) (rest := []) C (c_X10_isPart (xl X) (xg X) zz M) pm_X10_isPart wT_X10_isPart wM_X10_77 ⟨by decide, by decide⟩ ⟨by decide, by decide⟩ (nle rfl) dX10_lean_42 rfl (dt1 ?_)
          show V X (rmD 9 0 0) M 0 0 [(0, .ref md), (1, .int aa), (2, .int nn), (3, .int bb), (4, .int kk), (5, .int zz)] 45 [.int (bI (qin zz 0 1))]
          refine v_ifb_ne (tgt := 52) C dX10_lean_45 (by decide) (fun h45 => ?_) (fun h45 => ?_)
          · obtain ⟨n, hLn, hjn, rfl⟩ := qin_nJ (x := nn) (L := 1) (N := 20) (by decide) (by decide) h7
            obtain ⟨k, hLk, hjk, rfl⟩ := qin_nJ (x := kk) (L := 1) (N := 20) (by decide) (by decide) h18
            obtain ⟨a, hLa, hja, rfl⟩ := qin_nJ (x := aa) (L := 0) (N := n) (by omega) (by decide) h27
            obtain ⟨b, hLb, hjb, rfl⟩ := qin_nJ (x := bb) (L := 0) (N := k) (by omega) (by decide) h37
            obtain ⟨z, hLz, hjz, rfl⟩ := qin_nJ (x := zz) (L := 0) (N := 1) (by decide) (by decide) h45
            show V X (rmD 9 0 0) M 0 0 [(0, .ref md), (1, .int (nI a)), (2, .int (nI n)), (3, .int (nI b)), (4, .int (nI k)), (5, .int (nI z))] 52 []
            refine v_lconst C dX10_lean_52 (v := 0) rfl ?_
            refine v_lstore (lv' := [(6, .long 0), (0, .ref md), (1, .int (nI a)), (2, .int (nI n)), (3, .int (nI b)), (4, .int (nI k)), (5, .int (nI z))]) C dX10_lean_53 hN (by decide) rfl ?_
            refine v_iload_n C dX10_lean_55 rfl ?_
            refine v_istore (lv' := [(8, .int (nI a)), (6, .long 0), (0, .ref md), (1, .int (nI a)), (2, .int (nI n)), (3, .int (nI b)), (4, .int (nI k)), (5, .int (nI z))]) C dX10_lean_56 hN (by decide) rfl ?_
            refine v_sub (lv' := [(0, .ref md), (1, .int (nI a)), (2, .int (nI n)), (3, .int (nI b)), (4, .int (nI k)), (5, .int (nI z)), (6, .long 0), (8, .int (nI a))]) [2, 3, 4, 5, 6, 7, 1, 0] rfl ?_
            have lp58 : ∀ (mm : Nat) (j : Nat) (h1 : a + j ≤ n + 1), n + 1 - (a + j) < mm → V X (rmD 9 0 0) M 0 0 [(0, .ref md), (1, .int (nI a)), (2, .int (nI n)), (3, .int (nI b)), (4, .int (nI k)), (5, .int (nI z)), (6, .long (lN (leaN n k a b j))), (8, .int (nI (a + j)))] 58 [] := by
              intro mm
              induction mm with
              | zero => intro j h1 hmu; exact absurd hmu (Nat.not_lt_zero _)
              | succ mm ih58 =>
                intro j h1 hmu
                refine v_iload C dX10_lean_58 rfl ?_
                refine v_iload_n C dX10_lean_60 rfl ?_
                refine v_icmp_gt (tgt := 93) C dX10_lean_61 (by decide) (fun h61 => ?_) (fun h61 => ?_)
                · rw [show j = n + 1 - a from by have := nI_ltN (by omega) (by omega) h61; omega]
                  show V X (rmD 9 0 0) M 0 0 [(0, .ref md), (1, .int (nI a)), (2, .int (nI n)), (3, .int (nI b)), (4, .int (nI k)), (5, .int (nI z)), (6, .long (lN (leaN n k a b (n + 1 - a)))), (8, .int (nI (a + (n + 1 - a))))] 93 []
                  refine v_lload C dX10_lean_93 rfl ?_
                  refine v_iload_n C dX10_lean_95 rfl ?_
                  refine v_iload C dX10_lean_96 rfl ?_
                  refine v_iadd C dX10_lean_98 ?_
                  rw [nI_add]
                  show V X (rmD 9 0 0) M 0 0 [(0, .ref md), (1, .int (nI a)), (2, .int (nI n)), (3, .int (nI b)), (4, .int (nI k)), (5, .int (nI z)), (6, .long (lN (leaN n k a b (n + 1 - a)))), (8, .int (nI (a + (n + 1 - a))))] 99 [.int (nI (n + k)), .long (lN (leaN n k a b (n + 1 - a)))]
                  refine v_iload_n C dX10_lean_99 rfl ?_
                  refine v_iload_n C dX10_lean_100 rfl ?_
                  refine v_iadd C dX10_lean_101 ?_
                  rw [show nI a + nI b = nI (a + b) from nI_add _ _]
                  show V X (rmD 9 0 0) M 0 0 [(0, .ref md), (1, .int (nI a)), (2, .int (nI n)), (3, .int (nI b)), (4, .int (nI k)), (5, .int (nI z)), (6, .long (lN (leaN n k a b (n + 1 - a)))), (8, .int (nI (a + (n + 1 - a))))] 102 [.int (nI (a + b)), .int (nI (n + k)), .long (lN (leaN n k a b (n + 1 - a)))]
                  refine v_callS (As := [.int (nI (n + k)), .int (nI (a + b))]) (rest := [.long (lN (leaN n k a b (n + 1 - a)))]) C (c_X10_chooseY (xl X) (xg X) (n + k) (a + b) (by omega) (by omega) M) pm_X10_choose wT_X10_choose wM_X10_158 ⟨by decide, by decide⟩ ⟨by decide, by decide⟩ (nle rfl) dX10_lean_102 rfl (dt1 ?_)
                  show V X (rmD 9 0 0) M 0 0 [(0, .ref md), (1, .int (nI a)), (2, .int (nI n)), (3, .int (nI b)), (4, .int (nI k)), (5, .int (nI z)), (6, .long (lN (leaN n k a b (n + 1 - a)))), (8, .int (nI (a + (n + 1 - a))))] 105 [.long (lN (chB (n + k) (a + b))), .long (lN (leaN n k a b (n + 1 - a)))]
                  rw [show chB (n + k) (a + b) = choN (n + k) (a + b) from (if_pos (show a + b ≤ n + k by omega)).symm]
                  have hch : choN (n + k) (a + b) < 2 ^ 63 ∧ 0 < choN (n + k) (a + b) := by have := (ch_ok (n + k) (by omega) (a + b) (by omega)).2; rw [choN, if_pos (show a + b ≤ n + k by omega)]; omega
                  show V X (rmD 9 0 0) M 0 0 [(0, .ref md), (1, .int (nI a)), (2, .int (nI n)), (3, .int (nI b)), (4, .int (nI k)), (5, .int (nI z)), (6, .long (lN (leaN n k a b (n + 1 - a)))), (8, .int (nI (a + (n + 1 - a))))] 105 [.long (lN (choN (n + k) (a + b))), .long (lN (leaN n k a b (n + 1 - a)))]
                  refine v_iload C dX10_lean_105 rfl ?_
                  refine v_callS (As := [.long (lN (leaN n k a b (n + 1 - a))), .long (lN (choN (n + k) (a + b))), .int (nI z)]) (rest := []) C (c_X10_term (xl X) (xg X) (leaN n k a b (n + 1 - a)) (choN (n + k) (a + b)) z (Nat.lt_of_le_of_lt (leaN_le (by omega) (by omega) _) (Nat.lt_of_le_of_lt (Nat.mul_le_mul_right _ (show n + 1 - a ≤ 21 by omega)) (by decide))) hch.1 hch.2 (by omega) M) pm_X10_term wT_X10_term wM_X10_137 ⟨by decide, by decide⟩ ⟨by decide, by decide⟩ (nle rfl) dX10_lean_107 rfl (dt1 ?_)
                  show V X (rmD 9 0 0) M 0 0 [(0, .ref md), (1, .int (nI a)), (2, .int (nI n)), (3, .int (nI b)), (4, .int (nI k)), (5, .int (nI z)), (6, .long (lN (leaN n k a b (n + 1 - a)))), (8, .int (nI (a + (n + 1 - a))))] 110 [.long (lN (frN (leaN n k a b (n + 1 - a)) (choN (n + k) (a + b)) z))]
                  exact v_lret C E dX10_lean_110 (nle rfl) (nle rfl) ⟨by simp only [aLean, h7, h18, h27, h37, h45, Bool.and_self, if_true, nI_clamp (n := a) (show a < 2 ^ 31 by omega), nI_clamp (n := b) (show b < 2 ^ 31 by omega), nI_clamp (n := n) (show n < 2 ^ 31 by omega), nI_clamp (n := k) (show k < 2 ^ 31 by omega), nI_clamp (n := z) (show z < 2 ^ 31 by omega)], rfl⟩
                · have g61 : a + j ≤ n := nI_nltN (by omega) (by omega) h61
                  refine v_lload C dX10_lean_64 rfl ?_
                  refine v_iload_n C dX10_lean_66 rfl ?_
                  refine v_iload C dX10_lean_67 rfl ?_
                  refine v_callS (As := [.int (nI n), .int (nI (a + j))]) (rest := [.long (lN (leaN n k a b j))]) C (c_X10_chooseY (xl X) (xg X) n (a + j) (by omega) (by omega) M) pm_X10_choose wT_X10_choose wM_X10_158 ⟨by decide, by decide⟩ ⟨by decide, by decide⟩ (nle rfl) dX10_lean_69 rfl (dt1 ?_)
                  show V X (rmD 9 0 0) M 0 0 [(0, .ref md), (1, .int (nI a)), (2, .int (nI n)), (3, .int (nI b)), (4, .int (nI k)), (5, .int (nI z)), (6, .long (lN (leaN n k a b j))), (8, .int (nI (a + j)))] 72 [.long (lN (chB n (a + j))), .long (lN (leaN n k a b j))]
                  refine v_iload C dX10_lean_72 rfl ?_
                  refine v_iload_n C dX10_lean_74 rfl ?_
                  refine v_iload_n C dX10_lean_75 rfl ?_
                  refine v_iadd C dX10_lean_76 ?_
                  refine v_iload C dX10_lean_77 rfl ?_
                  refine v_isub C dX10_lean_79 ?_
                  rcases Nat.lt_or_ge b j with hbj | hbj
                  · have hz := trivial
                    show V X (rmD 9 0 0) M 0 0 [(0, .ref md), (1, .int (nI a)), (2, .int (nI n)), (3, .int (nI b)), (4, .int (nI k)), (5, .int (nI z)), (6, .long (lN (leaN n k a b j))), (8, .int (nI (a + j)))] 80 [.int (((nI a) + (nI b)) - (nI (a + j))), .int (nI k), .long (lN (chB n (a + j))), .long (lN (leaN n k a b j))]
                    refine v_callS (As := [.int (nI k), .int (((nI a) + (nI b)) - (nI (a + j)))]) (rest := [.long (lN (chB n (a + j))), .long (lN (leaN n k a b j))]) C (c_X10_chooseN (xl X) (xg X) k (nI a + nI b - nI (a + j)) (by omega) (by rw [Int32.lt_iff_toInt_lt, nI_add, i32_toInt_sub (by omega) (by omega)]; show _ < (0 : Int); omega) M) pm_X10_choose wT_X10_choose wM_X10_158 ⟨by decide, by decide⟩ ⟨by decide, by decide⟩ (nle rfl) dX10_lean_80 rfl (dt1 ?_)
                    show V X (rmD 9 0 0) M 0 0 [(0, .ref md), (1, .int (nI a)), (2, .int (nI n)), (3, .int (nI b)), (4, .int (nI k)), (5, .int (nI z)), (6, .long (lN (leaN n k a b j))), (8, .int (nI (a + j)))] 83 [.long 0, .long (lN (chB n (a + j))), .long (lN (leaN n k a b j))]
                    refine v_lmul C dX10_lean_83 ?_
                    refine v_ladd C dX10_lean_84 ?_
                    rw [show (lN (leaN n k a b j)) + ((lN (chB n (a + j))) * 0) = lN (leaN n k a b (j + 1)) from by rw [show (0 : Int64) = lN 0 from rfl, lN_mul, lN_add, show leaN n k a b (j + 1) = leaN n k a b j + choN n (a + j) * (if j ≤ b then choN k (b - j) else 0) from rfl, if_neg (show ¬ j ≤ b by omega), Nat.mul_zero, Nat.mul_zero]]
                    show V X (rmD 9 0 0) M 0 0 [(0, .ref md), (1, .int (nI a)), (2, .int (nI n)), (3, .int (nI b)), (4, .int (nI k)), (5, .int (nI z)), (6, .long (lN (leaN n k a b j))), (8, .int (nI (a + j)))] 85 [.long (lN (leaN n k a b (j + 1)))]
                    refine v_lstore (lv' := [(6, .long (lN (leaN n k a b (j + 1)))), (0, .ref md), (1, .int (nI a)), (2, .int (nI n)), (3, .int (nI b)), (4, .int (nI k)), (5, .int (nI z)), (8, .int (nI (a + j)))]) C dX10_lean_85 hN (by decide) rfl ?_
                    refine v_iinc (lv' := [(8, .int (nI (a + (j + 1)))), (6, .long (lN (leaN n k a b (j + 1)))), (0, .ref md), (1, .int (nI a)), (2, .int (nI n)), (3, .int (nI b)), (4, .int (nI k)), (5, .int (nI z))]) C dX10_lean_87 7 rfl (nI_1 (a + j)) hN (by decide) rfl ?_
                    refine v_goto (tgt := 58) C dX10_lean_90 (by decide) ?_
                    refine v_sub (lv' := [(0, .ref md), (1, .int (nI a)), (2, .int (nI n)), (3, .int (nI b)), (4, .int (nI k)), (5, .int (nI z)), (6, .long (lN (leaN n k a b (j + 1)))), (8, .int (nI (a + (j + 1))))]) [2, 3, 4, 5, 6, 7, 1, 0] rfl ?_
                    exact ih58 (j + 1) (by omega) (by omega)
                  · rw [show nI a + nI b - nI (a + j) = nI (b - j) from by rw [nI_add, pk_sub (by omega)]; congr 1; omega]
                    show V X (rmD 9 0 0) M 0 0 [(0, .ref md), (1, .int (nI a)), (2, .int (nI n)), (3, .int (nI b)), (4, .int (nI k)), (5, .int (nI z)), (6, .long (lN (leaN n k a b j))), (8, .int (nI (a + j)))] 80 [.int (nI (b - j)), .int (nI k), .long (lN (chB n (a + j))), .long (lN (leaN n k a b j))]
                    refine v_callS (As := [.int (nI k), .int (nI (b - j))]) (rest := [.long (lN (chB n (a + j))), .long (lN (leaN n k a b j))]) C (c_X10_chooseY (xl X) (xg X) k (b - j) (by omega) (by omega) M) pm_X10_choose wT_X10_choose wM_X10_158 ⟨by decide, by decide⟩ ⟨by decide, by decide⟩ (nle rfl) dX10_lean_80 rfl (dt1 ?_)
                    show V X (rmD 9 0 0) M 0 0 [(0, .ref md), (1, .int (nI a)), (2, .int (nI n)), (3, .int (nI b)), (4, .int (nI k)), (5, .int (nI z)), (6, .long (lN (leaN n k a b j))), (8, .int (nI (a + j)))] 83 [.long (lN (chB k (b - j))), .long (lN (chB n (a + j))), .long (lN (leaN n k a b j))]
                    refine v_lmul C dX10_lean_83 ?_
                    refine v_ladd C dX10_lean_84 ?_
                    rw [show (lN (leaN n k a b j)) + ((lN (chB n (a + j))) * (lN (chB k (b - j)))) = lN (leaN n k a b (j + 1)) from by rw [lN_mul, lN_add, show leaN n k a b (j + 1) = leaN n k a b j + choN n (a + j) * (if j ≤ b then choN k (b - j) else 0) from rfl, if_pos hbj, choN, if_pos (show a + j ≤ n by omega), choN, if_pos (show b - j ≤ k by omega)]]
                    show V X (rmD 9 0 0) M 0 0 [(0, .ref md), (1, .int (nI a)), (2, .int (nI n)), (3, .int (nI b)), (4, .int (nI k)), (5, .int (nI z)), (6, .long (lN (leaN n k a b j))), (8, .int (nI (a + j)))] 85 [.long (lN (leaN n k a b (j + 1)))]
                    refine v_lstore (lv' := [(6, .long (lN (leaN n k a b (j + 1)))), (0, .ref md), (1, .int (nI a)), (2, .int (nI n)), (3, .int (nI b)), (4, .int (nI k)), (5, .int (nI z)), (8, .int (nI (a + j)))]) C dX10_lean_85 hN (by decide) rfl ?_
                    refine v_iinc (lv' := [(8, .int (nI (a + (j + 1)))), (6, .long (lN (leaN n k a b (j + 1)))), (0, .ref md), (1, .int (nI a)), (2, .int (nI n)), (3, .int (nI b)), (4, .int (nI k)), (5, .int (nI z))]) C dX10_lean_87 7 rfl (nI_1 (a + j)) hN (by decide) rfl ?_
                    refine v_goto (tgt := 58) C dX10_lean_90 (by decide) ?_
                    refine v_sub (lv' := [(0, .ref md), (1, .int (nI a)), (2, .int (nI n)), (3, .int (nI b)), (4, .int (nI k)), (5, .int (nI z)), (6, .long (lN (leaN n k a b (j + 1)))), (8, .int (nI (a + (j + 1))))]) [2, 3, 4, 5, 6, 7, 1, 0] rfl ?_
                    exact ih58 (j + 1) (by omega) (by omega)
            exact lp58 (_ + 1) 0 (by omega) (Nat.lt_succ_self _)
          · refine v_ldc2 C dX10_lean_48 wJ_X10_131 ?_
            exact v_lret C E dX10_lean_51 (nle rfl) (nle rfl) ⟨by simp [aLean, h7, h18, h27, h37, h45], rfl⟩

set_option maxHeartbeats 4000000 in
set_option maxRecDepth 100000 in
theorem c_X10_told (l : Launch) (g : Gm) (M : Mem) (md : Nat) (t1 t2 t3 t4 t5 t6 t7 t8 : Nat) (fT fD fP fC fS fU fX fF : Nat → Int32) (mo : Int32) (nT : Nat) (m : Nat → Nat → Nat) (dB : Nat → Nat → Bool) (nP : Nat) (pf : Nat → Nat → Nat) (cB : Nat → Nat → Bool) (nS : Nat) (sg : Nat → Int32) (ln : Nat → Nat) (tx : Nat → Nat → Int32) (fl : Nat → Nat → Nat) (hM : ModA g M md t1 t2 t3 t4 t5 t6 t7 t8 fT fD fP fC fS fU fX fF mo nT m dB nP pf cB nS sg ln tx fl) (w : Int32) : Ct l g yX10_told cX10_told 4 (some .int) 9 0 0 [.ref md, .int w] M (fun v N => v = some (.int (aTold nT nP nS ln w)) ∧ N = M) := by
  refine Ct.of (by decide) (Nat.le_of_ble_eq_true rfl) ?_
  intro X hXl hXg hN C E
  subst hXl; subst hXg
  show V X (rmD 9 0 0) M 0 0 [(0, .ref md), (1, .int w)] 0 []
  obtain ⟨hO, h1_, h2_, h3_, h4_, h5_, h6_, h7_, h8_, bT, bP, bS, okT_, cT, cD, okP_, cP, cC, cS, cU, bU_, cX, okX, okF_, cF⟩ := id hM
  refine v_iconst C dX10_told_0 (v := 0) rfl ?_
  refine v_istore_n (lv' := [(2, .int 0), (0, .ref md), (1, .int w)]) C dX10_told_1 hN (by decide) rfl ?_
  refine v_iconst C dX10_told_2 (v := 0) rfl ?_
  refine v_istore_n (lv' := [(3, .int 0), (2, .int 0), (0, .ref md), (1, .int w)]) C dX10_told_3 hN (by decide) rfl ?_
  refine v_sub (lv' := [(0, .ref md), (1, .int w), (2, .int 0), (3, .int 0)]) [2, 3, 1, 0] rfl ?_
  have lp4 : ∀ (mm : Nat) (j : Nat) (h1 : j ≤ 5), 5 - j < mm → V X (rmD 9 0 0) M 0 0 [(0, .ref md), (1, .int w), (2, .int (orB (fun u => decide (0 < ln u)) j)), (3, .int (nI j))] 4 [] := by
    intro mm
    induction mm with
    | zero => intro j h1 hmu; exact absurd hmu (Nat.not_lt_zero _)
    | succ mm ih4 =>
      intro j h1 hmu
      refine v_iload_n C dX10_told_4 rfl ?_
      refine v_iconst C dX10_told_5 (v := 5) rfl ?_
      refine v_icmp_ge (tgt := 34) C dX10_told_6 (by decide) (fun h6 => ?_) (fun h6 => ?_)
      · have g5 : j = 5 := Nat.le_antisymm h1 (nI_leN (a := 5) (by decide) (by omega) h6)
        refine v_iload_n C dX10_told_34 rfl ?_
        refine v_if_ne (tgt := 45) C dX10_told_35 (by decide) (fun h35 => ?_) (fun h35 => ?_)
        · refine v_iload_n C dX10_told_45 rfl ?_
          refine v_iconst C dX10_told_46 (v := 1) rfl ?_
          refine v_icmp_ne (tgt := 57) C dX10_told_47 (by decide) (fun h47 => ?_) (fun h47 => ?_)
          · refine v_iload_n C dX10_told_57 rfl ?_
            refine v_iconst C dX10_told_58 (v := 2) rfl ?_
            refine v_icmp_ne (tgt := 69) C dX10_told_59 (by decide) (fun h59 => ?_) (fun h59 => ?_)
            · refine v_iload_n C dX10_told_69 rfl ?_
              refine v_iconst C dX10_told_70 (v := 3) rfl ?_
              refine v_icmp_ne (tgt := 78) C dX10_told_71 (by decide) (fun h71 => ?_) (fun h71 => ?_)
              · refine v_bipush C dX10_told_78 (v := (-2)) rfl ?_
                exact v_iret C E dX10_told_80 (nle rfl) (nle rfl) ⟨by simp [aTold, h35, h47, h59, h71, g5], rfl⟩
              · refine v_iload_n C dX10_told_74 rfl ?_
                refine v_goto (tgt := 80) C dX10_told_75 (by decide) ?_
                exact v_iret C E dX10_told_80 (nle rfl) (nle rfl) ⟨by simp [aTold, h35, h47, h59, h71, g5], rfl⟩
            · refine v_aload_n C dX10_told_62 rfl ?_
              refine v_get C kX10 hO 6 (by decide) wF_X10_80 rfl dX10_told_63 ?_
              refine v_goto (tgt := 80) C dX10_told_66 (by decide) ?_
              exact v_iret C E dX10_told_80 (nle rfl) (nle rfl) ⟨by simp [aTold, h35, h47, h59, g5], rfl⟩
          · refine v_aload_n C dX10_told_50 rfl ?_
            refine v_get C kX10 hO 3 (by decide) wF_X10_43 rfl dX10_told_51 ?_
            refine v_goto (tgt := 80) C dX10_told_54 (by decide) ?_
            exact v_iret C E dX10_told_80 (nle rfl) (nle rfl) ⟨by simp [aTold, h35, h47, g5], rfl⟩
        · refine v_aload_n C dX10_told_38 rfl ?_
          refine v_get C kX10 hO 0 (by decide) wF_X10_39 rfl dX10_told_39 ?_
          refine v_goto (tgt := 80) C dX10_told_42 (by decide) ?_
          exact v_iret C E dX10_told_80 (nle rfl) (nle rfl) ⟨by simp [aTold, h35, g5], rfl⟩
      · have g6 := nI_nleN (a := 5) (by decide) (by omega) h6
        have bl := bU_ j g6
        refine v_iload_n C dX10_told_9 rfl ?_
        refine v_aload_n C dX10_told_10 rfl ?_
        refine v_get C kX10 hO 8 (by decide) wF_X10_26 rfl dX10_told_11 ?_
        refine v_iload_n C dX10_told_14 rfl ?_
        refine v_iald C h6_ (vp_in_nI (by omega) (by decide)) dX10_told_15 ?_
        rw [show fU (nI j : Int32).toNatClampNeg = nI (ln j) from by rw [nI_clamp (by omega)]; exact cU j (by omega)]
        refine v_if_le (tgt := 25) C dX10_told_16 (by decide) (fun h16 => ?_) (fun h16 => ?_)
        · refine v_iconst C dX10_told_25 (v := 0) rfl ?_
          refine v_ior C dX10_told_26 ?_
          refine v_istore_n (lv' := [(2, .int ((orB (fun u => decide (0 < ln u)) j) ||| 0)), (0, .ref md), (1, .int w), (3, .int (nI j))]) C dX10_told_27 hN (by decide) rfl ?_
          refine v_iinc (lv' := [(3, .int (nI (j + 1))), (2, .int ((orB (fun u => decide (0 < ln u)) j) ||| 0)), (0, .ref md), (1, .int w)]) C dX10_told_28 3 rfl (nI_1 _) hN (by decide) rfl ?_
          refine v_goto (tgt := 4) C dX10_told_31 (by decide) ?_
          refine v_sub (lv' := [(0, .ref md), (1, .int w), (2, .int ((orB (fun u => decide (0 < ln u)) j) ||| 0)), (3, .int (nI (j + 1)))]) [2, 3, 1, 0] rfl ?_
          rw [show orB (fun u => decide (0 < ln u)) j ||| 0 = orB (fun u => decide (0 < ln u)) (j + 1) from by rw [orB_f (p := fun u => decide (0 < ln u)) (decide_eq_false (Nat.not_lt.mpr (nI_leN (b := 0) (by omega) (by decide) h16)))]; exact Int32.or_zero]
          exact ih4 (j + 1) (by omega) (by omega)
        · refine v_iconst C dX10_told_19 (v := 1) rfl ?_
          refine v_iload_n C dX10_told_20 rfl ?_
          refine v_ishl C dX10_told_21 ?_
          refine v_goto (tgt := 26) C dX10_told_22 (by decide) ?_
          refine v_ior C dX10_told_26 ?_
          refine v_istore_n (lv' := [(2, .int ((orB (fun u => decide (0 < ln u)) j) ||| (1 <<< ((nI j) &&& 31)))), (0, .ref md), (1, .int w), (3, .int (nI j))]) C dX10_told_27 hN (by decide) rfl ?_
          refine v_iinc (lv' := [(3, .int (nI (j + 1))), (2, .int ((orB (fun u => decide (0 < ln u)) j) ||| (1 <<< ((nI j) &&& 31)))), (0, .ref md), (1, .int w)]) C dX10_told_28 3 rfl (nI_1 _) hN (by decide) rfl ?_
          refine v_goto (tgt := 4) C dX10_told_31 (by decide) ?_
          refine v_sub (lv' := [(0, .ref md), (1, .int w), (2, .int ((orB (fun u => decide (0 < ln u)) j) ||| (1 <<< ((nI j) &&& 31)))), (3, .int (nI (j + 1)))]) [2, 3, 1, 0] rfl ?_
          rw [← orB_t (p := fun u => decide (0 < ln u)) (decide_eq_true (nI_nleN (b := 0) (by omega) (by decide) h16))]
          exact ih4 (j + 1) (by omega) (by omega)
  exact lp4 (_ + 1) 0 (Nat.zero_le _) (Nat.lt_succ_self _)


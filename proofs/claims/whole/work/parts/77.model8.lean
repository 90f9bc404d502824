/-! The model: meeting lines, chances, numbers. -/
theorem ModA.most {g : Gm} {M : Mem} {md : Nat} {t1 t2 t3 t4 t5 t6 t7 t8 : Nat} {fT fD fP fC fS fU fX fF : Nat → Int32} {mo : Int32} {nT : Nat} {m : Nat → Nat → Nat} {dB : Nat → Nat → Bool} {nP : Nat} {pf : Nat → Nat → Nat} {cB : Nat → Nat → Bool} {nS : Nat} {sg : Nat → Int32} {ln : Nat → Nat} {tx : Nat → Nat → Int32} {fl : Nat → Nat → Nat} (hM : ModA g M md t1 t2 t3 t4 t5 t6 t7 t8 fT fD fP fC fS fU fX fF mo nT m dB nP pf cB nS sg ln tx fl) (x : Int32) : ModA g (mset M md (.inr (10, [.int (nI nT), .ref t1, .ref t2, .int (nI nP), .ref t3, .ref t4, .int (nI nS), .ref t5, .ref t6, .ref t7, .ref t8, .int (x)]))) md t1 t2 t3 t4 t5 t6 t7 t8 fT fD fP fC fS fU fX fF x nT m dB nP pf cB nS sg ln tx fl := by
  obtain ⟨hO, h1_, h2_, h3_, h4_, h5_, h6_, h7_, h8_, bT, bP, bS, okT_, cT, cD, okP_, cP, cC, cS, cU, bU_, cX, okX, okF_, cF⟩ := id hM
  exact ⟨mset_same _ _ _, (mset_ne (cell_ne h1_ hO (by simp))).trans h1_, (mset_ne (cell_ne h2_ hO (by simp))).trans h2_, (mset_ne (cell_ne h3_ hO (by simp))).trans h3_, (mset_ne (cell_ne h4_ hO (by simp))).trans h4_, (mset_ne (cell_ne h5_ hO (by simp))).trans h5_, (mset_ne (cell_ne h6_ hO (by simp))).trans h6_, (mset_ne (cell_ne h7_ hO (by simp))).trans h7_, (mset_ne (cell_ne h8_ hO (by simp))).trans h8_, bT, bP, bS, okT_, cT, cD, okP_, cP, cC, cS, cU, bU_, cX, okX, okF_, cF⟩
set_option maxHeartbeats 4000000 in
set_option maxRecDepth 100000 in
theorem c_X10_meetOf (l : Launch) (g : Gm) (M : Mem) (md : Nat) (t1 t2 t3 t4 t5 t6 t7 t8 : Nat) (fT fD fP fC fS fU fX fF : Nat → Int32) (mo : Int32) (nT : Nat) (m : Nat → Nat → Nat) (dB : Nat → Nat → Bool) (nP : Nat) (pf : Nat → Nat → Nat) (cB : Nat → Nat → Bool) (nS : Nat) (sg : Nat → Int32) (ln : Nat → Nat) (tx : Nat → Nat → Int32) (fl : Nat → Nat → Nat) (hM : ModA g M md t1 t2 t3 t4 t5 t6 t7 t8 fT fD fP fC fS fU fX fF mo nT m dB nP pf cB nS sg ln tx fl) (d : Nat) (hd : d < 100) : Ct l g yX10_meetOf cX10_meetOf 6 (some .int) 3 0 0 [.ref md, .int (nI d)] M (fun v N => v = some (.int (oI (metN nT m d).1)) ∧ N = mset M md (.inr (10, [.int (nI nT), .ref t1, .ref t2, .int (nI nP), .ref t3, .ref t4, .int (nI nS), .ref t5, .ref t6, .ref t7, .ref t8, .int (nI (metN nT m d).2)]))) := by
  refine Ct.of (by decide) (Nat.le_of_ble_eq_true rfl) ?_
  intro X hXl hXg hN C E
  subst hXl; subst hXg
  show V X (rmD 3 0 0) M 0 0 [(0, .ref md), (1, .int (nI d))] 0 []
  obtain ⟨hO, h1_, h2_, h3_, h4_, h5_, h6_, h7_, h8_, bT, bP, bS, okT_, cT, cD, okP_, cP, cC, cS, cU, bU_, cX, okX, okF_, cF⟩ := id hM
  have n_t1_md := cell_ne h1_ hO (by simp)
  have n_t2_md := cell_ne h2_ hO (by simp)
  have n_t3_md := cell_ne h3_ hO (by simp)
  have n_t4_md := cell_ne h4_ hO (by simp)
  have n_t5_md := cell_ne h5_ hO (by simp)
  have n_t6_md := cell_ne h6_ hO (by simp)
  have n_t7_md := cell_ne h7_ hO (by simp)
  have n_t8_md := cell_ne h8_ hO (by simp)
  refine v_bipush C dX10_meetOf_0 (v := (-6)) rfl ?_
  refine v_istore_n (lv' := [(2, .int ((-6))), (0, .ref md), (1, .int (nI d))]) C dX10_meetOf_2 hN (by decide) rfl ?_
  refine v_aload_n C dX10_meetOf_3 rfl ?_
  refine v_iconst C dX10_meetOf_4 (v := 0) rfl ?_
  refine v_put C kX10 hO 11 (by decide) wF_X10_119 rfl rfl rfl (nle rfl) dX10_meetOf_5 ?_
  show V X (rmD 3 0 0) (mset M md (.inr (10, [.int (nI nT), .ref t1, .ref t2, .int (nI nP), .ref t3, .ref t4, .int (nI nS), .ref t5, .ref t6, .ref t7, .ref t8, .int 0]))) 0 0 [(2, .int ((-6))), (0, .ref md), (1, .int (nI d))] 8 []
  refine v_iconst C dX10_meetOf_8 (v := 0) rfl ?_
  refine v_istore_n (lv' := [(3, .int 0), (2, .int ((-6))), (0, .ref md), (1, .int (nI d))]) C dX10_meetOf_9 hN (by decide) rfl ?_
  refine v_sub (lv' := [(0, .ref md), (1, .int (nI d)), (2, .int ((-6))), (3, .int 0)]) [2, 3, 1, 0] rfl ?_
  have lp10 : ∀ (mm : Nat) (c : Nat) (h1 : c ≤ 96), 96 - c < mm → V X (rmD 3 0 0) (mset M md (.inr (10, [.int (nI nT), .ref t1, .ref t2, .int (nI nP), .ref t3, .ref t4, .int (nI nS), .ref t5, .ref t6, .ref t7, .ref t8, .int (nI (mxc (fun c => crossN m d c nT) c).2)]))) 0 0 [(0, .ref md), (1, .int (nI d)), (2, .int (oI (mxc (fun c => crossN m d c nT) c).1)), (3, .int (nI c))] 10 [] := by
    intro mm
    induction mm with
    | zero => intro c h1 hmu; exact absurd hmu (Nat.not_lt_zero _)
    | succ mm ih10 =>
      intro c h1 hmu
      have hM2 := hM.most (nI (mxc (fun c => crossN m d c nT) c).2)
      have hb1 := crossN_le m d c nT
      have hb2 := mxc_le (f := fun c => crossN m d c nT) (N := 12) (fun c => Nat.le_trans (crossN_le m d c nT) bT) c
      refine v_iload_n C dX10_meetOf_10 rfl ?_
      refine v_bipush C dX10_meetOf_11 (v := 96) rfl ?_
      refine v_icmp_ge (tgt := 123) C dX10_meetOf_13 (by decide) (fun h13 => ?_) (fun h13 => ?_)
      · refine v_iload_n C dX10_meetOf_123 rfl ?_
        exact v_iret C E dX10_meetOf_124 (nle rfl) (nle rfl) ⟨by rw [show c = 96 from Nat.le_antisymm h1 (nI_leN (a := 96) (by decide) (by omega) h13)]; rfl, by rw [show c = 96 from Nat.le_antisymm h1 (nI_leN (a := 96) (by decide) (by omega) h13)]; rfl⟩
      · have g13 := nI_nleN (a := 96) (by decide) (by omega) h13
        refine v_iconst C dX10_meetOf_16 (v := 0) rfl ?_
        refine v_istore (lv' := [(4, .int 0), (0, .ref md), (1, .int (nI d)), (2, .int (oI (mxc (fun c => crossN m d c nT) c).1)), (3, .int (nI c))]) C dX10_meetOf_17 hN (by decide) rfl ?_
        refine v_iconst C dX10_meetOf_19 (v := 0) rfl ?_
        refine v_istore (lv' := [(5, .int 0), (4, .int 0), (0, .ref md), (1, .int (nI d)), (2, .int (oI (mxc (fun c => crossN m d c nT) c).1)), (3, .int (nI c))]) C dX10_meetOf_20 hN (by decide) rfl ?_
        refine v_sub (lv' := [(0, .ref md), (1, .int (nI d)), (2, .int (oI (mxc (fun c => crossN m d c nT) c).1)), (3, .int (nI c)), (4, .int 0), (5, .int 0)]) [2, 3, 4, 5, 1, 0] rfl ?_
        have lp22 : ∀ (mm : Nat) (k : Nat) (h2 : k ≤ nT), nT - k < mm → V X (rmD 3 0 0) (mset M md (.inr (10, [.int (nI nT), .ref t1, .ref t2, .int (nI nP), .ref t3, .ref t4, .int (nI nS), .ref t5, .ref t6, .ref t7, .ref t8, .int (nI (mxc (fun c => crossN m d c nT) c).2)]))) 0 0 [(0, .ref md), (1, .int (nI d)), (2, .int (oI (mxc (fun c => crossN m d c nT) c).1)), (3, .int (nI c)), (4, .int (nI (crossN m d c k))), (5, .int (nI k))] 22 [] := by
          intro mm
          induction mm with
          | zero => intro k h2 hmu; exact absurd hmu (Nat.not_lt_zero _)
          | succ mm ih22 =>
            intro k h2 hmu
            refine v_iload C dX10_meetOf_22 rfl ?_
            refine v_aload_n C dX10_meetOf_24 rfl ?_
            refine v_get C kX10 (mset_same _ _ _) 0 (by decide) wF_X10_39 rfl dX10_meetOf_25 ?_
            refine v_icmp_ge (tgt := 80) C dX10_meetOf_28 (by decide) (fun h28 => ?_) (fun h28 => ?_)
            · rw [show k = nT from Nat.le_antisymm h2 (nI_leN (by omega) (by omega) h28)]
              show V X (rmD 3 0 0) (mset M md (.inr (10, [.int (nI nT), .ref t1, .ref t2, .int (nI nP), .ref t3, .ref t4, .int (nI nS), .ref t5, .ref t6, .ref t7, .ref t8, .int (nI (mxc (fun c => crossN m d c nT) c).2)]))) 0 0 [(0, .ref md), (1, .int (nI d)), (2, .int (oI (mxc (fun c => crossN m d c nT) c).1)), (3, .int (nI c)), (4, .int (nI (crossN m d c nT))), (5, .int (nI nT))] 80 []
              refine v_iload C dX10_meetOf_80 rfl ?_
              refine v_aload_n C dX10_meetOf_82 rfl ?_
              refine v_get C kX10 (mset_same _ _ _) 11 (by decide) wF_X10_119 rfl dX10_meetOf_83 ?_
              refine v_icmp_le (tgt := 93) C dX10_meetOf_86 (by decide) (fun h86 => ?_) (fun h86 => ?_)
              · refine v_iload_n C dX10_meetOf_93 rfl ?_
                refine v_istore_n (lv' := [(2, .int (oI (mxc (fun c => crossN m d c nT) c).1)), (0, .ref md), (1, .int (nI d)), (3, .int (nI c)), (4, .int (nI (crossN m d c nT))), (5, .int (nI nT))]) C dX10_meetOf_94 hN (by decide) rfl ?_
                refine v_aload_n C dX10_meetOf_95 rfl ?_
                refine v_iload C dX10_meetOf_96 rfl ?_
                refine v_aload_n C dX10_meetOf_98 rfl ?_
                refine v_get C kX10 (mset_same _ _ _) 11 (by decide) wF_X10_119 rfl dX10_meetOf_99 ?_
                refine v_icmp_le (tgt := 110) C dX10_meetOf_102 (by decide) (fun h102 => ?_) (fun hbad => absurd hbad (not_not_intro h86))
                refine v_aload_n C dX10_meetOf_110 rfl ?_
                refine v_get C kX10 (mset_same _ _ _) 11 (by decide) wF_X10_119 rfl dX10_meetOf_111 ?_
                refine v_put C kX10 (mset_same _ _ _) 11 (by decide) wF_X10_119 rfl rfl rfl (nle rfl) dX10_meetOf_114 ?_
                show V X (rmD 3 0 0) (mset (mset M md (.inr (10, [.int (nI nT), .ref t1, .ref t2, .int (nI nP), .ref t3, .ref t4, .int (nI nS), .ref t5, .ref t6, .ref t7, .ref t8, .int (nI (mxc (fun c => crossN m d c nT) c).2)]))) md (.inr (10, [.int (nI nT), .ref t1, .ref t2, .int (nI nP), .ref t3, .ref t4, .int (nI nS), .ref t5, .ref t6, .ref t7, .ref t8, .int (nI (mxc (fun c => crossN m d c nT) c).2)]))) 0 0 [(2, .int (oI (mxc (fun c => crossN m d c nT) c).1)), (0, .ref md), (1, .int (nI d)), (3, .int (nI c)), (4, .int (nI (crossN m d c nT))), (5, .int (nI nT))] 117 []
                refine v_iinc (lv' := [(3, .int (nI (c + 1))), (2, .int (oI (mxc (fun c => crossN m d c nT) c).1)), (0, .ref md), (1, .int (nI d)), (4, .int (nI (crossN m d c nT))), (5, .int (nI nT))]) C dX10_meetOf_117 3 rfl (nI_1 _) hN (by decide) rfl ?_
                refine v_goto (tgt := 10) C dX10_meetOf_120 (by decide) ?_
                refine v_sub (lv' := [(0, .ref md), (1, .int (nI d)), (2, .int (oI (mxc (fun c => crossN m d c nT) c).1)), (3, .int (nI (c + 1)))]) [2, 3, 1, 0] rfl ?_
                rw [mset_mset]
                have hnx : mxc (fun c => crossN m d c nT) (c + 1) = mxc (fun c => crossN m d c nT) c := if_neg (Nat.not_lt.mpr (nI_leN (by omega) (by omega) h86))
                have e10 := ih10 (c + 1) (by omega) (by omega)
                rw [hnx] at e10
                exact e10
              · refine v_iload_n C dX10_meetOf_89 rfl ?_
                refine v_goto (tgt := 94) C dX10_meetOf_90 (by decide) ?_
                refine v_istore_n (lv' := [(2, .int (nI c)), (0, .ref md), (1, .int (nI d)), (3, .int (nI c)), (4, .int (nI (crossN m d c nT))), (5, .int (nI nT))]) C dX10_meetOf_94 hN (by decide) rfl ?_
                refine v_aload_n C dX10_meetOf_95 rfl ?_
                refine v_iload C dX10_meetOf_96 rfl ?_
                refine v_aload_n C dX10_meetOf_98 rfl ?_
                refine v_get C kX10 (mset_same _ _ _) 11 (by decide) wF_X10_119 rfl dX10_meetOf_99 ?_
                refine v_icmp_le (tgt := 110) C dX10_meetOf_102 (by decide) (fun hbad => absurd hbad (h86)) (fun h102 => ?_)
                refine v_iload C dX10_meetOf_105 rfl ?_
                refine v_goto (tgt := 114) C dX10_meetOf_107 (by decide) ?_
                refine v_put C kX10 (mset_same _ _ _) 11 (by decide) wF_X10_119 rfl rfl rfl (nle rfl) dX10_meetOf_114 ?_
                show V X (rmD 3 0 0) (mset (mset M md (.inr (10, [.int (nI nT), .ref t1, .ref t2, .int (nI nP), .ref t3, .ref t4, .int (nI nS), .ref t5, .ref t6, .ref t7, .ref t8, .int (nI (mxc (fun c => crossN m d c nT) c).2)]))) md (.inr (10, [.int (nI nT), .ref t1, .ref t2, .int (nI nP), .ref t3, .ref t4, .int (nI nS), .ref t5, .ref t6, .ref t7, .ref t8, .int (nI (crossN m d c nT))]))) 0 0 [(2, .int (nI c)), (0, .ref md), (1, .int (nI d)), (3, .int (nI c)), (4, .int (nI (crossN m d c nT))), (5, .int (nI nT))] 117 []
                refine v_iinc (lv' := [(3, .int (nI (c + 1))), (2, .int (nI c)), (0, .ref md), (1, .int (nI d)), (4, .int (nI (crossN m d c nT))), (5, .int (nI nT))]) C dX10_meetOf_117 3 rfl (nI_1 _) hN (by decide) rfl ?_
                refine v_goto (tgt := 10) C dX10_meetOf_120 (by decide) ?_
                refine v_sub (lv' := [(0, .ref md), (1, .int (nI d)), (2, .int (nI c)), (3, .int (nI (c + 1)))]) [2, 3, 1, 0] rfl ?_
                rw [mset_mset]
                have hnx : mxc (fun c => crossN m d c nT) (c + 1) = (some c, crossN m d c nT) := if_pos (nI_nleN (by omega) (by omega) h86)
                have e10 := ih10 (c + 1) (by omega) (by omega)
                rw [hnx] at e10
                exact e10
            · have g28 := nI_nleN (by omega) (by omega) h28
              refine v_iload C dX10_meetOf_31 rfl ?_
              refine v_aload_n C dX10_meetOf_33 rfl ?_
              refine v_iload C dX10_meetOf_34 rfl ?_
              refine v_iload_n C dX10_meetOf_36 rfl ?_
              refine v_callV (As := [.int (nI k), .int (nI d)]) (rest := [.int (nI (crossN m d c k))]) (b := md) C (c_X10_faces (xl X) (xg X) (mset M md (.inr (10, [.int (nI nT), .ref t1, .ref t2, .int (nI nP), .ref t3, .ref t4, .int (nI nS), .ref t5, .ref t6, .ref t7, .ref t8, .int (nI (mxc (fun c => crossN m d c nT) c).2)]))) md t1 t2 t3 t4 t5 t6 t7 t8 fT fD fP fC fS fU fX fF (nI (mxc (fun c => crossN m d c nT) c).2) nT m dB nP pf cB nS sg ln tx fl hM2 k d (by omega) (by omega)) pm_X10_faces wI_X10_faces wS_X10_faces wM_X10_122 kX10 (mset_same _ _ _) ⟨by decide, by decide⟩ ⟨by decide, by decide⟩ (nle rfl) dX10_meetOf_37 rfl (dt1 ?_)
              show V X (rmD 3 0 0) (mset M md (.inr (10, [.int (nI nT), .ref t1, .ref t2, .int (nI nP), .ref t3, .ref t4, .int (nI nS), .ref t5, .ref t6, .ref t7, .ref t8, .int (nI (mxc (fun c => crossN m d c nT) c).2)]))) 0 0 [(0, .ref md), (1, .int (nI d)), (2, .int (oI (mxc (fun c => crossN m d c nT) c).1)), (3, .int (nI c)), (4, .int (nI (crossN m d c k))), (5, .int (nI k))] 40 [.int (bI (faceN (m k) d)), .int (nI (crossN m d c k))]
              refine v_ifb_eq (tgt := 70) C dX10_meetOf_40 (by decide) (fun h40 => ?_) (fun h40 => ?_)
              · refine v_iconst C dX10_meetOf_70 (v := 0) rfl ?_
                refine v_iadd C dX10_meetOf_71 ?_
                rw [show nI (crossN m d c k) + 0 = nI (crossN m d c (k + 1)) by rw [show crossN m d c (k + 1) = crossN m d c k + if (faceN (m k) d && onN (m k) (m k 8) c) then 1 else 0 from rfl, show (faceN (m k) d && onN (m k) (m k 8) c) = false from (by first | (rw [h40, h63]; rfl) | (rw [h40]; rfl))]; exact ix_ad (b := 0) rfl rfl]
                show V X (rmD 3 0 0) (mset M md (.inr (10, [.int (nI nT), .ref t1, .ref t2, .int (nI nP), .ref t3, .ref t4, .int (nI nS), .ref t5, .ref t6, .ref t7, .ref t8, .int (nI (mxc (fun c => crossN m d c nT) c).2)]))) 0 0 [(0, .ref md), (1, .int (nI d)), (2, .int (oI (mxc (fun c => crossN m d c nT) c).1)), (3, .int (nI c)), (4, .int (nI (crossN m d c k))), (5, .int (nI k))] 72 [.int (nI (crossN m d c (k + 1)))]
                refine v_istore (lv' := [(4, .int (nI (crossN m d c (k + 1)))), (0, .ref md), (1, .int (nI d)), (2, .int (oI (mxc (fun c => crossN m d c nT) c).1)), (3, .int (nI c)), (5, .int (nI k))]) C dX10_meetOf_72 hN (by decide) rfl ?_
                refine v_iinc (lv' := [(5, .int (nI (k + 1))), (4, .int (nI (crossN m d c (k + 1)))), (0, .ref md), (1, .int (nI d)), (2, .int (oI (mxc (fun c => crossN m d c nT) c).1)), (3, .int (nI c))]) C dX10_meetOf_74 5 rfl (nI_1 _) hN (by decide) rfl ?_
                refine v_goto (tgt := 22) C dX10_meetOf_77 (by decide) ?_
                refine v_sub (lv' := [(0, .ref md), (1, .int (nI d)), (2, .int (oI (mxc (fun c => crossN m d c nT) c).1)), (3, .int (nI c)), (4, .int (nI (crossN m d c (k + 1)))), (5, .int (nI (k + 1)))]) [2, 3, 4, 5, 1, 0] rfl ?_
                exact ih22 (k + 1) (by omega) (by omega)
              · have g8 : m k 8 < 8 := by have e8 := okT_ k g28; unfold okM at e8; unfold faceN at h40; simp at h40; omega
                refine v_aload_n C dX10_meetOf_43 rfl ?_
                refine v_iload C dX10_meetOf_44 rfl ?_
                refine v_aload_n C dX10_meetOf_46 rfl ?_
                refine v_get C kX10 (mset_same _ _ _) 1 (by decide) wF_X10_7 rfl dX10_meetOf_47 ?_
                refine v_bipush C dX10_meetOf_50 (v := 11) rfl ?_
                refine v_iload C dX10_meetOf_52 rfl ?_
                refine v_imul C dX10_meetOf_54 ?_
                refine v_bipush C dX10_meetOf_55 (v := 8) rfl ?_
                refine v_iadd C dX10_meetOf_57 ?_
                rw [show ((11 * (nI k)) + 8 : Int32) = nI (11 * k + 8) from ix_ad (ix_mu rfl rfl) rfl]
                refine v_iald C ((mset_ne n_t1_md).trans h1_) (vp_in_nI (by omega) (by decide)) dX10_meetOf_58 ?_
                rw [show fT (nI (11 * k + 8) : Int32).toNatClampNeg = nI (m k 8) from by rw [nI_clamp (by omega)]; exact cT k g28 8 (by omega)]
                refine v_iload_n C dX10_meetOf_59 rfl ?_
                refine v_callV (As := [.int (nI k), .int (nI (m k 8)), .int (nI c)]) (rest := [.int (nI (crossN m d c k))]) (b := md) C (c_X10_isOn (xl X) (xg X) (mset M md (.inr (10, [.int (nI nT), .ref t1, .ref t2, .int (nI nP), .ref t3, .ref t4, .int (nI nS), .ref t5, .ref t6, .ref t7, .ref t8, .int (nI (mxc (fun c => crossN m d c nT) c).2)]))) md t1 t2 t3 t4 t5 t6 t7 t8 fT fD fP fC fS fU fX fF (nI (mxc (fun c => crossN m d c nT) c).2) nT m dB nP pf cB nS sg ln tx fl hM2 k ((m k 8)) c (by omega) (by omega) (by omega)) pm_X10_isOn wI_X10_isOn wS_X10_isOn wM_X10_125 kX10 (mset_same _ _ _) ⟨by decide, by decide⟩ ⟨by decide, by decide⟩ (nle rfl) dX10_meetOf_60 rfl (dt1 ?_)
                show V X (rmD 3 0 0) (mset M md (.inr (10, [.int (nI nT), .ref t1, .ref t2, .int (nI nP), .ref t3, .ref t4, .int (nI nS), .ref t5, .ref t6, .ref t7, .ref t8, .int (nI (mxc (fun c => crossN m d c nT) c).2)]))) 0 0 [(0, .ref md), (1, .int (nI d)), (2, .int (oI (mxc (fun c => crossN m d c nT) c).1)), (3, .int (nI c)), (4, .int (nI (crossN m d c k))), (5, .int (nI k))] 63 [.int (bI (onN (m k) ((m k 8)) c)), .int (nI (crossN m d c k))]
                refine v_ifb_eq (tgt := 70) C dX10_meetOf_63 (by decide) (fun h63 => ?_) (fun h63 => ?_)
                · refine v_iconst C dX10_meetOf_70 (v := 0) rfl ?_
                  refine v_iadd C dX10_meetOf_71 ?_
                  rw [show nI (crossN m d c k) + 0 = nI (crossN m d c (k + 1)) by rw [show crossN m d c (k + 1) = crossN m d c k + if (faceN (m k) d && onN (m k) (m k 8) c) then 1 else 0 from rfl, show (faceN (m k) d && onN (m k) (m k 8) c) = false from (by first | (rw [h40, h63]; rfl) | (rw [h40]; rfl))]; exact ix_ad (b := 0) rfl rfl]
                  show V X (rmD 3 0 0) (mset M md (.inr (10, [.int (nI nT), .ref t1, .ref t2, .int (nI nP), .ref t3, .ref t4, .int (nI nS), .ref t5, .ref t6, .ref t7, .ref t8, .int (nI (mxc (fun c => crossN m d c nT) c).2)]))) 0 0 [(0, .ref md), (1, .int (nI d)), (2, .int (oI (mxc (fun c => crossN m d c nT) c).1)), (3, .int (nI c)), (4, .int (nI (crossN m d c k))), (5, .int (nI k))] 72 [.int (nI (crossN m d c (k + 1)))]
                  refine v_istore (lv' := [(4, .int (nI (crossN m d c (k + 1)))), (0, .ref md), (1, .int (nI d)), (2, .int (oI (mxc (fun c => crossN m d c nT) c).1)), (3, .int (nI c)), (5, .int (nI k))]) C dX10_meetOf_72 hN (by decide) rfl ?_
                  refine v_iinc (lv' := [(5, .int (nI (k + 1))), (4, .int (nI (crossN m d c (k + 1)))), (0, .ref md), (1, .int (nI d)), (2, .int (oI (mxc (fun c => crossN m d c nT) c).1)), (3, .int (nI c))]) C dX10_meetOf_74 5 rfl (nI_1 _) hN (by decide) rfl ?_
                  refine v_goto (tgt := 22) C dX10_meetOf_77 (by decide) ?_
                  refine v_sub (lv' := [(0, .ref md), (1, .int (nI d)), (2, .int (oI (mxc (fun c => crossN m d c nT) c).1)), (3, .int (nI c)), (4, .int (nI (crossN m d c (k + 1)))), (5, .int (nI (k + 1)))]) [2, 3, 4, 5, 1, 0] rfl ?_
                  exact ih22 (k + 1) (by omega) (by omega)
                · refine v_iconst C dX10_meetOf_66 (v := 1) rfl ?_
                  refine v_goto (tgt := 71) C dX10_meetOf_67 (by decide) ?_
                  refine v_iadd C dX10_meetOf_71 ?_
                  rw [show nI (crossN m d c k) + 1 = nI (crossN m d c (k + 1)) by rw [show crossN m d c (k + 1) = crossN m d c k + if (faceN (m k) d && onN (m k) (m k 8) c) then 1 else 0 from rfl, show (faceN (m k) d && onN (m k) (m k 8) c) = true from (by rw [h40, h63]; rfl)]; exact nI_1 _]
                  show V X (rmD 3 0 0) (mset M md (.inr (10, [.int (nI nT), .ref t1, .ref t2, .int (nI nP), .ref t3, .ref t4, .int (nI nS), .ref t5, .ref t6, .ref t7, .ref t8, .int (nI (mxc (fun c => crossN m d c nT) c).2)]))) 0 0 [(0, .ref md), (1, .int (nI d)), (2, .int (oI (mxc (fun c => crossN m d c nT) c).1)), (3, .int (nI c)), (4, .int (nI (crossN m d c k))), (5, .int (nI k))] 72 [.int (nI (crossN m d c (k + 1)))]
                  refine v_istore (lv' := [(4, .int (nI (crossN m d c (k + 1)))), (0, .ref md), (1, .int (nI d)), (2, .int (oI (mxc (fun c => crossN m d c nT) c).1)), (3, .int (nI c)), (5, .int (nI k))]) C dX10_meetOf_72 hN (by decide) rfl ?_
                  refine v_iinc (lv' := [(5, .int (nI (k + 1))), (4, .int (nI (crossN m d c (k + 1)))), (0, .ref md), (1, .int (nI d)), (2, .int (oI (mxc (fun c => crossN m d c nT) c).1)), (3, .int (nI c))]) C dX10_meetOf_74 5 rfl (nI_1 _) hN (by decide) rfl ?_
                  refine v_goto (tgt := 22) C dX10_meetOf_77 (by decide) ?_
                  refine v_sub (lv' := [(0, .ref md), (1, .int (nI d)), (2, .int (oI (mxc (fun c => crossN m d c nT) c).1)), (3, .int (nI c)), (4, .int (nI (crossN m d c (k + 1)))), (5, .int (nI (k + 1)))]) [2, 3, 4, 5, 1, 0] rfl ?_
                  exact ih22 (k + 1) (by omega) (by omega)
        exact lp22 (_ + 1) 0 (Nat.zero_le _) (Nat.lt_succ_self _)
  exact lp10 (_ + 1) 0 (Nat.zero_le _) (Nat.lt_succ_self _)

set_option maxHeartbeats 4000000 in
set_option maxRecDepth 100000 in
theorem c_X10_meet (l : Launch) (g : Gm) (M : Mem) (md : Nat) (t1 t2 t3 t4 t5 t6 t7 t8 : Nat) (fT fD fP fC fS fU fX fF : Nat → Int32) (mo : Int32) (nT : Nat) (m : Nat → Nat → Nat) (dB : Nat → Nat → Bool) (nP : Nat) (pf : Nat → Nat → Nat) (cB : Nat → Nat → Bool) (nS : Nat) (sg : Nat → Int32) (ln : Nat → Nat) (tx : Nat → Nat → Int32) (fl : Nat → Nat → Nat) (hM : ModA g M md t1 t2 t3 t4 t5 t6 t7 t8 fT fD fP fC fS fU fX fF mo nT m dB nP pf cB nS sg ln tx fl) (d z : Int32) : Ct l g yX10_meet cX10_meet 4 (some .int) 9 0 0 [.ref md, .int d, .int z] M (fun v N => v = some (.int (aMeet nT m d z)) ∧ ModW g N md nT m dB nP pf cB nS sg ln tx fl) := by
  refine Ct.of (by decide) (Nat.le_of_ble_eq_true rfl) ?_
  intro X hXl hXg hN C E
  subst hXl; subst hXg
  show V X (rmD 9 0 0) M 0 0 [(0, .ref md), (1, .int d), (2, .int z)] 0 []
  obtain ⟨hO, h1_, h2_, h3_, h4_, h5_, h6_, h7_, h8_, bT, bP, bS, okT_, cT, cD, okP_, cP, cC, cS, cU, bU_, cX, okX, okF_, cF⟩ := id hM
  have n_t1_md := cell_ne h1_ hO (by simp)
  have n_t2_md := cell_ne h2_ hO (by simp)
  have n_t3_md := cell_ne h3_ hO (by simp)
  have n_t4_md := cell_ne h4_ hO (by simp)
  have n_t5_md := cell_ne h5_ hO (by simp)
  have n_t6_md := cell_ne h6_ hO (by simp)
  have n_t7_md := cell_ne h7_ hO (by simp)
  have n_t8_md := cell_ne h8_ hO (by simp)
  refine v_iload_n C dX10_meet_0 rfl ?_
  refine v_callS (As := [.int d]) (rest := []) C (c_X10_isDay (xl X) (xg X) d M) pm_X10_isDay wT_X10_isDay wM_X10_46 ⟨by decide, by decide⟩ ⟨by decide, by decide⟩ (nle rfl) dX10_meet_1 rfl (dt1 ?_)
  show V X (rmD 9 0 0) M 0 0 [(0, .ref md), (1, .int d), (2, .int z)] 4 [.int (bI (qin d 0 99))]
  refine v_ifb_eq (tgt := 14) C dX10_meet_4 (by decide) (fun h4 => ?_) (fun h4 => ?_)
  · refine v_bipush C dX10_meet_14 (v := (-2)) rfl ?_
    exact v_iret C E dX10_meet_16 (nle rfl) (nle rfl) ⟨by first | (simp [aMeet, h4, h11]; done) | (simp [aMeet, h4]; done), hM.W⟩
  · refine v_iload_n C dX10_meet_7 rfl ?_
    refine v_callS (As := [.int z]) (rest := []) C (c_X10_isPart (xl X) (xg X) z M) pm_X10_isPart wT_X10_isPart wM_X10_77 ⟨by decide, by decide⟩ ⟨by decide, by decide⟩ (nle rfl) dX10_meet_8 rfl (dt1 ?_)
    show V X (rmD 9 0 0) M 0 0 [(0, .ref md), (1, .int d), (2, .int z)] 11 [.int (bI (qin z 0 1))]
    refine v_ifb_ne (tgt := 17) C dX10_meet_11 (by decide) (fun h11 => ?_) (fun h11 => ?_)
    · obtain ⟨e, hLe, hje, rfl⟩ := qin_nJ (x := d) (L := 0) (N := 99) (by decide) (by decide) h4
      obtain ⟨q, hLq, hjq, rfl⟩ := qin_nJ (x := z) (L := 0) (N := 1) (by decide) (by decide) h11
      show V X (rmD 9 0 0) M 0 0 [(0, .ref md), (1, .int (nI e)), (2, .int (nI q))] 17 []
      refine v_aload_n C dX10_meet_17 rfl ?_
      refine v_iload_n C dX10_meet_18 rfl ?_
      refine v_callV (As := [.int (nI e)]) (rest := []) (b := md) C (c_X10_meetOf (xl X) (xg X) M md t1 t2 t3 t4 t5 t6 t7 t8 fT fD fP fC fS fU fX fF mo nT m dB nP pf cB nS sg ln tx fl hM e (by omega)) pm_X10_meetOf wI_X10_meetOf wS_X10_meetOf wM_X10_128 kX10 hO ⟨by decide, by decide⟩ ⟨by decide, by decide⟩ (nle rfl) dX10_meet_19 rfl (dt1 ?_)
      show V X (rmD 9 0 0) (mset M md (.inr (10, [.int (nI nT), .ref t1, .ref t2, .int (nI nP), .ref t3, .ref t4, .int (nI nS), .ref t5, .ref t6, .ref t7, .ref t8, .int (nI (metN nT m e).2)]))) 0 0 [(0, .ref md), (1, .int (nI e)), (2, .int (nI q))] 22 [.int (oI (metN nT m e).1)]
      refine v_istore_n (lv' := [(3, .int (oI (metN nT m e).1)), (0, .ref md), (1, .int (nI e)), (2, .int (nI q))]) C dX10_meet_22 hN (by decide) rfl ?_
      refine v_iload_n C dX10_meet_23 rfl ?_
      refine v_if_ne (tgt := 31) C dX10_meet_24 (by decide) (fun h24 => ?_) (fun h24 => ?_)
      · refine v_aload_n C dX10_meet_31 rfl ?_
        refine v_get C kX10 (mset_same _ _ _) 11 (by decide) wF_X10_119 rfl dX10_meet_32 ?_
        exact v_iret C E dX10_meet_35 (nle rfl) (nle rfl) ⟨by simp only [aMeet, h4, h11, Bool.and_self, if_true]; rw [nI_clamp (n := e) (by omega), if_neg h24], (hM.most _).W⟩
      · refine v_iload_n C dX10_meet_27 rfl ?_
        refine v_goto (tgt := 35) C dX10_meet_28 (by decide) ?_
        exact v_iret C E dX10_meet_35 (nle rfl) (nle rfl) ⟨by simp only [aMeet, h4, h11, Bool.and_self, if_true]; rw [nI_clamp (n := e) (by omega), if_pos h24], (hM.most _).W⟩
    · refine v_bipush C dX10_meet_14 (v := (-2)) rfl ?_
      exact v_iret C E dX10_meet_16 (nle rfl) (nle rfl) ⟨by first | (simp [aMeet, h4, h11]; done) | (simp [aMeet, h4]; done), hM.W⟩

theorem ways_t {m : Nat → Nat} (hm : okM m) {c i : Nat} (hc : c < 96) (hi : i < 8) (h : onN m i c = true) : lN (if anyB (fun w => onN m w c) i then 1 else 0) + 1 = lN (if anyB (fun w => onN m w c) (i + 1) then 1 else 0) := by
  have h0 : anyB (fun w => onN m w c) i = false := Bool.eq_false_iff.mpr (fun q => by
    obtain ⟨j, hj, hq⟩ := anyB_iff.mp q
    have := on_uniq hm (show j < 8 by omega) hi hc hq h
    omega)
  rw [anyB_s, h0, h]
  rfl
theorem ways_f {m : Nat → Nat} {c i : Nat} (h : onN m i c = false) : lN (if anyB (fun w => onN m w c) i then 1 else 0) + 0 = lN (if anyB (fun w => onN m w c) (i + 1) then 1 else 0) := by
  rw [anyB_s, h, Bool.or_false]
  exact lN_add _ 0
theorem up_t {P : Nat → Bool} {Q : Nat → Bool} {k : Nat} (h : P k = true) : lN (if anyB (fun t => P t && !Q t) k then 0 else 1) * lN (if Q k then 1 else 0) = lN (if anyB (fun t => P t && !Q t) (k + 1) then 0 else 1) := by
  rw [anyB_s, h, lN_mul]
  cases anyB (fun t => P t && !Q t) k <;> cases Q k <;> rfl
theorem up_f {P : Nat → Bool} {Q : Nat → Bool} {k : Nat} (h : P k = false) : anyB (fun t => P t && !Q t) (k + 1) = anyB (fun t => P t && !Q t) k := by
  rw [anyB_s, h]
  cases anyB (fun t => P t && !Q t) k <;> rfl
set_option maxHeartbeats 4000000 in
set_option maxRecDepth 100000 in
theorem c_X10_chance (l : Launch) (g : Gm) (M : Mem) (md : Nat) (t1 t2 t3 t4 t5 t6 t7 t8 : Nat) (fT fD fP fC fS fU fX fF : Nat → Int32) (mo : Int32) (nT : Nat) (m : Nat → Nat → Nat) (dB : Nat → Nat → Bool) (nP : Nat) (pf : Nat → Nat → Nat) (cB : Nat → Nat → Bool) (nS : Nat) (sg : Nat → Int32) (ln : Nat → Nat) (tx : Nat → Nat → Int32) (fl : Nat → Nat → Nat) (hM : ModA g M md t1 t2 t3 t4 t5 t6 t7 t8 fT fD fP fC fS fU fX fF mo nT m dB nP pf cB nS sg ln tx fl) (d z : Int32) : Ct l g yX10_chance cX10_chance 12 (some .long) 9 0 0 [.ref md, .int d, .int z] M (fun v N => v = some (.long (aChance nT m d z)) ∧ ModW g N md nT m dB nP pf cB nS sg ln tx fl) := by
  refine Ct.of (by decide) (Nat.le_of_ble_eq_true rfl) ?_
  intro X hXl hXg hN C E
  subst hXl; subst hXg
  show V X (rmD 9 0 0) M 0 0 [(0, .ref md), (1, .int d), (2, .int z)] 0 []
  obtain ⟨hO, h1_, h2_, h3_, h4_, h5_, h6_, h7_, h8_, bT, bP, bS, okT_, cT, cD, okP_, cP, cC, cS, cU, bU_, cX, okX, okF_, cF⟩ := id hM
  have n_t1_md := cell_ne h1_ hO (by simp)
  have n_t2_md := cell_ne h2_ hO (by simp)
  have n_t3_md := cell_ne h3_ hO (by simp)
  have n_t4_md := cell_ne h4_ hO (by simp)
  have n_t5_md := cell_ne h5_ hO (by simp)
  have n_t6_md := cell_ne h6_ hO (by simp)
  have n_t7_md := cell_ne h7_ hO (by simp)
  have n_t8_md := cell_ne h8_ hO (by simp)
  refine v_iload_n C dX10_chance_0 rfl ?_
  refine v_callS (As := [.int d]) (rest := []) C (c_X10_isDay (xl X) (xg X) d M) pm_X10_isDay wT_X10_isDay wM_X10_46 ⟨by decide, by decide⟩ ⟨by decide, by decide⟩ (nle rfl) dX10_chance_1 rfl (dt1 ?_)
  show V X (rmD 9 0 0) M 0 0 [(0, .ref md), (1, .int d), (2, .int z)] 4 [.int (bI (qin d 0 99))]
  refine v_ifb_eq (tgt := 14) C dX10_chance_4 (by decide) (fun h4 => ?_) (fun h4 => ?_)
  · refine v_ldc2 C dX10_chance_14 wJ_X10_131 ?_
    exact v_lret C E dX10_chance_17 (nle rfl) (nle rfl) ⟨by first | (simp [aChance, h4, h11]; done) | (simp [aChance, h4]; done), hM.W⟩
  · refine v_iload_n C dX10_chance_7 rfl ?_
    refine v_callS (As := [.int z]) (rest := []) C (c_X10_isPart (xl X) (xg X) z M) pm_X10_isPart wT_X10_isPart wM_X10_77 ⟨by decide, by decide⟩ ⟨by decide, by decide⟩ (nle rfl) dX10_chance_8 rfl (dt1 ?_)
    show V X (rmD 9 0 0) M 0 0 [(0, .ref md), (1, .int d), (2, .int z)] 11 [.int (bI (qin z 0 1))]
    refine v_ifb_ne (tgt := 18) C dX10_chance_11 (by decide) (fun h11 => ?_) (fun h11 => ?_)
    · obtain ⟨e, hLe, hje, rfl⟩ := qin_nJ (x := d) (L := 0) (N := 99) (by decide) (by decide) h4
      obtain ⟨q, hLq, hjq, rfl⟩ := qin_nJ (x := z) (L := 0) (N := 1) (by decide) (by decide) h11
      show V X (rmD 9 0 0) M 0 0 [(0, .ref md), (1, .int (nI e)), (2, .int (nI q))] 18 []
      refine v_aload_n C dX10_chance_18 rfl ?_
      refine v_iload_n C dX10_chance_19 rfl ?_
      refine v_callV (As := [.int (nI e)]) (rest := []) (b := md) C (c_X10_meetOf (xl X) (xg X) M md t1 t2 t3 t4 t5 t6 t7 t8 fT fD fP fC fS fU fX fF mo nT m dB nP pf cB nS sg ln tx fl hM e (by omega)) pm_X10_meetOf wI_X10_meetOf wS_X10_meetOf wM_X10_128 kX10 hO ⟨by decide, by decide⟩ ⟨by decide, by decide⟩ (nle rfl) dX10_chance_20 rfl (dt1 ?_)
      show V X (rmD 9 0 0) (mset M md (.inr (10, [.int (nI nT), .ref t1, .ref t2, .int (nI nP), .ref t3, .ref t4, .int (nI nS), .ref t5, .ref t6, .ref t7, .ref t8, .int (nI (metN nT m e).2)]))) 0 0 [(0, .ref md), (1, .int (nI e)), (2, .int (nI q))] 23 [.int (oI (metN nT m e).1)]
      refine v_istore_n (lv' := [(3, .int (oI (metN nT m e).1)), (0, .ref md), (1, .int (nI e)), (2, .int (nI q))]) C dX10_chance_23 hN (by decide) rfl ?_
      have hM2 := hM.most (nI (metN nT m e).2)
      obtain ⟨o1, ho⟩ : ∃ o1, o1 = (metN nT m e).1 := ⟨_, rfl⟩
      rcases o1 with _ | c
      · have hb := ho.symm
        rw [show oI (metN nT m e).1 = (-6) by rw [hb]; rfl]
        show V X (rmD 9 0 0) (mset M md (.inr (10, [.int (nI nT), .ref t1, .ref t2, .int (nI nP), .ref t3, .ref t4, .int (nI nS), .ref t5, .ref t6, .ref t7, .ref t8, .int (nI (metN nT m e).2)]))) 0 0 [(3, .int ((-6))), (0, .ref md), (1, .int (nI e)), (2, .int (nI q))] 24 []
        refine v_iload_n C dX10_chance_24 rfl ?_
        refine v_if_ge (tgt := 32) C dX10_chance_25 (by decide) (fun hbad => absurd hbad (by decide)) (fun h25 => ?_)
        refine v_ldc2 C dX10_chance_28 wJ_X10_133 ?_
        exact v_lret C E dX10_chance_31 (nle rfl) (nle rfl) ⟨by simp only [aChance, h4, h11, Bool.and_self, if_true]; rw [nI_clamp (n := e) (by omega), hb], hM2.W⟩
      · have hb := ho.symm
        have hc : c < 96 := mxc_lt hb
        rw [show oI (metN nT m e).1 = nI c by rw [hb]; rfl]
        show V X (rmD 9 0 0) (mset M md (.inr (10, [.int (nI nT), .ref t1, .ref t2, .int (nI nP), .ref t3, .ref t4, .int (nI nS), .ref t5, .ref t6, .ref t7, .ref t8, .int (nI (metN nT m e).2)]))) 0 0 [(3, .int (nI c)), (0, .ref md), (1, .int (nI e)), (2, .int (nI q))] 24 []
        refine v_iload_n C dX10_chance_24 rfl ?_
        refine v_if_ge (tgt := 32) C dX10_chance_25 (by decide) (fun h25 => ?_) (fun hbad => absurd hbad (not_not_intro (Int32.not_lt.mp (nI_pos (by omega)))))
        refine v_lconst C dX10_chance_32 (v := 1) rfl ?_
        refine v_lstore (lv' := [(4, .long 1), (3, .int (nI c)), (0, .ref md), (1, .int (nI e)), (2, .int (nI q))]) C dX10_chance_33 hN (by decide) rfl ?_
        refine v_lconst C dX10_chance_35 (v := 1) rfl ?_
        refine v_lstore (lv' := [(6, .long 1), (4, .long 1), (3, .int (nI c)), (0, .ref md), (1, .int (nI e)), (2, .int (nI q))]) C dX10_chance_36 hN (by decide) rfl ?_
        refine v_iconst C dX10_chance_38 (v := 0) rfl ?_
        refine v_istore (lv' := [(8, .int 0), (6, .long 1), (4, .long 1), (3, .int (nI c)), (0, .ref md), (1, .int (nI e)), (2, .int (nI q))]) C dX10_chance_39 hN (by decide) rfl ?_
        refine v_sub (lv' := [(0, .ref md), (1, .int (nI e)), (2, .int (nI q)), (3, .int (nI c)), (4, .long 1), (6, .long 1), (8, .int 0)]) [4, 5, 6, 3, 2, 1, 0] rfl ?_
        have lp41 : ∀ (mm : Nat) (k : Nat) (h1 : k ≤ nT), nT - k < mm → V X (rmD 9 0 0) (mset M md (.inr (10, [.int (nI nT), .ref t1, .ref t2, .int (nI nP), .ref t3, .ref t4, .int (nI nS), .ref t5, .ref t6, .ref t7, .ref t8, .int (nI (metN nT m e).2)]))) 0 0 [(0, .ref md), (1, .int (nI e)), (2, .int (nI q)), (3, .int (nI c)), (4, .long (lN (if anyB (fun t => faceN (m t) e && !mayN (m t) c) k then 0 else 1))), (6, .long (lN (8 ^ cntB (fun t => faceN (m t) e) k))), (8, .int (nI k))] 41 [] := by
          intro mm
          induction mm with
          | zero => intro k h1 hmu; exact absurd hmu (Nat.not_lt_zero _)
          | succ mm ih41 =>
            intro k h1 hmu
            refine v_iload C dX10_chance_41 rfl ?_
            refine v_aload_n C dX10_chance_43 rfl ?_
            refine v_get C kX10 (mset_same _ _ _) 0 (by decide) wF_X10_39 rfl dX10_chance_44 ?_
            refine v_icmp_ge (tgt := 122) C dX10_chance_47 (by decide) (fun h47 => ?_) (fun h47 => ?_)
            · rw [show k = nT from Nat.le_antisymm h1 (nI_leN (by omega) (by omega) h47)]
              show V X (rmD 9 0 0) (mset M md (.inr (10, [.int (nI nT), .ref t1, .ref t2, .int (nI nP), .ref t3, .ref t4, .int (nI nS), .ref t5, .ref t6, .ref t7, .ref t8, .int (nI (metN nT m e).2)]))) 0 0 [(0, .ref md), (1, .int (nI e)), (2, .int (nI q)), (3, .int (nI c)), (4, .long (lN (if anyB (fun t => faceN (m t) e && !mayN (m t) c) nT then 0 else 1))), (6, .long (lN (8 ^ cntB (fun t => faceN (m t) e) nT))), (8, .int (nI nT))] 122 []
              refine v_lload C dX10_chance_122 rfl ?_
              refine v_lload C dX10_chance_124 rfl ?_
              refine v_iload_n C dX10_chance_126 rfl ?_
              refine v_callS (As := [.long (lN (if anyB (fun t => faceN (m t) e && !mayN (m t) c) nT then 0 else 1)), .long (lN (8 ^ cntB (fun t => faceN (m t) e) nT)), .int (nI q)]) (rest := []) C (c_X10_term (xl X) (xg X) (if anyB (fun t => faceN (m t) e && !mayN (m t) c) nT then 0 else 1) (8 ^ cntB (fun t => faceN (m t) e) nT) q (by split <;> decide) (Nat.lt_of_le_of_lt (Nat.pow_le_pow_right (by decide) (Nat.le_trans (cntB_le _ _) bT)) (by decide)) (Nat.pow_pos (by decide)) (by omega) (mset M md (.inr (10, [.int (nI nT), .ref t1, .ref t2, .int (nI nP), .ref t3, .ref t4, .int (nI nS), .ref t5, .ref t6, .ref t7, .ref t8, .int (nI (metN nT m e).2)])))) pm_X10_term wT_X10_term wM_X10_137 ⟨by decide, by decide⟩ ⟨by decide, by decide⟩ (nle rfl) dX10_chance_127 rfl (dt1 ?_)
              show V X (rmD 9 0 0) (mset M md (.inr (10, [.int (nI nT), .ref t1, .ref t2, .int (nI nP), .ref t3, .ref t4, .int (nI nS), .ref t5, .ref t6, .ref t7, .ref t8, .int (nI (metN nT m e).2)]))) 0 0 [(0, .ref md), (1, .int (nI e)), (2, .int (nI q)), (3, .int (nI c)), (4, .long (lN (if anyB (fun t => faceN (m t) e && !mayN (m t) c) nT then 0 else 1))), (6, .long (lN (8 ^ cntB (fun t => faceN (m t) e) nT))), (8, .int (nI nT))] 130 [.long (lN (frN (if anyB (fun t => faceN (m t) e && !mayN (m t) c) nT then 0 else 1) (8 ^ cntB (fun t => faceN (m t) e) nT) q))]
              exact v_lret C E dX10_chance_130 (nle rfl) (nle rfl) ⟨by simp only [aChance, h4, h11, Bool.and_self, if_true]; rw [nI_clamp (n := e) (by omega), hb, nI_clamp (n := q) (by omega)], hM2.W⟩
            · have g47 := nI_nleN (by omega) (by omega) h47
              refine v_aload_n C dX10_chance_50 rfl ?_
              refine v_iload C dX10_chance_51 rfl ?_
              refine v_iload_n C dX10_chance_53 rfl ?_
              refine v_callV (As := [.int (nI k), .int (nI e)]) (rest := []) (b := md) C (c_X10_faces (xl X) (xg X) (mset M md (.inr (10, [.int (nI nT), .ref t1, .ref t2, .int (nI nP), .ref t3, .ref t4, .int (nI nS), .ref t5, .ref t6, .ref t7, .ref t8, .int (nI (metN nT m e).2)]))) md t1 t2 t3 t4 t5 t6 t7 t8 fT fD fP fC fS fU fX fF (nI (metN nT m e).2) nT m dB nP pf cB nS sg ln tx fl hM2 k e (by omega) (by omega)) pm_X10_faces wI_X10_faces wS_X10_faces wM_X10_122 kX10 (mset_same _ _ _) ⟨by decide, by decide⟩ ⟨by decide, by decide⟩ (nle rfl) dX10_chance_54 rfl (dt1 ?_)
              show V X (rmD 9 0 0) (mset M md (.inr (10, [.int (nI nT), .ref t1, .ref t2, .int (nI nP), .ref t3, .ref t4, .int (nI nS), .ref t5, .ref t6, .ref t7, .ref t8, .int (nI (metN nT m e).2)]))) 0 0 [(0, .ref md), (1, .int (nI e)), (2, .int (nI q)), (3, .int (nI c)), (4, .long (lN (if anyB (fun t => faceN (m t) e && !mayN (m t) c) k then 0 else 1))), (6, .long (lN (8 ^ cntB (fun t => faceN (m t) e) k))), (8, .int (nI k))] 57 [.int (bI (faceN (m k) e))]
              refine v_ifb_eq (tgt := 116) C dX10_chance_57 (by decide) (fun h57 => ?_) (fun h57 => ?_)
              · refine v_iinc (lv' := [(8, .int (nI (k + 1))), (0, .ref md), (1, .int (nI e)), (2, .int (nI q)), (3, .int (nI c)), (4, .long (lN (if anyB (fun t => faceN (m t) e && !mayN (m t) c) k then 0 else 1))), (6, .long (lN (8 ^ cntB (fun t => faceN (m t) e) k)))]) C dX10_chance_116 6 rfl (nI_1 _) hN (by decide) rfl ?_
                refine v_goto (tgt := 41) C dX10_chance_119 (by decide) ?_
                refine v_sub (lv' := [(0, .ref md), (1, .int (nI e)), (2, .int (nI q)), (3, .int (nI c)), (4, .long (lN (if anyB (fun t => faceN (m t) e && !mayN (m t) c) k then 0 else 1))), (6, .long (lN (8 ^ cntB (fun t => faceN (m t) e) k))), (8, .int (nI (k + 1)))]) [1, 2, 3, 4, 5, 6, 0] rfl ?_
                have e41 := ih41 (k + 1) (by omega) (by omega)
                rw [show anyB (fun t => faceN (m t) e && !mayN (m t) c) (k + 1) = anyB (fun t => faceN (m t) e && !mayN (m t) c) k from up_f (P := fun t => faceN (m t) e) (Q := fun t => mayN (m t) c) h57, show cntB (fun t => faceN (m t) e) (k + 1) = cntB (fun t => faceN (m t) e) k from by rw [cntB_s, h57]; rfl] at e41
                exact e41
              · refine v_lconst C dX10_chance_60 (v := 0) rfl ?_
                refine v_lstore (lv' := [(9, .long 0), (0, .ref md), (1, .int (nI e)), (2, .int (nI q)), (3, .int (nI c)), (4, .long (lN (if anyB (fun t => faceN (m t) e && !mayN (m t) c) k then 0 else 1))), (6, .long (lN (8 ^ cntB (fun t => faceN (m t) e) k))), (8, .int (nI k))]) C dX10_chance_61 hN (by decide) rfl ?_
                refine v_iconst C dX10_chance_63 (v := 0) rfl ?_
                refine v_istore (lv' := [(11, .int 0), (9, .long 0), (0, .ref md), (1, .int (nI e)), (2, .int (nI q)), (3, .int (nI c)), (4, .long (lN (if anyB (fun t => faceN (m t) e && !mayN (m t) c) k then 0 else 1))), (6, .long (lN (8 ^ cntB (fun t => faceN (m t) e) k))), (8, .int (nI k))]) C dX10_chance_64 hN (by decide) rfl ?_
                refine v_sub (lv' := [(0, .ref md), (1, .int (nI e)), (2, .int (nI q)), (3, .int (nI c)), (4, .long (lN (if anyB (fun t => faceN (m t) e && !mayN (m t) c) k then 0 else 1))), (6, .long (lN (8 ^ cntB (fun t => faceN (m t) e) k))), (8, .int (nI k)), (9, .long 0), (11, .int 0)]) [2, 3, 4, 5, 6, 7, 8, 1, 0] rfl ?_
                have lp66 : ∀ (mm : Nat) (i : Nat) (h2 : i ≤ 8), 8 - i < mm → V X (rmD 9 0 0) (mset M md (.inr (10, [.int (nI nT), .ref t1, .ref t2, .int (nI nP), .ref t3, .ref t4, .int (nI nS), .ref t5, .ref t6, .ref t7, .ref t8, .int (nI (metN nT m e).2)]))) 0 0 [(0, .ref md), (1, .int (nI e)), (2, .int (nI q)), (3, .int (nI c)), (4, .long (lN (if anyB (fun t => faceN (m t) e && !mayN (m t) c) k then 0 else 1))), (6, .long (lN (8 ^ cntB (fun t => faceN (m t) e) k))), (8, .int (nI k)), (9, .long (lN (if anyB (fun w => onN (m k) w c) i then 1 else 0))), (11, .int (nI i))] 66 [] := by
                  intro mm
                  induction mm with
                  | zero => intro i h2 hmu; exact absurd hmu (Nat.not_lt_zero _)
                  | succ mm ih66 =>
                    intro i h2 hmu
                    refine v_iload C dX10_chance_66 rfl ?_
                    refine v_bipush C dX10_chance_68 (v := 8) rfl ?_
                    refine v_icmp_ge (tgt := 101) C dX10_chance_70 (by decide) (fun h70 => ?_) (fun h70 => ?_)
                    · rw [show i = 8 from Nat.le_antisymm h2 (nI_leN (a := 8) (by decide) (by omega) h70)]
                      show V X (rmD 9 0 0) (mset M md (.inr (10, [.int (nI nT), .ref t1, .ref t2, .int (nI nP), .ref t3, .ref t4, .int (nI nS), .ref t5, .ref t6, .ref t7, .ref t8, .int (nI (metN nT m e).2)]))) 0 0 [(0, .ref md), (1, .int (nI e)), (2, .int (nI q)), (3, .int (nI c)), (4, .long (lN (if anyB (fun t => faceN (m t) e && !mayN (m t) c) k then 0 else 1))), (6, .long (lN (8 ^ cntB (fun t => faceN (m t) e) k))), (8, .int (nI k)), (9, .long (lN (if anyB (fun w => onN (m k) w c) 8 then 1 else 0))), (11, .int (nI 8))] 101 []
                      refine v_lload C dX10_chance_101 rfl ?_
                      refine v_lload C dX10_chance_103 rfl ?_
                      refine v_lmul C dX10_chance_105 ?_
                      have e106 := up_t (P := fun t => faceN (m t) e) (Q := fun t => mayN (m t) c) (k := k) h57
                      rw [show lN (if anyB (fun t => faceN (m t) e && !mayN (m t) c) k then 0 else 1) * lN (if anyB (fun w => onN (m k) w c) 8 then 1 else 0) = lN (if anyB (fun t => faceN (m t) e && !mayN (m t) c) (k + 1) then 0 else 1) from e106]
                      show V X (rmD 9 0 0) (mset M md (.inr (10, [.int (nI nT), .ref t1, .ref t2, .int (nI nP), .ref t3, .ref t4, .int (nI nS), .ref t5, .ref t6, .ref t7, .ref t8, .int (nI (metN nT m e).2)]))) 0 0 [(0, .ref md), (1, .int (nI e)), (2, .int (nI q)), (3, .int (nI c)), (4, .long (lN (if anyB (fun t => faceN (m t) e && !mayN (m t) c) k then 0 else 1))), (6, .long (lN (8 ^ cntB (fun t => faceN (m t) e) k))), (8, .int (nI k)), (9, .long (lN (if anyB (fun w => onN (m k) w c) 8 then 1 else 0))), (11, .int (nI 8))] 106 [.long (lN (if anyB (fun t => faceN (m t) e && !mayN (m t) c) (k + 1) then 0 else 1))]
                      refine v_lstore (lv' := [(4, .long (lN (if anyB (fun t => faceN (m t) e && !mayN (m t) c) (k + 1) then 0 else 1))), (0, .ref md), (1, .int (nI e)), (2, .int (nI q)), (3, .int (nI c)), (6, .long (lN (8 ^ cntB (fun t => faceN (m t) e) k))), (8, .int (nI k)), (9, .long (lN (if anyB (fun w => onN (m k) w c) 8 then 1 else 0))), (11, .int (nI 8))]) C dX10_chance_106 hN (by decide) rfl ?_
                      refine v_lload C dX10_chance_108 rfl ?_
                      refine v_ldc2 C dX10_chance_110 wJ_X10_135 ?_
                      refine v_lmul C dX10_chance_113 ?_
                      rw [show lN (8 ^ cntB (fun t => faceN (m t) e) k) * 8 = lN (8 ^ cntB (fun t => faceN (m t) e) (k + 1)) from by rw [show (8 : Int64) = lN 8 from rfl, lN_mul, ← Nat.pow_succ, cntB_s, h57]; rfl]
                      show V X (rmD 9 0 0) (mset M md (.inr (10, [.int (nI nT), .ref t1, .ref t2, .int (nI nP), .ref t3, .ref t4, .int (nI nS), .ref t5, .ref t6, .ref t7, .ref t8, .int (nI (metN nT m e).2)]))) 0 0 [(4, .long (lN (if anyB (fun t => faceN (m t) e && !mayN (m t) c) (k + 1) then 0 else 1))), (0, .ref md), (1, .int (nI e)), (2, .int (nI q)), (3, .int (nI c)), (6, .long (lN (8 ^ cntB (fun t => faceN (m t) e) k))), (8, .int (nI k)), (9, .long (lN (if anyB (fun w => onN (m k) w c) 8 then 1 else 0))), (11, .int (nI 8))] 114 [.long (lN (8 ^ cntB (fun t => faceN (m t) e) (k + 1)))]
                      refine v_lstore (lv' := [(6, .long (lN (8 ^ cntB (fun t => faceN (m t) e) (k + 1)))), (4, .long (lN (if anyB (fun t => faceN (m t) e && !mayN (m t) c) (k + 1) then 0 else 1))), (0, .ref md), (1, .int (nI e)), (2, .int (nI q)), (3, .int (nI c)), (8, .int (nI k)), (9, .long (lN (if anyB (fun w => onN (m k) w c) 8 then 1 else 0))), (11, .int (nI 8))]) C dX10_chance_114 hN (by decide) rfl ?_
                      refine v_iinc (lv' := [(8, .int (nI (k + 1))), (6, .long (lN (8 ^ cntB (fun t => faceN (m t) e) (k + 1)))), (4, .long (lN (if anyB (fun t => faceN (m t) e && !mayN (m t) c) (k + 1) then 0 else 1))), (0, .ref md), (1, .int (nI e)), (2, .int (nI q)), (3, .int (nI c)), (9, .long (lN (if anyB (fun w => onN (m k) w c) 8 then 1 else 0))), (11, .int (nI 8))]) C dX10_chance_116 6 rfl (nI_1 _) hN (by decide) rfl ?_
                      refine v_goto (tgt := 41) C dX10_chance_119 (by decide) ?_
                      refine v_sub (lv' := [(0, .ref md), (1, .int (nI e)), (2, .int (nI q)), (3, .int (nI c)), (4, .long (lN (if anyB (fun t => faceN (m t) e && !mayN (m t) c) (k + 1) then 0 else 1))), (6, .long (lN (8 ^ cntB (fun t => faceN (m t) e) (k + 1)))), (8, .int (nI (k + 1)))]) [3, 4, 5, 6, 2, 1, 0] rfl ?_
                      exact ih41 (k + 1) (by omega) (by omega)
                    · have g70 := nI_nleN (a := 8) (by decide) (by omega) h70
                      refine v_lload C dX10_chance_73 rfl ?_
                      refine v_aload_n C dX10_chance_75 rfl ?_
                      refine v_iload C dX10_chance_76 rfl ?_
                      refine v_iload C dX10_chance_78 rfl ?_
                      refine v_iload_n C dX10_chance_80 rfl ?_
                      refine v_callV (As := [.int (nI k), .int (nI i), .int (nI c)]) (rest := [.long (lN (if anyB (fun w => onN (m k) w c) i then 1 else 0))]) (b := md) C (c_X10_isOn (xl X) (xg X) (mset M md (.inr (10, [.int (nI nT), .ref t1, .ref t2, .int (nI nP), .ref t3, .ref t4, .int (nI nS), .ref t5, .ref t6, .ref t7, .ref t8, .int (nI (metN nT m e).2)]))) md t1 t2 t3 t4 t5 t6 t7 t8 fT fD fP fC fS fU fX fF (nI (metN nT m e).2) nT m dB nP pf cB nS sg ln tx fl hM2 k i c (by omega) (by omega) (by omega)) pm_X10_isOn wI_X10_isOn wS_X10_isOn wM_X10_125 kX10 (mset_same _ _ _) ⟨by decide, by decide⟩ ⟨by decide, by decide⟩ (nle rfl) dX10_chance_81 rfl (dt1 ?_)
                      show V X (rmD 9 0 0) (mset M md (.inr (10, [.int (nI nT), .ref t1, .ref t2, .int (nI nP), .ref t3, .ref t4, .int (nI nS), .ref t5, .ref t6, .ref t7, .ref t8, .int (nI (metN nT m e).2)]))) 0 0 [(0, .ref md), (1, .int (nI e)), (2, .int (nI q)), (3, .int (nI c)), (4, .long (lN (if anyB (fun t => faceN (m t) e && !mayN (m t) c) k then 0 else 1))), (6, .long (lN (8 ^ cntB (fun t => faceN (m t) e) k))), (8, .int (nI k)), (9, .long (lN (if anyB (fun w => onN (m k) w c) i then 1 else 0))), (11, .int (nI i))] 84 [.int (bI (onN (m k) i c)), .long (lN (if anyB (fun w => onN (m k) w c) i then 1 else 0))]
                      refine v_ifb_eq (tgt := 91) C dX10_chance_84 (by decide) (fun h84 => ?_) (fun h84 => ?_)
                      · refine v_lconst C dX10_chance_91 (v := 0) rfl ?_
                        refine v_ladd C dX10_chance_92 ?_
                        rw [ways_f h84]
                        show V X (rmD 9 0 0) (mset M md (.inr (10, [.int (nI nT), .ref t1, .ref t2, .int (nI nP), .ref t3, .ref t4, .int (nI nS), .ref t5, .ref t6, .ref t7, .ref t8, .int (nI (metN nT m e).2)]))) 0 0 [(0, .ref md), (1, .int (nI e)), (2, .int (nI q)), (3, .int (nI c)), (4, .long (lN (if anyB (fun t => faceN (m t) e && !mayN (m t) c) k then 0 else 1))), (6, .long (lN (8 ^ cntB (fun t => faceN (m t) e) k))), (8, .int (nI k)), (9, .long (lN (if anyB (fun w => onN (m k) w c) i then 1 else 0))), (11, .int (nI i))] 93 [.long (lN (if anyB (fun w => onN (m k) w c) (i + 1) then 1 else 0))]
                        refine v_lstore (lv' := [(9, .long (lN (if anyB (fun w => onN (m k) w c) (i + 1) then 1 else 0))), (0, .ref md), (1, .int (nI e)), (2, .int (nI q)), (3, .int (nI c)), (4, .long (lN (if anyB (fun t => faceN (m t) e && !mayN (m t) c) k then 0 else 1))), (6, .long (lN (8 ^ cntB (fun t => faceN (m t) e) k))), (8, .int (nI k)), (11, .int (nI i))]) C dX10_chance_93 hN (by decide) rfl ?_
                        refine v_iinc (lv' := [(11, .int (nI (i + 1))), (9, .long (lN (if anyB (fun w => onN (m k) w c) (i + 1) then 1 else 0))), (0, .ref md), (1, .int (nI e)), (2, .int (nI q)), (3, .int (nI c)), (4, .long (lN (if anyB (fun t => faceN (m t) e && !mayN (m t) c) k then 0 else 1))), (6, .long (lN (8 ^ cntB (fun t => faceN (m t) e) k))), (8, .int (nI k))]) C dX10_chance_95 8 rfl (nI_1 _) hN (by decide) rfl ?_
                        refine v_goto (tgt := 66) C dX10_chance_98 (by decide) ?_
                        refine v_sub (lv' := [(0, .ref md), (1, .int (nI e)), (2, .int (nI q)), (3, .int (nI c)), (4, .long (lN (if anyB (fun t => faceN (m t) e && !mayN (m t) c) k then 0 else 1))), (6, .long (lN (8 ^ cntB (fun t => faceN (m t) e) k))), (8, .int (nI k)), (9, .long (lN (if anyB (fun w => onN (m k) w c) (i + 1) then 1 else 0))), (11, .int (nI (i + 1)))]) [2, 3, 4, 5, 6, 7, 8, 1, 0] rfl ?_
                        exact ih66 (i + 1) (by omega) (by omega)
                      · refine v_lconst C dX10_chance_87 (v := 1) rfl ?_
                        refine v_goto (tgt := 92) C dX10_chance_88 (by decide) ?_
                        refine v_ladd C dX10_chance_92 ?_
                        rw [ways_t (okT_ k g47) hc g70 h84]
                        show V X (rmD 9 0 0) (mset M md (.inr (10, [.int (nI nT), .ref t1, .ref t2, .int (nI nP), .ref t3, .ref t4, .int (nI nS), .ref t5, .ref t6, .ref t7, .ref t8, .int (nI (metN nT m e).2)]))) 0 0 [(0, .ref md), (1, .int (nI e)), (2, .int (nI q)), (3, .int (nI c)), (4, .long (lN (if anyB (fun t => faceN (m t) e && !mayN (m t) c) k then 0 else 1))), (6, .long (lN (8 ^ cntB (fun t => faceN (m t) e) k))), (8, .int (nI k)), (9, .long (lN (if anyB (fun w => onN (m k) w c) i then 1 else 0))), (11, .int (nI i))] 93 [.long (lN (if anyB (fun w => onN (m k) w c) (i + 1) then 1 else 0))]
                        refine v_lstore (lv' := [(9, .long (lN (if anyB (fun w => onN (m k) w c) (i + 1) then 1 else 0))), (0, .ref md), (1, .int (nI e)), (2, .int (nI q)), (3, .int (nI c)), (4, .long (lN (if anyB (fun t => faceN (m t) e && !mayN (m t) c) k then 0 else 1))), (6, .long (lN (8 ^ cntB (fun t => faceN (m t) e) k))), (8, .int (nI k)), (11, .int (nI i))]) C dX10_chance_93 hN (by decide) rfl ?_
                        refine v_iinc (lv' := [(11, .int (nI (i + 1))), (9, .long (lN (if anyB (fun w => onN (m k) w c) (i + 1) then 1 else 0))), (0, .ref md), (1, .int (nI e)), (2, .int (nI q)), (3, .int (nI c)), (4, .long (lN (if anyB (fun t => faceN (m t) e && !mayN (m t) c) k then 0 else 1))), (6, .long (lN (8 ^ cntB (fun t => faceN (m t) e) k))), (8, .int (nI k))]) C dX10_chance_95 8 rfl (nI_1 _) hN (by decide) rfl ?_
                        refine v_goto (tgt := 66) C dX10_chance_98 (by decide) ?_
                        refine v_sub (lv' := [(0, .ref md), (1, .int (nI e)), (2, .int (nI q)), (3, .int (nI c)), (4, .long (lN (if anyB (fun t => faceN (m t) e && !mayN (m t) c) k then 0 else 1))), (6, .long (lN (8 ^ cntB (fun t => faceN (m t) e) k))), (8, .int (nI k)), (9, .long (lN (if anyB (fun w => onN (m k) w c) (i + 1) then 1 else 0))), (11, .int (nI (i + 1)))]) [2, 3, 4, 5, 6, 7, 8, 1, 0] rfl ?_
                        exact ih66 (i + 1) (by omega) (by omega)
                exact lp66 (_ + 1) 0 (Nat.zero_le _) (Nat.lt_succ_self _)
        exact lp41 (_ + 1) 0 (Nat.zero_le _) (Nat.lt_succ_self _)
    · refine v_ldc2 C dX10_chance_14 wJ_X10_131 ?_
      exact v_lret C E dX10_chance_17 (nle rfl) (nle rfl) ⟨by first | (simp [aChance, h4, h11]; done) | (simp [aChance, h4]; done), hM.W⟩

set_option maxHeartbeats 4000000 in
set_option maxRecDepth 100000 in
theorem c_X10_decoy (l : Launch) (g : Gm) (M : Mem) (md : Nat) (t1 t2 t3 t4 t5 t6 t7 t8 : Nat) (fT fD fP fC fS fU fX fF : Nat → Int32) (mo : Int32) (nT : Nat) (m : Nat → Nat → Nat) (dB : Nat → Nat → Bool) (nP : Nat) (pf : Nat → Nat → Nat) (cB : Nat → Nat → Bool) (nS : Nat) (sg : Nat → Int32) (ln : Nat → Nat) (tx : Nat → Nat → Int32) (fl : Nat → Nat → Nat) (hM : ModA g M md t1 t2 t3 t4 t5 t6 t7 t8 fT fD fP fC fS fU fX fF mo nT m dB nP pf cB nS sg ln tx fl) (t fr to qq zz : Int32) : Ct l g yX10_decoy cX10_decoy 12 (some .long) 9 0 0 [.ref md, .int t, .int fr, .int to, .int qq, .int zz] M (fun v N => v = some (.long (aDecoy nT dB t fr to qq zz)) ∧ N = M) := by
  refine Ct.of (by decide) (Nat.le_of_ble_eq_true rfl) ?_
  intro X hXl hXg hN C E
  subst hXl; subst hXg
  show V X (rmD 9 0 0) M 0 0 [(0, .ref md), (1, .int t), (2, .int fr), (3, .int to), (4, .int qq), (5, .int zz)] 0 []
  obtain ⟨hO, h1_, h2_, h3_, h4_, h5_, h6_, h7_, h8_, bT, bP, bS, okT_, cT, cD, okP_, cP, cC, cS, cU, bU_, cX, okX, okF_, cF⟩ := id hM
  rcases idx_cases nT (by omega) t with ⟨i, lt, rfl, hx⟩ | ⟨hn, hx⟩
  · have hzi := trivial
    show V X (rmD 9 0 0) M 0 0 [(0, .ref md), (1, .int (nI i)), (2, .int fr), (3, .int to), (4, .int qq), (5, .int zz)] 0 []
    refine v_aload_n C dX10_decoy_0 rfl ?_
    refine v_iload_n C dX10_decoy_1 rfl ?_
    refine v_callV (As := [.int (nI i)]) (rest := []) (b := md) C (c_X10_isThing (xl X) (xg X) M md t1 t2 t3 t4 t5 t6 t7 t8 fT fD fP fC fS fU fX fF mo nT m dB nP pf cB nS sg ln tx fl hM (nI i)) pm_X10_isThing wI_X10_isThing wS_X10_isThing wM_X10_50 kX10 hO ⟨by decide, by decide⟩ ⟨by decide, by decide⟩ (nle rfl) dX10_decoy_2 rfl (dt1 ?_)
    show V X (rmD 9 0 0) M 0 0 [(0, .ref md), (1, .int (nI i)), (2, .int fr), (3, .int to), (4, .int qq), (5, .int zz)] 5 [.int (bI ((idx nT (nI i)).isSome))]
    refine v_ifb_ne (tgt := 12) C dX10_decoy_5 (by decide) (fun h5 => ?_) (fun hbad => absurd hbad (by rw [hx]; simp))
    refine v_iload_n C dX10_decoy_12 rfl ?_
    refine v_callS (As := [.int fr]) (rest := []) C (c_X10_isDay (xl X) (xg X) fr M) pm_X10_isDay wT_X10_isDay wM_X10_46 ⟨by decide, by decide⟩ ⟨by decide, by decide⟩ (nle rfl) dX10_decoy_13 rfl (dt1 ?_)
    show V X (rmD 9 0 0) M 0 0 [(0, .ref md), (1, .int (nI i)), (2, .int fr), (3, .int to), (4, .int qq), (5, .int zz)] 16 [.int (bI (qin fr 0 99))]
    refine v_ifb_eq (tgt := 50) C dX10_decoy_16 (by decide) (fun h16 => ?_) (fun h16 => ?_)
    · refine v_ldc2 C dX10_decoy_50 wJ_X10_131 ?_
      exact v_lret C E dX10_decoy_53 (nle rfl) (nle rfl) ⟨by simp [aDecoy, hx, h16], rfl⟩
    · refine v_iload_n C dX10_decoy_19 rfl ?_
      refine v_callS (As := [.int to]) (rest := []) C (c_X10_isDay (xl X) (xg X) to M) pm_X10_isDay wT_X10_isDay wM_X10_46 ⟨by decide, by decide⟩ ⟨by decide, by decide⟩ (nle rfl) dX10_decoy_20 rfl (dt1 ?_)
      show V X (rmD 9 0 0) M 0 0 [(0, .ref md), (1, .int (nI i)), (2, .int fr), (3, .int to), (4, .int qq), (5, .int zz)] 23 [.int (bI (qin to 0 99))]
      refine v_ifb_eq (tgt := 50) C dX10_decoy_23 (by decide) (fun h23 => ?_) (fun h23 => ?_)
      · refine v_ldc2 C dX10_decoy_50 wJ_X10_131 ?_
        exact v_lret C E dX10_decoy_53 (nle rfl) (nle rfl) ⟨by simp [aDecoy, hx, h16, h23], rfl⟩
      · refine v_iload_n C dX10_decoy_26 rfl ?_
        refine v_iload_n C dX10_decoy_27 rfl ?_
        refine v_icmp_gt (tgt := 50) C dX10_decoy_28 (by decide) (fun h28 => ?_) (fun h28 => ?_)
        · refine v_ldc2 C dX10_decoy_50 wJ_X10_131 ?_
          exact v_lret C E dX10_decoy_53 (nle rfl) (nle rfl) ⟨by simp [aDecoy, hx, h16, h23, show ¬ fr ≤ to from Int32.not_le.mpr h28], rfl⟩
        · refine v_iload C dX10_decoy_31 rfl ?_
          refine v_iconst C dX10_decoy_33 (v := 1) rfl ?_
          refine v_bipush C dX10_decoy_34 (v := 19) rfl ?_
          refine v_callS (As := [.int qq, .int 1, .int 19]) (rest := []) C (c_X10_in (xl X) (xg X) qq 1 19 M) pm_X10_in wT_X10_in wM_X10_35 ⟨by decide, by decide⟩ ⟨by decide, by decide⟩ (nle rfl) dX10_decoy_36 rfl (dt1 ?_)
          show V X (rmD 9 0 0) M 0 0 [(0, .ref md), (1, .int (nI i)), (2, .int fr), (3, .int to), (4, .int qq), (5, .int zz)] 39 [.int (bI (qin qq 1 19))]
          refine v_ifb_eq (tgt := 50) C dX10_decoy_39 (by decide) (fun h39 => ?_) (fun h39 => ?_)
          · refine v_ldc2 C dX10_decoy_50 wJ_X10_131 ?_
            exact v_lret C E dX10_decoy_53 (nle rfl) (nle rfl) ⟨by simp [aDecoy, hx, h16, h23, show fr ≤ to from Int32.not_lt.mp h28, h39], rfl⟩
          · refine v_iload C dX10_decoy_42 rfl ?_
            refine v_callS (As := [.int zz]) (rest := []) C (c_X10_isPart (xl X) (xg X) zz M) pm_X10_isPart wT_X10_isPart wM_X10_77 ⟨by decide, by decide⟩ ⟨by decide, by decide⟩ (nle rfl) dX10_decoy_44 rfl (dt1 ?_)
            show V X (rmD 9 0 0) M 0 0 [(0, .ref md), (1, .int (nI i)), (2, .int fr), (3, .int to), (4, .int qq), (5, .int zz)] 47 [.int (bI (qin zz 0 1))]
            refine v_ifb_ne (tgt := 54) C dX10_decoy_47 (by decide) (fun h47 => ?_) (fun h47 => ?_)
            · have g28 : fr ≤ to := Int32.not_lt.mp h28
              obtain ⟨a, hLa, hja, rfl⟩ := qin_nJ (x := fr) (L := 0) (N := 99) (by decide) (by decide) h16
              obtain ⟨b, hLb, hjb, rfl⟩ := qin_nJ (x := to) (L := 0) (N := 99) (by decide) (by decide) h23
              obtain ⟨q, hLq, hjq, rfl⟩ := qin_nJ (x := qq) (L := 1) (N := 19) (by decide) (by decide) h39
              obtain ⟨z, hLz, hjz, rfl⟩ := qin_nJ (x := zz) (L := 0) (N := 1) (by decide) (by decide) h47
              have g28n := nI_leN (by omega) (by omega) g28
              show V X (rmD 9 0 0) M 0 0 [(0, .ref md), (1, .int (nI i)), (2, .int (nI a)), (3, .int (nI b)), (4, .int (nI q)), (5, .int (nI z))] 54 []
              refine v_iconst C dX10_decoy_54 (v := 0) rfl ?_
              refine v_istore (lv' := [(6, .int 0), (0, .ref md), (1, .int (nI i)), (2, .int (nI a)), (3, .int (nI b)), (4, .int (nI q)), (5, .int (nI z))]) C dX10_decoy_55 hN (by decide) rfl ?_
              refine v_iload_n C dX10_decoy_57 rfl ?_
              refine v_istore (lv' := [(7, .int (nI a)), (6, .int 0), (0, .ref md), (1, .int (nI i)), (2, .int (nI a)), (3, .int (nI b)), (4, .int (nI q)), (5, .int (nI z))]) C dX10_decoy_58 hN (by decide) rfl ?_
              refine v_sub (lv' := [(0, .ref md), (1, .int (nI i)), (2, .int (nI a)), (3, .int (nI b)), (4, .int (nI q)), (5, .int (nI z)), (6, .int 0), (7, .int (nI a))]) [2, 3, 4, 5, 6, 7, 1, 0] rfl ?_
              have lp60 : ∀ (mm : Nat) (n : Nat) (h1 : n ≤ b + 1 - a), b + 1 - a - n < mm → V X (rmD 9 0 0) M 0 0 [(0, .ref md), (1, .int (nI i)), (2, .int (nI a)), (3, .int (nI b)), (4, .int (nI q)), (5, .int (nI z)), (6, .int (nI (cntNo (dB i) a n))), (7, .int (nI (a + n)))] 60 [] := by
                intro mm
                induction mm with
                | zero => intro n h1 hmu; exact absurd hmu (Nat.not_lt_zero _)
                | succ mm ih60 =>
                  intro n h1 hmu
                  refine v_iload C dX10_decoy_60 rfl ?_
                  refine v_iload_n C dX10_decoy_62 rfl ?_
                  refine v_icmp_gt (tgt := 97) C dX10_decoy_63 (by decide) (fun h63 => ?_) (fun h63 => ?_)
                  · rw [show n = b + 1 - a from by have := nI_ltN (by omega) (by omega) h63; omega]
                    have hcn := cntNo_le (dB i) a (b + 1 - a)
                    show V X (rmD 9 0 0) M 0 0 [(0, .ref md), (1, .int (nI i)), (2, .int (nI a)), (3, .int (nI b)), (4, .int (nI q)), (5, .int (nI z)), (6, .int (nI (cntNo (dB i) a (b + 1 - a)))), (7, .int (nI (a + (b + 1 - a))))] 97 []
                    refine v_iload C dX10_decoy_97 rfl ?_
                    refine v_bipush C dX10_decoy_99 (v := 12) rfl ?_
                    refine v_icmp_le (tgt := 108) C dX10_decoy_101 (by decide) (fun h101 => ?_) (fun h101 => ?_)
                    · have g101 : cntNo (dB i) a (b + 1 - a) ≤ 12 := nI_leN (b := 12) (by omega) (by decide) h101
                      refine v_lconst C dX10_decoy_108 (v := 1) rfl ?_
                      refine v_lstore (lv' := [(7, .long 1), (0, .ref md), (1, .int (nI i)), (2, .int (nI a)), (3, .int (nI b)), (4, .int (nI q)), (5, .int (nI z)), (6, .int (nI (cntNo (dB i) a (b + 1 - a))))]) C dX10_decoy_109 hN (by decide) rfl ?_
                      refine v_lconst C dX10_decoy_111 (v := 1) rfl ?_
                      refine v_lstore (lv' := [(9, .long 1), (7, .long 1), (0, .ref md), (1, .int (nI i)), (2, .int (nI a)), (3, .int (nI b)), (4, .int (nI q)), (5, .int (nI z)), (6, .int (nI (cntNo (dB i) a (b + 1 - a))))]) C dX10_decoy_112 hN (by decide) rfl ?_
                      refine v_iconst C dX10_decoy_114 (v := 0) rfl ?_
                      refine v_istore (lv' := [(11, .int 0), (9, .long 1), (7, .long 1), (0, .ref md), (1, .int (nI i)), (2, .int (nI a)), (3, .int (nI b)), (4, .int (nI q)), (5, .int (nI z)), (6, .int (nI (cntNo (dB i) a (b + 1 - a))))]) C dX10_decoy_115 hN (by decide) rfl ?_
                      refine v_sub (lv' := [(0, .ref md), (1, .int (nI i)), (2, .int (nI a)), (3, .int (nI b)), (4, .int (nI q)), (5, .int (nI z)), (6, .int (nI (cntNo (dB i) a (b + 1 - a)))), (7, .long 1), (9, .long 1), (11, .int 0)]) [3, 4, 5, 6, 7, 8, 9, 2, 1, 0] rfl ?_
                      have lp117 : ∀ (mm : Nat) (k : Nat) (h2 : k ≤ cntNo (dB i) a (b + 1 - a)), cntNo (dB i) a (b + 1 - a) - k < mm → V X (rmD 9 0 0) M 0 0 [(0, .ref md), (1, .int (nI i)), (2, .int (nI a)), (3, .int (nI b)), (4, .int (nI q)), (5, .int (nI z)), (6, .int (nI (cntNo (dB i) a (b + 1 - a)))), (7, .long (lN ((20 - q) ^ k))), (9, .long (lN (20 ^ k))), (11, .int (nI k))] 117 [] := by
                        intro mm
                        induction mm with
                        | zero => intro k h2 hmu; exact absurd hmu (Nat.not_lt_zero _)
                        | succ mm ih117 =>
                          intro k h2 hmu
                          refine v_iload C dX10_decoy_117 rfl ?_
                          refine v_iload C dX10_decoy_119 rfl ?_
                          refine v_icmp_ge (tgt := 150) C dX10_decoy_121 (by decide) (fun h121 => ?_) (fun h121 => ?_)
                          · rw [show k = cntNo (dB i) a (b + 1 - a) from Nat.le_antisymm h2 (nI_leN (by omega) (by omega) h121)]
                            show V X (rmD 9 0 0) M 0 0 [(0, .ref md), (1, .int (nI i)), (2, .int (nI a)), (3, .int (nI b)), (4, .int (nI q)), (5, .int (nI z)), (6, .int (nI (cntNo (dB i) a (b + 1 - a)))), (7, .long (lN ((20 - q) ^ cntNo (dB i) a (b + 1 - a)))), (9, .long (lN (20 ^ cntNo (dB i) a (b + 1 - a)))), (11, .int (nI (cntNo (dB i) a (b + 1 - a))))] 150 []
                            refine v_lload C dX10_decoy_150 rfl ?_
                            refine v_lload C dX10_decoy_152 rfl ?_
                            refine v_iload C dX10_decoy_154 rfl ?_
                            refine v_callS (As := [.long (lN ((20 - q) ^ cntNo (dB i) a (b + 1 - a))), .long (lN (20 ^ cntNo (dB i) a (b + 1 - a))), .int (nI z)]) (rest := []) C (c_X10_term (xl X) (xg X) ((20 - q) ^ cntNo (dB i) a (b + 1 - a)) (20 ^ cntNo (dB i) a (b + 1 - a)) z (Nat.lt_of_le_of_lt (pow_lt63 (by omega) g101) (by decide)) (Nat.lt_of_le_of_lt (pow_lt63 (by omega) g101) (by decide)) (Nat.pow_pos (by decide)) (by omega) M) pm_X10_term wT_X10_term wM_X10_137 ⟨by decide, by decide⟩ ⟨by decide, by decide⟩ (nle rfl) dX10_decoy_156 rfl (dt1 ?_)
                            show V X (rmD 9 0 0) M 0 0 [(0, .ref md), (1, .int (nI i)), (2, .int (nI a)), (3, .int (nI b)), (4, .int (nI q)), (5, .int (nI z)), (6, .int (nI (cntNo (dB i) a (b + 1 - a)))), (7, .long (lN ((20 - q) ^ cntNo (dB i) a (b + 1 - a)))), (9, .long (lN (20 ^ cntNo (dB i) a (b + 1 - a)))), (11, .int (nI (cntNo (dB i) a (b + 1 - a))))] 159 [.long (lN (frN ((20 - q) ^ cntNo (dB i) a (b + 1 - a)) (20 ^ cntNo (dB i) a (b + 1 - a)) z))]
                            exact v_lret C E dX10_decoy_159 (nle rfl) (nle rfl) ⟨by simp only [aDecoy, hx, h16, h23, h39, h47, decide_eq_true g28, Bool.and_self, Bool.true_and, nI_clamp (n := a) (show a < 2 ^ 31 by omega), nI_clamp (n := b) (show b < 2 ^ 31 by omega), nI_clamp (n := q) (show q < 2 ^ 31 by omega), nI_clamp (n := z) (show z < 2 ^ 31 by omega)]; rw [if_pos (decide_eq_true g101)], rfl⟩
                          · have g121 := nI_nleN (by omega) (by omega) h121
                            refine v_lload C dX10_decoy_124 rfl ?_
                            refine v_ldc2 C dX10_decoy_126 wJ_X10_143 ?_
                            refine v_iload C dX10_decoy_129 rfl ?_
                            refine v_i2l C dX10_decoy_131 ?_
                            refine v_lsub C dX10_decoy_132 ?_
                            rw [show (20 : Int64) - (nI q : Int32).toInt64 = lN (20 - q) from by rw [nI_l (by omega), show (20 : Int64) = lN 20 from rfl, lN_sub (by omega)]]
                            show V X (rmD 9 0 0) M 0 0 [(0, .ref md), (1, .int (nI i)), (2, .int (nI a)), (3, .int (nI b)), (4, .int (nI q)), (5, .int (nI z)), (6, .int (nI (cntNo (dB i) a (b + 1 - a)))), (7, .long (lN ((20 - q) ^ k))), (9, .long (lN (20 ^ k))), (11, .int (nI k))] 133 [.long (lN (20 - q)), .long (lN ((20 - q) ^ k))]
                            refine v_lmul C dX10_decoy_133 ?_
                            rw [lN_mul, ← Nat.pow_succ]
                            show V X (rmD 9 0 0) M 0 0 [(0, .ref md), (1, .int (nI i)), (2, .int (nI a)), (3, .int (nI b)), (4, .int (nI q)), (5, .int (nI z)), (6, .int (nI (cntNo (dB i) a (b + 1 - a)))), (7, .long (lN ((20 - q) ^ k))), (9, .long (lN (20 ^ k))), (11, .int (nI k))] 134 [.long (lN ((20 - q) ^ (k + 1)))]
                            refine v_lstore (lv' := [(7, .long (lN ((20 - q) ^ (k + 1)))), (0, .ref md), (1, .int (nI i)), (2, .int (nI a)), (3, .int (nI b)), (4, .int (nI q)), (5, .int (nI z)), (6, .int (nI (cntNo (dB i) a (b + 1 - a)))), (9, .long (lN (20 ^ k))), (11, .int (nI k))]) C dX10_decoy_134 hN (by decide) rfl ?_
                            refine v_lload C dX10_decoy_136 rfl ?_
                            refine v_ldc2 C dX10_decoy_138 wJ_X10_143 ?_
                            refine v_lmul C dX10_decoy_141 ?_
                            rw [show lN (20 ^ k) * 20 = lN (20 ^ (k + 1)) from (lN_mul _ 20).trans (by rw [← Nat.pow_succ])]
                            show V X (rmD 9 0 0) M 0 0 [(7, .long (lN ((20 - q) ^ (k + 1)))), (0, .ref md), (1, .int (nI i)), (2, .int (nI a)), (3, .int (nI b)), (4, .int (nI q)), (5, .int (nI z)), (6, .int (nI (cntNo (dB i) a (b + 1 - a)))), (9, .long (lN (20 ^ k))), (11, .int (nI k))] 142 [.long (lN (20 ^ (k + 1)))]
                            refine v_lstore (lv' := [(9, .long (lN (20 ^ (k + 1)))), (7, .long (lN ((20 - q) ^ (k + 1)))), (0, .ref md), (1, .int (nI i)), (2, .int (nI a)), (3, .int (nI b)), (4, .int (nI q)), (5, .int (nI z)), (6, .int (nI (cntNo (dB i) a (b + 1 - a)))), (11, .int (nI k))]) C dX10_decoy_142 hN (by decide) rfl ?_
                            refine v_iinc (lv' := [(11, .int (nI (k + 1))), (9, .long (lN (20 ^ (k + 1)))), (7, .long (lN ((20 - q) ^ (k + 1)))), (0, .ref md), (1, .int (nI i)), (2, .int (nI a)), (3, .int (nI b)), (4, .int (nI q)), (5, .int (nI z)), (6, .int (nI (cntNo (dB i) a (b + 1 - a))))]) C dX10_decoy_144 9 rfl (nI_1 _) hN (by decide) rfl ?_
                            refine v_goto (tgt := 117) C dX10_decoy_147 (by decide) ?_
                            refine v_sub (lv' := [(0, .ref md), (1, .int (nI i)), (2, .int (nI a)), (3, .int (nI b)), (4, .int (nI q)), (5, .int (nI z)), (6, .int (nI (cntNo (dB i) a (b + 1 - a)))), (7, .long (lN ((20 - q) ^ (k + 1)))), (9, .long (lN (20 ^ (k + 1)))), (11, .int (nI (k + 1)))]) [3, 4, 5, 6, 7, 8, 9, 2, 1, 0] rfl ?_
                            exact ih117 (k + 1) (by omega) (by omega)
                      exact lp117 (_ + 1) 0 (Nat.zero_le _) (Nat.lt_succ_self _)
                    · have g101 : ¬ cntNo (dB i) a (b + 1 - a) ≤ 12 := Nat.not_le.mpr (nI_nleN (b := 12) (by omega) (by decide) h101)
                      refine v_ldc2 C dX10_decoy_104 wJ_X10_131 ?_
                      exact v_lret C E dX10_decoy_107 (nle rfl) (nle rfl) ⟨by simp only [aDecoy, hx, nI_clamp (n := a) (show a < 2 ^ 31 by omega), nI_clamp (n := b) (show b < 2 ^ 31 by omega)]; rw [if_neg (fun y => g101 (of_decide_eq_true ((Bool.and_eq_true _ _).mp y).2))], rfl⟩
                  · have g63 := nI_nltN (by omega) (by omega) h63
                    refine v_iload C dX10_decoy_66 rfl ?_
                    refine v_aload_n C dX10_decoy_68 rfl ?_
                    refine v_get C kX10 hO 2 (by decide) wF_X10_13 rfl dX10_decoy_69 ?_
                    refine v_bipush C dX10_decoy_72 (v := 100) rfl ?_
                    refine v_iload_n C dX10_decoy_74 rfl ?_
                    refine v_imul C dX10_decoy_75 ?_
                    refine v_iload C dX10_decoy_76 rfl ?_
                    refine v_iadd C dX10_decoy_78 ?_
                    rw [show ((100 * (nI i)) + (nI (a + n)) : Int32) = nI (100 * i + (a + n)) from ix_ad (ix_mu rfl rfl) rfl]
                    refine v_zald C h2_ (vp_in_nI (by omega) (by decide)) dX10_decoy_79 ?_
                    rw [show fD (nI (100 * i + (a + n)) : Int32).toNatClampNeg = bI (dB i (a + n)) from by rw [nI_clamp (by omega)]; exact (cD i (by omega) (a + n) (by omega)).trans (by rw [if_pos lt])]
                    refine v_ifb_eq (tgt := 87) C dX10_decoy_80 (by decide) (fun h80 => ?_) (fun h80 => ?_)
                    · refine v_iconst C dX10_decoy_87 (v := 1) rfl ?_
                      refine v_iadd C dX10_decoy_88 ?_
                      rw [show nI (cntNo (dB i) a n) + 1 = nI (cntNo (dB i) a (n + 1)) by rw [show cntNo (dB i) a (n + 1) = cntNo (dB i) a n + (if dB i (a + n) then 0 else 1) from rfl, h80]; exact ix_ad rfl rfl]
                      show V X (rmD 9 0 0) M 0 0 [(0, .ref md), (1, .int (nI i)), (2, .int (nI a)), (3, .int (nI b)), (4, .int (nI q)), (5, .int (nI z)), (6, .int (nI (cntNo (dB i) a n))), (7, .int (nI (a + n)))] 89 [.int (nI (cntNo (dB i) a (n + 1)))]
                      refine v_istore (lv' := [(6, .int (nI (cntNo (dB i) a (n + 1)))), (0, .ref md), (1, .int (nI i)), (2, .int (nI a)), (3, .int (nI b)), (4, .int (nI q)), (5, .int (nI z)), (7, .int (nI (a + n)))]) C dX10_decoy_89 hN (by decide) rfl ?_
                      refine v_iinc (lv' := [(7, .int (nI ((a + n) + 1))), (6, .int (nI (cntNo (dB i) a (n + 1)))), (0, .ref md), (1, .int (nI i)), (2, .int (nI a)), (3, .int (nI b)), (4, .int (nI q)), (5, .int (nI z))]) C dX10_decoy_91 7 rfl (nI_1 _) hN (by decide) rfl ?_
                      refine v_goto (tgt := 60) C dX10_decoy_94 (by decide) ?_
                      refine v_sub (lv' := [(0, .ref md), (1, .int (nI i)), (2, .int (nI a)), (3, .int (nI b)), (4, .int (nI q)), (5, .int (nI z)), (6, .int (nI (cntNo (dB i) a (n + 1)))), (7, .int (nI ((a + n) + 1)))]) [2, 3, 4, 5, 6, 7, 1, 0] rfl ?_
                      exact ih60 (n + 1) (by omega) (by omega)
                    · refine v_iconst C dX10_decoy_83 (v := 0) rfl ?_
                      refine v_goto (tgt := 88) C dX10_decoy_84 (by decide) ?_
                      refine v_iadd C dX10_decoy_88 ?_
                      rw [show nI (cntNo (dB i) a n) + 0 = nI (cntNo (dB i) a (n + 1)) by rw [show cntNo (dB i) a (n + 1) = cntNo (dB i) a n + (if dB i (a + n) then 0 else 1) from rfl, h80]; exact ix_ad rfl rfl]
                      show V X (rmD 9 0 0) M 0 0 [(0, .ref md), (1, .int (nI i)), (2, .int (nI a)), (3, .int (nI b)), (4, .int (nI q)), (5, .int (nI z)), (6, .int (nI (cntNo (dB i) a n))), (7, .int (nI (a + n)))] 89 [.int (nI (cntNo (dB i) a (n + 1)))]
                      refine v_istore (lv' := [(6, .int (nI (cntNo (dB i) a (n + 1)))), (0, .ref md), (1, .int (nI i)), (2, .int (nI a)), (3, .int (nI b)), (4, .int (nI q)), (5, .int (nI z)), (7, .int (nI (a + n)))]) C dX10_decoy_89 hN (by decide) rfl ?_
                      refine v_iinc (lv' := [(7, .int (nI ((a + n) + 1))), (6, .int (nI (cntNo (dB i) a (n + 1)))), (0, .ref md), (1, .int (nI i)), (2, .int (nI a)), (3, .int (nI b)), (4, .int (nI q)), (5, .int (nI z))]) C dX10_decoy_91 7 rfl (nI_1 _) hN (by decide) rfl ?_
                      refine v_goto (tgt := 60) C dX10_decoy_94 (by decide) ?_
                      refine v_sub (lv' := [(0, .ref md), (1, .int (nI i)), (2, .int (nI a)), (3, .int (nI b)), (4, .int (nI q)), (5, .int (nI z)), (6, .int (nI (cntNo (dB i) a (n + 1)))), (7, .int (nI ((a + n) + 1)))]) [2, 3, 4, 5, 6, 7, 1, 0] rfl ?_
                      exact ih60 (n + 1) (by omega) (by omega)
              exact lp60 (_ + 1) 0 (Nat.zero_le _) (Nat.lt_succ_self _)
            · refine v_ldc2 C dX10_decoy_50 wJ_X10_131 ?_
              exact v_lret C E dX10_decoy_53 (nle rfl) (nle rfl) ⟨by simp [aDecoy, hx, h16, h23, show fr ≤ to from Int32.not_lt.mp h28, h39, h47], rfl⟩
  · have hzi := trivial
    show V X (rmD 9 0 0) M 0 0 [(0, .ref md), (1, .int t), (2, .int fr), (3, .int to), (4, .int qq), (5, .int zz)] 0 []
    refine v_aload_n C dX10_decoy_0 rfl ?_
    refine v_iload_n C dX10_decoy_1 rfl ?_
    refine v_callV (As := [.int t]) (rest := []) (b := md) C (c_X10_isThing (xl X) (xg X) M md t1 t2 t3 t4 t5 t6 t7 t8 fT fD fP fC fS fU fX fF mo nT m dB nP pf cB nS sg ln tx fl hM t) pm_X10_isThing wI_X10_isThing wS_X10_isThing wM_X10_50 kX10 hO ⟨by decide, by decide⟩ ⟨by decide, by decide⟩ (nle rfl) dX10_decoy_2 rfl (dt1 ?_)
    show V X (rmD 9 0 0) M 0 0 [(0, .ref md), (1, .int t), (2, .int fr), (3, .int to), (4, .int qq), (5, .int zz)] 5 [.int (bI ((idx nT t).isSome))]
    refine v_ifb_ne (tgt := 12) C dX10_decoy_5 (by decide) (fun hbad => absurd hbad (by rw [hx]; simp)) (fun h5 => ?_)
    refine v_ldc2 C dX10_decoy_8 wJ_X10_141 ?_
    exact v_lret C E dX10_decoy_11 (nle rfl) (nle rfl) ⟨by simp [aDecoy, hx], rfl⟩

set_option maxHeartbeats 4000000 in
set_option maxRecDepth 100000 in
theorem c_X10_sure (l : Launch) (g : Gm) (M : Mem) (md : Nat) (t1 t2 t3 t4 t5 t6 t7 t8 : Nat) (fT fD fP fC fS fU fX fF : Nat → Int32) (mo : Int32) (nT : Nat) (m : Nat → Nat → Nat) (dB : Nat → Nat → Bool) (nP : Nat) (pf : Nat → Nat → Nat) (cB : Nat → Nat → Bool) (nS : Nat) (sg : Nat → Int32) (ln : Nat → Nat) (tx : Nat → Nat → Int32) (fl : Nat → Nat → Nat) (hM : ModA g M md t1 t2 t3 t4 t5 t6 t7 t8 fT fD fP fC fS fU fX fF mo nT m dB nP pf cB nS sg ln tx fl) (qq ss : Int32) : Ct l g yX10_sure cX10_sure 8 (some .int) 9 0 0 [.ref md, .int qq, .int ss] M (fun v N => v = some (.int (aSure qq ss)) ∧ N = M) := by
  refine Ct.of (by decide) (Nat.le_of_ble_eq_true rfl) ?_
  intro X hXl hXg hN C E
  subst hXl; subst hXg
  show V X (rmD 9 0 0) M 0 0 [(0, .ref md), (1, .int qq), (2, .int ss)] 0 []
  obtain ⟨hO, h1_, h2_, h3_, h4_, h5_, h6_, h7_, h8_, bT, bP, bS, okT_, cT, cD, okP_, cP, cC, cS, cU, bU_, cX, okX, okF_, cF⟩ := id hM
  refine v_iload_n C dX10_sure_0 rfl ?_
  refine v_iconst C dX10_sure_1 (v := 1) rfl ?_
  refine v_bipush C dX10_sure_2 (v := 19) rfl ?_
  refine v_callS (As := [.int qq, .int 1, .int 19]) (rest := []) C (c_X10_in (xl X) (xg X) qq 1 19 M) pm_X10_in wT_X10_in wM_X10_35 ⟨by decide, by decide⟩ ⟨by decide, by decide⟩ (nle rfl) dX10_sure_4 rfl (dt1 ?_)
  show V X (rmD 9 0 0) M 0 0 [(0, .ref md), (1, .int qq), (2, .int ss)] 7 [.int (bI (qin qq 1 19))]
  refine v_ifb_eq (tgt := 20) C dX10_sure_7 (by decide) (fun h7 => ?_) (fun h7 => ?_)
  · refine v_bipush C dX10_sure_20 (v := (-2)) rfl ?_
    exact v_iret C E dX10_sure_22 (nle rfl) (nle rfl) ⟨by first | (simp [aSure, h7, h17]; done) | (simp [aSure, h7]; done), rfl⟩
  · refine v_iload_n C dX10_sure_10 rfl ?_
    refine v_iconst C dX10_sure_11 (v := 0) rfl ?_
    refine v_bipush C dX10_sure_12 (v := 100) rfl ?_
    refine v_callS (As := [.int ss, .int 0, .int 100]) (rest := []) C (c_X10_in (xl X) (xg X) ss 0 100 M) pm_X10_in wT_X10_in wM_X10_35 ⟨by decide, by decide⟩ ⟨by decide, by decide⟩ (nle rfl) dX10_sure_14 rfl (dt1 ?_)
    show V X (rmD 9 0 0) M 0 0 [(0, .ref md), (1, .int qq), (2, .int ss)] 17 [.int (bI (qin ss 0 100))]
    refine v_ifb_ne (tgt := 23) C dX10_sure_17 (by decide) (fun h17 => ?_) (fun h17 => ?_)
    · obtain ⟨q, hLq, hjq, rfl⟩ := qin_nJ (x := qq) (L := 1) (N := 19) (by decide) (by decide) h7
      obtain ⟨s, hLs, hjs, rfl⟩ := qin_nJ (x := ss) (L := 0) (N := 100) (by decide) (by decide) h17
      show V X (rmD 9 0 0) M 0 0 [(0, .ref md), (1, .int (nI q)), (2, .int (nI s))] 23 []
      refine v_ldc2 C dX10_sure_23 wJ_X10_145 ?_
      refine v_lstore_n (lv' := [(3, .long 100), (0, .ref md), (1, .int (nI q)), (2, .int (nI s))]) C dX10_sure_26 hN (by decide) rfl ?_
      refine v_iload_n C dX10_sure_27 rfl ?_
      refine v_i2l C dX10_sure_28 ?_
      refine v_lstore (lv' := [(5, .long ((nI s : Int32).toInt64)), (3, .long 100), (0, .ref md), (1, .int (nI q)), (2, .int (nI s))]) C dX10_sure_29 hN (by decide) rfl ?_
      refine v_iconst C dX10_sure_31 (v := 0) rfl ?_
      refine v_istore (lv' := [(7, .int 0), (5, .long ((nI s : Int32).toInt64)), (3, .long 100), (0, .ref md), (1, .int (nI q)), (2, .int (nI s))]) C dX10_sure_32 hN (by decide) rfl ?_
      refine v_sub (lv' := [(0, .ref md), (1, .int (nI q)), (2, .int (nI s)), (3, .long 100), (5, .long ((nI s : Int32).toInt64)), (7, .int 0)]) [3, 4, 5, 2, 1, 0] rfl ?_
      have lp34 : ∀ (mm : Nat) (i : Nat) (h1 : i ≤ 13) (h2 : fstB (fun n => decide ((20 - q) ^ n * 100 ≤ 20 ^ n * s)) i = none), 13 - i < mm → V X (rmD 9 0 0) M 0 0 [(0, .ref md), (1, .int (nI q)), (2, .int (nI s)), (3, .long (lN ((20 - q) ^ i * 100))), (5, .long (lN (20 ^ i * s))), (7, .int (nI i))] 34 [] := by
        intro mm
        induction mm with
        | zero => intro i h1 h2 hmu; exact absurd hmu (Nat.not_lt_zero _)
        | succ mm ih34 =>
          intro i h1 h2 hmu
          refine v_iload C dX10_sure_34 rfl ?_
          refine v_bipush C dX10_sure_36 (v := 13) rfl ?_
          refine v_icmp_ge (tgt := 74) C dX10_sure_38 (by decide) (fun h38 => ?_) (fun h38 => ?_)
          · refine v_bipush C dX10_sure_74 (v := (-6)) rfl ?_
            exact v_iret C E dX10_sure_76 (nle rfl) (nle rfl) ⟨by simp only [aSure, h7, h17, Bool.and_self, if_true, nI_clamp (n := q) (show q < 2 ^ 31 by omega), nI_clamp (n := s) (show s < 2 ^ 31 by omega)]; rw [← show i = 13 from Nat.le_antisymm h1 (nI_leN (a := 13) (by decide) (by omega) h38), h2]; rfl, rfl⟩
          · have g38 := nI_nleN (a := 13) (by decide) (by omega) h38
            have b1 := pow_lt63 (b := 20 - q) (n := i) (by omega) (by omega)
            have b2 := pow_lt63 (b := 20) (n := i) (by omega) (by omega)
            have b3 : 20 ^ i * s ≤ 4096000000000000 * 100 := Nat.mul_le_mul b2 (by omega)
            refine v_lload_n C dX10_sure_41 rfl ?_
            refine v_lload C dX10_sure_42 rfl ?_
            refine v_lcmp C dX10_sure_44 ?_
            refine v_if_gt (tgt := 51) C dX10_sure_45 (by decide) (fun h45 => ?_) (fun h45 => ?_)
            · have g45 : ¬ (20 - q) ^ i * 100 ≤ 20 ^ i * s := fun z => absurd ((pk_lLE (by omega) (by omega)).mpr z) (Int64.not_le.mpr ((lg_cmp_gt _ _).mp h45))
              refine v_lload_n C dX10_sure_51 rfl ?_
              refine v_ldc2 C dX10_sure_52 wJ_X10_143 ?_
              refine v_iload_n C dX10_sure_55 rfl ?_
              refine v_i2l C dX10_sure_56 ?_
              refine v_lsub C dX10_sure_57 ?_
              rw [show (20 : Int64) - (nI q : Int32).toInt64 = lN (20 - q) from by rw [nI_l (by omega), show (20 : Int64) = lN 20 from rfl, lN_sub (by omega)]]
              show V X (rmD 9 0 0) M 0 0 [(0, .ref md), (1, .int (nI q)), (2, .int (nI s)), (3, .long (lN ((20 - q) ^ i * 100))), (5, .long (lN (20 ^ i * s))), (7, .int (nI i))] 58 [.long (lN (20 - q)), .long (lN ((20 - q) ^ i * 100))]
              refine v_lmul C dX10_sure_58 ?_
              rw [show lN ((20 - q) ^ i * 100) * lN (20 - q) = lN ((20 - q) ^ (i + 1) * 100) from by rw [lN_mul, Nat.pow_succ, Nat.mul_right_comm]]
              show V X (rmD 9 0 0) M 0 0 [(0, .ref md), (1, .int (nI q)), (2, .int (nI s)), (3, .long (lN ((20 - q) ^ i * 100))), (5, .long (lN (20 ^ i * s))), (7, .int (nI i))] 59 [.long (lN ((20 - q) ^ (i + 1) * 100))]
              refine v_lstore_n (lv' := [(3, .long (lN ((20 - q) ^ (i + 1) * 100))), (0, .ref md), (1, .int (nI q)), (2, .int (nI s)), (5, .long (lN (20 ^ i * s))), (7, .int (nI i))]) C dX10_sure_59 hN (by decide) rfl ?_
              refine v_lload C dX10_sure_60 rfl ?_
              refine v_ldc2 C dX10_sure_62 wJ_X10_143 ?_
              refine v_lmul C dX10_sure_65 ?_
              rw [show lN (20 ^ i * s) * 20 = lN (20 ^ (i + 1) * s) from (lN_mul _ 20).trans (by rw [Nat.pow_succ, Nat.mul_right_comm])]
              show V X (rmD 9 0 0) M 0 0 [(3, .long (lN ((20 - q) ^ (i + 1) * 100))), (0, .ref md), (1, .int (nI q)), (2, .int (nI s)), (5, .long (lN (20 ^ i * s))), (7, .int (nI i))] 66 [.long (lN (20 ^ (i + 1) * s))]
              refine v_lstore (lv' := [(5, .long (lN (20 ^ (i + 1) * s))), (3, .long (lN ((20 - q) ^ (i + 1) * 100))), (0, .ref md), (1, .int (nI q)), (2, .int (nI s)), (7, .int (nI i))]) C dX10_sure_66 hN (by decide) rfl ?_
              refine v_iinc (lv' := [(7, .int (nI (i + 1))), (5, .long (lN (20 ^ (i + 1) * s))), (3, .long (lN ((20 - q) ^ (i + 1) * 100))), (0, .ref md), (1, .int (nI q)), (2, .int (nI s))]) C dX10_sure_68 5 rfl (nI_1 _) hN (by decide) rfl ?_
              refine v_goto (tgt := 34) C dX10_sure_71 (by decide) ?_
              refine v_sub (lv' := [(0, .ref md), (1, .int (nI q)), (2, .int (nI s)), (3, .long (lN ((20 - q) ^ (i + 1) * 100))), (5, .long (lN (20 ^ (i + 1) * s))), (7, .int (nI (i + 1)))]) [3, 4, 5, 2, 1, 0] rfl ?_
              exact ih34 (i + 1) (by omega) (fstB_step h2 (decide_eq_false g45)) (by omega)
            · have g45 : (20 - q) ^ i * 100 ≤ 20 ^ i * s := (pk_lLE (by omega) (by omega)).mp (Int64.not_lt.mp (fun z => h45 ((lg_cmp_gt _ _).mpr z)))
              refine v_iload C dX10_sure_48 rfl ?_
              exact v_iret C E dX10_sure_50 (nle rfl) (nle rfl) ⟨by simp only [aSure, h7, h17, Bool.and_self, if_true, nI_clamp (n := q) (show q < 2 ^ 31 by omega), nI_clamp (n := s) (show s < 2 ^ 31 by omega)]; rw [fstB_hit (i := i) h2 (decide_eq_true g45) (by omega)]; rfl, rfl⟩
      rw [nI_l (by omega), show lN s = lN (20 ^ 0 * s) from by rw [Nat.pow_zero, Nat.one_mul]]
      show V X (rmD 9 0 0) M 0 0 [(0, .ref md), (1, .int (nI q)), (2, .int (nI s)), (3, .long (lN ((20 - q) ^ 0 * 100))), (5, .long (lN (20 ^ 0 * s))), (7, .int (nI 0))] 34 []
      exact lp34 (_ + 1) 0 (Nat.zero_le _) rfl (Nat.lt_succ_self _)
    · refine v_bipush C dX10_sure_20 (v := (-2)) rfl ?_
      exact v_iret C E dX10_sure_22 (nle rfl) (nle rfl) ⟨by first | (simp [aSure, h7, h17]; done) | (simp [aSure, h7]; done), rfl⟩


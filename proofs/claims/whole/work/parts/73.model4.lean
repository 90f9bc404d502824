/-! The model: facts. -/
set_option maxHeartbeats 4000000 in
set_option maxRecDepth 100000 in
theorem c_X10_isSeen (l : Launch) (g : Gm) (M : Mem) (md : Nat) (t1 t2 t3 t4 t5 t6 t7 t8 : Nat) (fT fD fP fC fS fU fX fF : Nat → Int32) (mo : Int32) (nT : Nat) (m : Nat → Nat → Nat) (dB : Nat → Nat → Bool) (nP : Nat) (pf : Nat → Nat → Nat) (cB : Nat → Nat → Bool) (nS : Nat) (sg : Nat → Int32) (ln : Nat → Nat) (tx : Nat → Nat → Int32) (fl : Nat → Nat → Nat) (hM : ModA g M md t1 t2 t3 t4 t5 t6 t7 t8 fT fD fP fC fS fU fX fF mo nT m dB nP pf cB nS sg ln tx fl) (p d : Nat) (lt : p < nP) (hd : d < 100) : Ct l g yX10_isSeen cX10_isSeen 3 (some .boolean) 0 0 0 [.ref md, .int (nI p), .int (nI d)] M (fun v N => v = some (.int (bI (decide (pf p 2 ≤ d)))) ∧ N = M) := by
  refine Ct.of (by decide) (Nat.le_of_ble_eq_true rfl) ?_
  intro X hXl hXg hN C E
  subst hXl; subst hXg
  show V X (rmD 0 0 0) M 0 0 [(0, .ref md), (1, .int (nI p)), (2, .int (nI d))] 0 []
  obtain ⟨hO, h1_, h2_, h3_, h4_, h5_, h6_, h7_, h8_, bT, bP, bS, okT_, cT, cD, okP_, cP, cC, cS, cU, bU_, cX, okX, okF_, cF⟩ := id hM
  have e9 := okP_ p lt
  unfold okP at e9
  refine v_aload_n C dX10_isSeen_0 rfl ?_
  refine v_get C kX10 hO 4 (by decide) wF_X10_17 rfl dX10_isSeen_1 ?_
  refine v_iconst C dX10_isSeen_4 (v := 5) rfl ?_
  refine v_iload_n C dX10_isSeen_5 rfl ?_
  refine v_imul C dX10_isSeen_6 ?_
  refine v_iconst C dX10_isSeen_7 (v := 2) rfl ?_
  refine v_iadd C dX10_isSeen_8 ?_
  rw [show ((5 * (nI p)) + 2 : Int32) = nI (5 * p + 2) from ix_ad (ix_mu rfl rfl) rfl]
  refine v_iald C h3_ (vp_in_nI (by omega) (by decide)) dX10_isSeen_9 ?_
  rw [show fP (nI (5 * p + 2) : Int32).toNatClampNeg = nI (pf p 2) from by rw [nI_clamp (by omega)]; exact cP p lt 2 (by omega)]
  refine v_iload_n C dX10_isSeen_10 rfl ?_
  refine v_icmp_gt (tgt := 18) C dX10_isSeen_11 (by decide) (fun h11 => ?_) (fun h11 => ?_)
  · refine v_iconst C dX10_isSeen_18 (v := 0) rfl ?_
    exact v_zret C E dX10_isSeen_19 (nle rfl) (nle rfl) (by decide) ⟨by rw [decide_eq_false (Nat.not_le.mpr (nI_ltN (by omega) (by omega) h11))]; rfl, rfl⟩
  · refine v_iconst C dX10_isSeen_14 (v := 1) rfl ?_
    refine v_goto (tgt := 19) C dX10_isSeen_15 (by decide) ?_
    exact v_zret C E dX10_isSeen_19 (nle rfl) (nle rfl) (by decide) ⟨by rw [decide_eq_true (nI_nltN (by omega) (by omega) h11)]; rfl, rfl⟩

/-- some PICTURE by the DAY d shows a THING of KIND q at c that is (b: true), or is not, the THING t -/
def shwB (m : Nat → Nat → Nat) (nT : Nat) (pf : Nat → Nat → Nat) (cB : Nat → Nat → Bool) (c q d t : Nat) (b : Bool) (n : Nat) : Bool := anyB (fun p => (decide (pf p 2 ≤ d) && decide (seeI m nT (pf p) (cB p) c = nI (10 + q))) && decide (decide (Kk m nT pf p c = some t) = b)) n
theorem shwB_s (m : Nat → Nat → Nat) (nT : Nat) (pf : Nat → Nat → Nat) (cB : Nat → Nat → Bool) (c q d t : Nat) (b : Bool) (n : Nat) : shwB m nT pf cB c q d t b (n + 1) = (shwB m nT pf cB c q d t b n || ((decide (pf n 2 ≤ d) && decide (seeI m nT (pf n) (cB n) c = nI (10 + q))) && decide (decide (Kk m nT pf n c = some t) = b))) := rfl
theorem see_eq {m : Nat → Nat → Nat} {nT : Nat} (hok : ∀ t, t < nT → okM (m t)) {qf : Nat → Nat} {B : Nat → Bool} {c q : Nat} (hq : q < 100) : seeI m nT qf B c = nI (10 + q) ↔ covN qf B c = true ∧ lookN m nT qf c = 10 + q := by
  rcases see_cases m nT hok qf B c with ⟨h1, h⟩ | ⟨h1, h, h2⟩
  · rw [h, h1]; exact ⟨fun z => absurd z (m6_ne (by omega)), fun z => by cases z.1⟩
  · rw [h, h1]; exact ⟨fun z => ⟨rfl, nI_eqN (by omega) (by omega) z⟩, fun z => by rw [z.2]⟩
theorem shown_seen {m : Nat → Nat → Nat} {nT : Nat} (hok : ∀ t, t < nT → okM (m t)) {pf : Nat → Nat → Nat} {cB : Nat → Nat → Bool} {nP c d t : Nat} (ht : t < nT) : (liesN (m t) (c % 12) (c / 12) && shwB m nT pf cB c (m t 5) d t true nP) = seenA nP pf cB (Lk m nT pf) (Kk m nT pf) t d c := by
  have h5 := hok t ht
  unfold okM at h5
  unfold shwB seenA visA
  rw [Bool.eq_iff_iff, Bool.and_eq_true, anyB_iff, anyB_iff]
  constructor
  · rintro ⟨-, p, hp, h⟩
    simp only [Bool.and_eq_true, decide_eq_true_eq] at h
    obtain ⟨⟨h1, h2⟩, h3⟩ := h
    obtain ⟨h4, h5⟩ := (see_eq hok (by omega)).mp h2
    refine ⟨p, hp, ?_⟩
    simp only [Bool.and_eq_true, decide_eq_true_eq]
    exact ⟨⟨⟨h1, h4⟩, by show 10 ≤ lookN m nT (pf p) c; omega⟩, h3⟩
  · rintro ⟨p, hp, h⟩
    simp only [Bool.and_eq_true, decide_eq_true_eq] at h
    obtain ⟨⟨⟨h1, h2⟩, h3⟩, h4⟩ := h
    refine ⟨(bst_here h4).2, p, hp, ?_⟩
    simp only [Bool.and_eq_true, decide_eq_true_eq]
    refine ⟨⟨h1, (see_eq hok (by omega)).mpr ⟨h2, ?_⟩⟩, h4⟩
    have h3' : 10 ≤ lookN m nT (pf p) c := h3
    have h4' : bst m (c % 12) (c / 12) (pf p 2) nT = some t := h4
    unfold lookN at h3' ⊢
    rw [h4'] at h3' ⊢
    simp only at h3' ⊢
    by_cases z : m t 9 = 0
    · rw [if_pos z]
    · rw [if_neg z] at h3'
      split at h3' <;> omega
theorem shown_near {m : Nat → Nat → Nat} {nT : Nat} (hok : ∀ t, t < nT → okM (m t)) {pf : Nat → Nat → Nat} {cB : Nat → Nat → Bool} {nP c d t q : Nat} (hq : q < 100) : shwB m nT pf cB c q d t false nP = nearA nP pf cB (Lk m nT pf) (Kk m nT pf) t d q c := by
  unfold shwB nearA visA
  rw [Bool.eq_iff_iff, anyB_iff, anyB_iff]
  constructor
  · rintro ⟨p, hp, h⟩
    simp only [Bool.and_eq_true, decide_eq_true_eq] at h
    obtain ⟨⟨h1, h2⟩, h3⟩ := h
    obtain ⟨h4, h5⟩ := (see_eq hok hq).mp h2
    refine ⟨p, hp, ?_⟩
    simp only [Bool.and_eq_true, decide_eq_true_eq, Bool.not_eq_true']
    exact ⟨⟨⟨⟨h1, h4⟩, by show 10 ≤ lookN m nT (pf p) c; omega⟩, h5⟩, h3⟩
  · rintro ⟨p, hp, h⟩
    simp only [Bool.and_eq_true, decide_eq_true_eq, Bool.not_eq_true'] at h
    obtain ⟨⟨⟨⟨h1, h2⟩, h3⟩, h4⟩, h5⟩ := h
    refine ⟨p, hp, ?_⟩
    simp only [Bool.and_eq_true, decide_eq_true_eq]
    exact ⟨⟨h1, (see_eq hok hq).mpr ⟨h2, h4⟩⟩, h5⟩
set_option maxHeartbeats 4000000 in
set_option maxRecDepth 100000 in
theorem c_X10_isShown (l : Launch) (g : Gm) (M : Mem) (md : Nat) (t1 t2 t3 t4 t5 t6 t7 t8 : Nat) (fT fD fP fC fS fU fX fF : Nat → Int32) (mo : Int32) (nT : Nat) (m : Nat → Nat → Nat) (dB : Nat → Nat → Bool) (nP : Nat) (pf : Nat → Nat → Nat) (cB : Nat → Nat → Bool) (nS : Nat) (sg : Nat → Int32) (ln : Nat → Nat) (tx : Nat → Nat → Int32) (fl : Nat → Nat → Nat) (hM : ModA g M md t1 t2 t3 t4 t5 t6 t7 t8 fT fD fP fC fS fU fX fF mo nT m dB nP pf cB nS sg ln tx fl) (c q d t : Nat) (b : Bool) (hc : c < 96) (hq : q < 100) (hd : d < 100) (ht : t < 12) : Ct l g yX10_isShown cX10_isShown 8 (some .boolean) 4 0 0 [.ref md, .int (nI c), .int (nI q), .int (nI d), .int (nI t), .int (bI b)] M (fun v N => v = some (.int (bI (shwB m nT pf cB c q d t b nP))) ∧ N = M) := by
  refine Ct.of (by decide) (Nat.le_of_ble_eq_true rfl) ?_
  intro X hXl hXg hN C E
  subst hXl; subst hXg
  show V X (rmD 4 0 0) M 0 0 [(0, .ref md), (1, .int (nI c)), (2, .int (nI q)), (3, .int (nI d)), (4, .int (nI t)), (5, .int (bI b))] 0 []
  obtain ⟨hO, h1_, h2_, h3_, h4_, h5_, h6_, h7_, h8_, bT, bP, bS, okT_, cT, cD, okP_, cP, cC, cS, cU, bU_, cX, okX, okF_, cF⟩ := id hM
  refine v_iconst C dX10_isShown_0 (v := 0) rfl ?_
  refine v_istore (lv' := [(6, .int 0), (0, .ref md), (1, .int (nI c)), (2, .int (nI q)), (3, .int (nI d)), (4, .int (nI t)), (5, .int (bI b))]) C dX10_isShown_1 hN (by decide) rfl ?_
  refine v_sub (lv' := [(0, .ref md), (1, .int (nI c)), (2, .int (nI q)), (3, .int (nI d)), (4, .int (nI t)), (5, .int (bI b)), (6, .int 0)]) [1, 2, 3, 4, 5, 6, 0] rfl ?_
  have lp3 : ∀ (mm : Nat) (j : Nat) (h1 : j ≤ nP) (h2 : shwB m nT pf cB c q d t b j = false), nP - j < mm → V X (rmD 4 0 0) M 0 0 [(0, .ref md), (1, .int (nI c)), (2, .int (nI q)), (3, .int (nI d)), (4, .int (nI t)), (5, .int (bI b)), (6, .int (nI j))] 3 [] := by
    intro mm
    induction mm with
    | zero => intro j h1 h2 hmu; exact absurd hmu (Nat.not_lt_zero _)
    | succ mm ih3 =>
      intro j h1 h2 hmu
      refine v_iload C dX10_isShown_3 rfl ?_
      refine v_aload_n C dX10_isShown_5 rfl ?_
      refine v_get C kX10 hO 3 (by decide) wF_X10_43 rfl dX10_isShown_6 ?_
      refine v_icmp_ge (tgt := 94) C dX10_isShown_9 (by decide) (fun h9 => ?_) (fun h9 => ?_)
      · refine v_iconst C dX10_isShown_94 (v := 0) rfl ?_
        exact v_zret C E dX10_isShown_95 (nle rfl) (nle rfl) (by decide) ⟨by rw [← show j = nP from Nat.le_antisymm h1 (nI_leN (by omega) (by omega) h9), h2]; rfl, rfl⟩
      · have g9 := nI_nleN (by omega) (by omega) h9
        have e9 := okP_ j g9
        unfold okP at e9
        refine v_aload_n C dX10_isShown_12 rfl ?_
        refine v_iload C dX10_isShown_13 rfl ?_
        refine v_iload_n C dX10_isShown_15 rfl ?_
        refine v_callV (As := [.int (nI j), .int (nI d)]) (rest := []) (b := md) C (c_X10_isSeen (xl X) (xg X) M md t1 t2 t3 t4 t5 t6 t7 t8 fT fD fP fC fS fU fX fF mo nT m dB nP pf cB nS sg ln tx fl hM j d (by omega) (by omega)) pm_X10_isSeen wI_X10_isSeen wS_X10_isSeen wM_X10_87 kX10 hO ⟨by decide, by decide⟩ ⟨by decide, by decide⟩ (nle rfl) dX10_isShown_16 rfl (dt1 ?_)
        show V X (rmD 4 0 0) M 0 0 [(0, .ref md), (1, .int (nI c)), (2, .int (nI q)), (3, .int (nI d)), (4, .int (nI t)), (5, .int (bI b)), (6, .int (nI j))] 19 [.int (bI (decide (pf j 2 ≤ d)))]
        refine v_ifb_eq (tgt := 40) C dX10_isShown_19 (by decide) (fun h19 => ?_) (fun h19 => ?_)
        · refine v_iconst C dX10_isShown_40 (v := 0) rfl ?_
          refine v_istore (lv' := [(7, .int 0), (0, .ref md), (1, .int (nI c)), (2, .int (nI q)), (3, .int (nI d)), (4, .int (nI t)), (5, .int (bI b)), (6, .int (nI j))]) C dX10_isShown_41 hN (by decide) rfl ?_
          refine v_iload C dX10_isShown_43 rfl ?_
          refine v_if_eq (tgt := 88) C dX10_isShown_45 (by decide) (fun h45 => ?_) (fun hbad => absurd hbad (not_not_intro rfl))
          refine v_iinc (lv' := [(6, .int (nI (j + 1))), (7, .int 0), (0, .ref md), (1, .int (nI c)), (2, .int (nI q)), (3, .int (nI d)), (4, .int (nI t)), (5, .int (bI b))]) C dX10_isShown_88 7 rfl (nI_1 _) hN (by decide) rfl ?_
          refine v_goto (tgt := 3) C dX10_isShown_91 (by decide) ?_
          refine v_sub (lv' := [(0, .ref md), (1, .int (nI c)), (2, .int (nI q)), (3, .int (nI d)), (4, .int (nI t)), (5, .int (bI b)), (6, .int (nI (j + 1)))]) [2, 3, 4, 5, 6, 7, 0] rfl ?_
          exact ih3 (j + 1) (by omega) (by rw [shwB_s, h2]; first | (rw [h19]; rfl) | (rw [decide_eq_false (p := seeI m nT (pf j) (cB j) c = nI (10 + q)) (fun z => h33 (z.trans (ix_ad rfl rfl).symm)), Bool.and_false]; rfl)) (by omega)
        · refine v_aload_n C dX10_isShown_22 rfl ?_
          refine v_iload C dX10_isShown_23 rfl ?_
          refine v_iload_n C dX10_isShown_25 rfl ?_
          refine v_callV (As := [.int (nI j), .int (nI c)]) (rest := []) (b := md) C (c_X10_showsOf (xl X) (xg X) M md t1 t2 t3 t4 t5 t6 t7 t8 fT fD fP fC fS fU fX fF mo nT m dB nP pf cB nS sg ln tx fl hM j c (by omega) (by omega)) pm_X10_showsOf wI_X10_showsOf wS_X10_showsOf wM_X10_73 kX10 hO ⟨by decide, by decide⟩ ⟨by decide, by decide⟩ (nle rfl) dX10_isShown_26 rfl (dt1 ?_)
          show V X (rmD 4 0 0) M 0 0 [(0, .ref md), (1, .int (nI c)), (2, .int (nI q)), (3, .int (nI d)), (4, .int (nI t)), (5, .int (bI b)), (6, .int (nI j))] 29 [.int (seeI m nT (pf j) (cB j) c)]
          refine v_bipush C dX10_isShown_29 (v := 10) rfl ?_
          refine v_iload_n C dX10_isShown_31 rfl ?_
          refine v_iadd C dX10_isShown_32 ?_
          refine v_icmp_ne (tgt := 40) C dX10_isShown_33 (by decide) (fun h33 => ?_) (fun h33 => ?_)
          · refine v_iconst C dX10_isShown_40 (v := 0) rfl ?_
            refine v_istore (lv' := [(7, .int 0), (0, .ref md), (1, .int (nI c)), (2, .int (nI q)), (3, .int (nI d)), (4, .int (nI t)), (5, .int (bI b)), (6, .int (nI j))]) C dX10_isShown_41 hN (by decide) rfl ?_
            refine v_iload C dX10_isShown_43 rfl ?_
            refine v_if_eq (tgt := 88) C dX10_isShown_45 (by decide) (fun h45 => ?_) (fun hbad => absurd hbad (not_not_intro rfl))
            refine v_iinc (lv' := [(6, .int (nI (j + 1))), (7, .int 0), (0, .ref md), (1, .int (nI c)), (2, .int (nI q)), (3, .int (nI d)), (4, .int (nI t)), (5, .int (bI b))]) C dX10_isShown_88 7 rfl (nI_1 _) hN (by decide) rfl ?_
            refine v_goto (tgt := 3) C dX10_isShown_91 (by decide) ?_
            refine v_sub (lv' := [(0, .ref md), (1, .int (nI c)), (2, .int (nI q)), (3, .int (nI d)), (4, .int (nI t)), (5, .int (bI b)), (6, .int (nI (j + 1)))]) [2, 3, 4, 5, 6, 7, 0] rfl ?_
            exact ih3 (j + 1) (by omega) (by rw [shwB_s, h2]; first | (rw [h19]; rfl) | (rw [decide_eq_false (p := seeI m nT (pf j) (cB j) c = nI (10 + q)) (fun z => h33 (z.trans (ix_ad rfl rfl).symm)), Bool.and_false]; rfl)) (by omega)
          · have g33 : seeI m nT (pf j) (cB j) c = nI (10 + q) := h33.trans (ix_ad rfl rfl)
            refine v_iconst C dX10_isShown_36 (v := 1) rfl ?_
            refine v_goto (tgt := 41) C dX10_isShown_37 (by decide) ?_
            refine v_istore (lv' := [(7, .int 1), (0, .ref md), (1, .int (nI c)), (2, .int (nI q)), (3, .int (nI d)), (4, .int (nI t)), (5, .int (bI b)), (6, .int (nI j))]) C dX10_isShown_41 hN (by decide) rfl ?_
            refine v_iload C dX10_isShown_43 rfl ?_
            refine v_if_eq (tgt := 88) C dX10_isShown_45 (by decide) (fun hbad => absurd hbad (by decide)) (fun h45 => ?_)
            refine v_aload_n C dX10_isShown_48 rfl ?_
            refine v_iload_n C dX10_isShown_49 rfl ?_
            refine v_bipush C dX10_isShown_50 (v := 12) rfl ?_
            refine v_irem C dX10_isShown_52 (by decide) ?_
            rw [cell_mod (c := c) (by omega)]
            show V X (rmD 4 0 0) M 0 0 [(7, .int 1), (0, .ref md), (1, .int (nI c)), (2, .int (nI q)), (3, .int (nI d)), (4, .int (nI t)), (5, .int (bI b)), (6, .int (nI j))] 53 [.int (nI (c % 12)), .ref md]
            refine v_iload_n C dX10_isShown_53 rfl ?_
            refine v_bipush C dX10_isShown_54 (v := 12) rfl ?_
            refine v_idiv C dX10_isShown_56 (by decide) ?_
            rw [cell_div (c := c) (by omega)]
            show V X (rmD 4 0 0) M 0 0 [(7, .int 1), (0, .ref md), (1, .int (nI c)), (2, .int (nI q)), (3, .int (nI d)), (4, .int (nI t)), (5, .int (bI b)), (6, .int (nI j))] 57 [.int (nI (c / 12)), .int (nI (c % 12)), .ref md]
            refine v_aload_n C dX10_isShown_57 rfl ?_
            refine v_get C kX10 hO 4 (by decide) wF_X10_17 rfl dX10_isShown_58 ?_
            refine v_iconst C dX10_isShown_61 (v := 5) rfl ?_
            refine v_iload C dX10_isShown_62 rfl ?_
            refine v_imul C dX10_isShown_64 ?_
            refine v_iconst C dX10_isShown_65 (v := 2) rfl ?_
            refine v_iadd C dX10_isShown_66 ?_
            rw [show ((5 * (nI j)) + 2 : Int32) = nI (5 * j + 2) from ix_ad (ix_mu rfl rfl) rfl]
            refine v_iald C h3_ (vp_in_nI (by omega) (by decide)) dX10_isShown_67 ?_
            rw [show fP (nI (5 * j + 2) : Int32).toNatClampNeg = nI (pf j 2) from by rw [nI_clamp (by omega)]; exact cP j g9 2 (by omega)]
            refine v_callV (As := [.int (nI (c % 12)), .int (nI (c / 12)), .int (nI (pf j 2))]) (rest := []) (b := md) C (c_X10_thingAt (xl X) (xg X) M md t1 t2 t3 t4 t5 t6 t7 t8 fT fD fP fC fS fU fX fF mo nT m dB nP pf cB nS sg ln tx fl hM ((c % 12)) ((c / 12)) ((pf j 2)) (by omega) (by omega) (by omega)) pm_X10_thingAt wI_X10_thingAt wS_X10_thingAt wM_X10_63 kX10 hO ⟨by decide, by decide⟩ ⟨by decide, by decide⟩ (nle rfl) dX10_isShown_68 rfl (dt1 ?_)
            show V X (rmD 4 0 0) M 0 0 [(7, .int 1), (0, .ref md), (1, .int (nI c)), (2, .int (nI q)), (3, .int (nI d)), (4, .int (nI t)), (5, .int (bI b)), (6, .int (nI j))] 71 [.int (oI (bst m ((c % 12)) ((c / 12)) ((pf j 2)) nT))]
            refine v_iload C dX10_isShown_71 rfl ?_
            refine v_icmp_ne (tgt := 80) C dX10_isShown_73 (by decide) (fun h73 => ?_) (fun h73 => ?_)
            · refine v_iconst C dX10_isShown_80 (v := 0) rfl ?_
              refine v_iload C dX10_isShown_81 rfl ?_
              refine v_icmp_ne (tgt := 88) C dX10_isShown_83 (by decide) (fun h83 => ?_) (fun h83 => ?_)
              · have gk : ¬ decide (Kk m nT pf j c = some t) = b := by first | (rw [decide_eq_true (show Kk m nT pf j c = some t from (oI_eq (o := bst m (c % 12) (c / 12) (pf j 2) nT) (t := t) (fun k hk => by have := bst_lt hk; omega) (by omega)).mp h73)]; intro z; exact h83 (by rw [← z]; rfl)) | (rw [decide_eq_false (show ¬ Kk m nT pf j c = some t from fun z => h73 ((oI_eq (o := bst m (c % 12) (c / 12) (pf j 2) nT) (t := t) (fun k hk => by have := bst_lt hk; omega) (by omega)).mpr z))]; intro z; exact h83 (by rw [← z]; rfl))
                refine v_iinc (lv' := [(6, .int (nI (j + 1))), (7, .int 1), (0, .ref md), (1, .int (nI c)), (2, .int (nI q)), (3, .int (nI d)), (4, .int (nI t)), (5, .int (bI b))]) C dX10_isShown_88 7 rfl (nI_1 _) hN (by decide) rfl ?_
                refine v_goto (tgt := 3) C dX10_isShown_91 (by decide) ?_
                refine v_sub (lv' := [(0, .ref md), (1, .int (nI c)), (2, .int (nI q)), (3, .int (nI d)), (4, .int (nI t)), (5, .int (bI b)), (6, .int (nI (j + 1)))]) [2, 3, 4, 5, 6, 7, 0] rfl ?_
                exact ih3 (j + 1) (by omega) (by rw [shwB_s, h2, decide_eq_false (p := decide (Kk m nT pf j c = some t) = b) gk, Bool.and_false]; rfl) (by omega)
              · have gk : decide (Kk m nT pf j c = some t) = b := by first | (rw [decide_eq_true (show Kk m nT pf j c = some t from (oI_eq (o := bst m (c % 12) (c / 12) (pf j 2) nT) (t := t) (fun k hk => by have := bst_lt hk; omega) (by omega)).mp h73)]; exact bI_inj.mp h83) | (rw [decide_eq_false (show ¬ Kk m nT pf j c = some t from fun z => h73 ((oI_eq (o := bst m (c % 12) (c / 12) (pf j 2) nT) (t := t) (fun k hk => by have := bst_lt hk; omega) (by omega)).mpr z))]; exact bI_inj.mp h83)
                refine v_iconst C dX10_isShown_86 (v := 1) rfl ?_
                exact v_zret C E dX10_isShown_87 (nle rfl) (nle rfl) (by decide) ⟨by rw [show shwB m nT pf cB c q d t b nP = true from anyB_iff.mpr ⟨j, g9, by simp only [h19, decide_eq_true g33, Bool.and_self, Bool.true_and]; exact decide_eq_true gk⟩]; rfl, rfl⟩
            · refine v_iconst C dX10_isShown_76 (v := 1) rfl ?_
              refine v_goto (tgt := 81) C dX10_isShown_77 (by decide) ?_
              refine v_iload C dX10_isShown_81 rfl ?_
              refine v_icmp_ne (tgt := 88) C dX10_isShown_83 (by decide) (fun h83 => ?_) (fun h83 => ?_)
              · have gk : ¬ decide (Kk m nT pf j c = some t) = b := by first | (rw [decide_eq_true (show Kk m nT pf j c = some t from (oI_eq (o := bst m (c % 12) (c / 12) (pf j 2) nT) (t := t) (fun k hk => by have := bst_lt hk; omega) (by omega)).mp h73)]; intro z; exact h83 (by rw [← z]; rfl)) | (rw [decide_eq_false (show ¬ Kk m nT pf j c = some t from fun z => h73 ((oI_eq (o := bst m (c % 12) (c / 12) (pf j 2) nT) (t := t) (fun k hk => by have := bst_lt hk; omega) (by omega)).mpr z))]; intro z; exact h83 (by rw [← z]; rfl))
                refine v_iinc (lv' := [(6, .int (nI (j + 1))), (7, .int 1), (0, .ref md), (1, .int (nI c)), (2, .int (nI q)), (3, .int (nI d)), (4, .int (nI t)), (5, .int (bI b))]) C dX10_isShown_88 7 rfl (nI_1 _) hN (by decide) rfl ?_
                refine v_goto (tgt := 3) C dX10_isShown_91 (by decide) ?_
                refine v_sub (lv' := [(0, .ref md), (1, .int (nI c)), (2, .int (nI q)), (3, .int (nI d)), (4, .int (nI t)), (5, .int (bI b)), (6, .int (nI (j + 1)))]) [2, 3, 4, 5, 6, 7, 0] rfl ?_
                exact ih3 (j + 1) (by omega) (by rw [shwB_s, h2, decide_eq_false (p := decide (Kk m nT pf j c = some t) = b) gk, Bool.and_false]; rfl) (by omega)
              · have gk : decide (Kk m nT pf j c = some t) = b := by first | (rw [decide_eq_true (show Kk m nT pf j c = some t from (oI_eq (o := bst m (c % 12) (c / 12) (pf j 2) nT) (t := t) (fun k hk => by have := bst_lt hk; omega) (by omega)).mp h73)]; exact bI_inj.mp h83) | (rw [decide_eq_false (show ¬ Kk m nT pf j c = some t from fun z => h73 ((oI_eq (o := bst m (c % 12) (c / 12) (pf j 2) nT) (t := t) (fun k hk => by have := bst_lt hk; omega) (by omega)).mpr z))]; exact bI_inj.mp h83)
                refine v_iconst C dX10_isShown_86 (v := 1) rfl ?_
                exact v_zret C E dX10_isShown_87 (nle rfl) (nle rfl) (by decide) ⟨by rw [show shwB m nT pf cB c q d t b nP = true from anyB_iff.mpr ⟨j, g9, by simp only [h19, decide_eq_true g33, Bool.and_self, Bool.true_and]; exact decide_eq_true gk⟩]; rfl, rfl⟩
  exact lp3 (_ + 1) 0 (Nat.zero_le _) rfl (Nat.lt_succ_self _)

set_option maxHeartbeats 4000000 in
set_option maxRecDepth 100000 in
theorem c_X10_shownOf (l : Launch) (g : Gm) (M : Mem) (md : Nat) (t1 t2 t3 t4 t5 t6 t7 t8 : Nat) (fT fD fP fC fS fU fX fF : Nat → Int32) (mo : Int32) (nT : Nat) (m : Nat → Nat → Nat) (dB : Nat → Nat → Bool) (nP : Nat) (pf : Nat → Nat → Nat) (cB : Nat → Nat → Bool) (nS : Nat) (sg : Nat → Int32) (ln : Nat → Nat) (tx : Nat → Nat → Int32) (fl : Nat → Nat → Nat) (hM : ModA g M md t1 t2 t3 t4 t5 t6 t7 t8 fT fD fP fC fS fU fX fF mo nT m dB nP pf cB nS sg ln tx fl) (t d : Nat) (lt : t < nT) (hd : d < 100) : Ct l g yX10_shownOf cX10_shownOf 5 (some .int) 5 0 0 [.ref md, .int (nI t), .int (nI d)] M (fun v N => v = some (.int (nI (cntB (seenA nP pf cB (Lk m nT pf) (Kk m nT pf) t d) 96))) ∧ N = M) := by
  refine Ct.of (by decide) (Nat.le_of_ble_eq_true rfl) ?_
  intro X hXl hXg hN C E
  subst hXl; subst hXg
  show V X (rmD 5 0 0) M 0 0 [(0, .ref md), (1, .int (nI t)), (2, .int (nI d))] 0 []
  obtain ⟨hO, h1_, h2_, h3_, h4_, h5_, h6_, h7_, h8_, bT, bP, bS, okT_, cT, cD, okP_, cP, cC, cS, cU, bU_, cX, okX, okF_, cF⟩ := id hM
  have e8 := okT_ t lt
  unfold okM at e8
  refine v_iconst C dX10_shownOf_0 (v := 0) rfl ?_
  refine v_istore_n (lv' := [(3, .int 0), (0, .ref md), (1, .int (nI t)), (2, .int (nI d))]) C dX10_shownOf_1 hN (by decide) rfl ?_
  refine v_iconst C dX10_shownOf_2 (v := 0) rfl ?_
  refine v_istore (lv' := [(4, .int 0), (3, .int 0), (0, .ref md), (1, .int (nI t)), (2, .int (nI d))]) C dX10_shownOf_3 hN (by decide) rfl ?_
  refine v_sub (lv' := [(0, .ref md), (1, .int (nI t)), (2, .int (nI d)), (3, .int 0), (4, .int 0)]) [2, 3, 4, 1, 0] rfl ?_
  have lp5 : ∀ (mm : Nat) (j : Nat) (h1 : j ≤ 96), 96 - j < mm → V X (rmD 5 0 0) M 0 0 [(0, .ref md), (1, .int (nI t)), (2, .int (nI d)), (3, .int (nI (cntB (fun c => liesN (m t) (c % 12) (c / 12) && shwB m nT pf cB c (m t 5) d t true nP) j))), (4, .int (nI j))] 5 [] := by
    intro mm
    induction mm with
    | zero => intro j h1 hmu; exact absurd hmu (Nat.not_lt_zero _)
    | succ mm ih5 =>
      intro j h1 hmu
      refine v_iload C dX10_shownOf_5 rfl ?_
      refine v_bipush C dX10_shownOf_7 (v := 96) rfl ?_
      refine v_icmp_ge (tgt := 67) C dX10_shownOf_9 (by decide) (fun h9 => ?_) (fun h9 => ?_)
      · refine v_iload_n C dX10_shownOf_67 rfl ?_
        exact v_iret C E dX10_shownOf_68 (nle rfl) (nle rfl) ⟨by rw [← show j = 96 from Nat.le_antisymm h1 (nI_leN (a := 96) (by decide) (by omega) h9), cntB_congr (fun c _ => shown_seen okT_ lt)], rfl⟩
      · have g9 := nI_nleN (a := 96) (by decide) (by omega) h9
        refine v_iload_n C dX10_shownOf_12 rfl ?_
        refine v_aload_n C dX10_shownOf_13 rfl ?_
        refine v_iload_n C dX10_shownOf_14 rfl ?_
        refine v_iload C dX10_shownOf_15 rfl ?_
        refine v_bipush C dX10_shownOf_17 (v := 12) rfl ?_
        refine v_irem C dX10_shownOf_19 (by decide) ?_
        rw [cell_mod (c := j) (by omega)]
        show V X (rmD 5 0 0) M 0 0 [(0, .ref md), (1, .int (nI t)), (2, .int (nI d)), (3, .int (nI (cntB (fun c => liesN (m t) (c % 12) (c / 12) && shwB m nT pf cB c (m t 5) d t true nP) j))), (4, .int (nI j))] 20 [.int (nI (j % 12)), .int (nI t), .ref md, .int (nI (cntB (fun c => liesN (m t) (c % 12) (c / 12) && shwB m nT pf cB c (m t 5) d t true nP) j))]
        refine v_iload C dX10_shownOf_20 rfl ?_
        refine v_bipush C dX10_shownOf_22 (v := 12) rfl ?_
        refine v_idiv C dX10_shownOf_24 (by decide) ?_
        rw [cell_div (c := j) (by omega)]
        show V X (rmD 5 0 0) M 0 0 [(0, .ref md), (1, .int (nI t)), (2, .int (nI d)), (3, .int (nI (cntB (fun c => liesN (m t) (c % 12) (c / 12) && shwB m nT pf cB c (m t 5) d t true nP) j))), (4, .int (nI j))] 25 [.int (nI (j / 12)), .int (nI (j % 12)), .int (nI t), .ref md, .int (nI (cntB (fun c => liesN (m t) (c % 12) (c / 12) && shwB m nT pf cB c (m t 5) d t true nP) j))]
        refine v_callV (As := [.int (nI t), .int (nI (j % 12)), .int (nI (j / 12))]) (rest := [.int (nI (cntB (fun c => liesN (m t) (c % 12) (c / 12) && shwB m nT pf cB c (m t 5) d t true nP) j))]) (b := md) C (c_X10_isOwn (xl X) (xg X) M md t1 t2 t3 t4 t5 t6 t7 t8 fT fD fP fC fS fU fX fF mo nT m dB nP pf cB nS sg ln tx fl hM t ((j % 12)) ((j / 12)) (by omega) (by omega) (by omega)) pm_X10_isOwn wI_X10_isOwn wS_X10_isOwn wM_X10_57 kX10 hO ⟨by decide, by decide⟩ ⟨by decide, by decide⟩ (nle rfl) dX10_shownOf_25 rfl (dt1 ?_)
        show V X (rmD 5 0 0) M 0 0 [(0, .ref md), (1, .int (nI t)), (2, .int (nI d)), (3, .int (nI (cntB (fun c => liesN (m t) (c % 12) (c / 12) && shwB m nT pf cB c (m t 5) d t true nP) j))), (4, .int (nI j))] 28 [.int (bI (liesN (m t) ((j % 12)) ((j / 12)))), .int (nI (cntB (fun c => liesN (m t) (c % 12) (c / 12) && shwB m nT pf cB c (m t 5) d t true nP) j))]
        refine v_ifb_eq (tgt := 58) C dX10_shownOf_28 (by decide) (fun h28 => ?_) (fun h28 => ?_)
        · refine v_iconst C dX10_shownOf_58 (v := 0) rfl ?_
          refine v_iadd C dX10_shownOf_59 ?_
          rw [show nI (cntB (fun c => liesN (m t) (c % 12) (c / 12) && shwB m nT pf cB c (m t 5) d t true nP) j) + 0 = nI (cntB (fun c => liesN (m t) (c % 12) (c / 12) && shwB m nT pf cB c (m t 5) d t true nP) (j + 1)) by rw [cntB_s, show (liesN (m t) (j % 12) (j / 12) && shwB m nT pf cB j (m t 5) d t true nP) = false from (by first | (rw [h28, h51]; rfl) | (rw [h28]; rfl))]; exact ix_ad (b := 0) rfl rfl]
          show V X (rmD 5 0 0) M 0 0 [(0, .ref md), (1, .int (nI t)), (2, .int (nI d)), (3, .int (nI (cntB (fun c => liesN (m t) (c % 12) (c / 12) && shwB m nT pf cB c (m t 5) d t true nP) j))), (4, .int (nI j))] 60 [.int (nI (cntB (fun c => liesN (m t) (c % 12) (c / 12) && shwB m nT pf cB c (m t 5) d t true nP) (j + 1)))]
          refine v_istore_n (lv' := [(3, .int (nI (cntB (fun c => liesN (m t) (c % 12) (c / 12) && shwB m nT pf cB c (m t 5) d t true nP) (j + 1)))), (0, .ref md), (1, .int (nI t)), (2, .int (nI d)), (4, .int (nI j))]) C dX10_shownOf_60 hN (by decide) rfl ?_
          refine v_iinc (lv' := [(4, .int (nI (j + 1))), (3, .int (nI (cntB (fun c => liesN (m t) (c % 12) (c / 12) && shwB m nT pf cB c (m t 5) d t true nP) (j + 1)))), (0, .ref md), (1, .int (nI t)), (2, .int (nI d))]) C dX10_shownOf_61 4 rfl (nI_1 _) hN (by decide) rfl ?_
          refine v_goto (tgt := 5) C dX10_shownOf_64 (by decide) ?_
          refine v_sub (lv' := [(0, .ref md), (1, .int (nI t)), (2, .int (nI d)), (3, .int (nI (cntB (fun c => liesN (m t) (c % 12) (c / 12) && shwB m nT pf cB c (m t 5) d t true nP) (j + 1)))), (4, .int (nI (j + 1)))]) [2, 3, 4, 1, 0] rfl ?_
          exact ih5 (j + 1) (by omega) (by omega)
        · refine v_aload_n C dX10_shownOf_31 rfl ?_
          refine v_iload C dX10_shownOf_32 rfl ?_
          refine v_aload_n C dX10_shownOf_34 rfl ?_
          refine v_get C kX10 hO 1 (by decide) wF_X10_7 rfl dX10_shownOf_35 ?_
          refine v_bipush C dX10_shownOf_38 (v := 11) rfl ?_
          refine v_iload_n C dX10_shownOf_40 rfl ?_
          refine v_imul C dX10_shownOf_41 ?_
          refine v_iconst C dX10_shownOf_42 (v := 5) rfl ?_
          refine v_iadd C dX10_shownOf_43 ?_
          rw [show ((11 * (nI t)) + 5 : Int32) = nI (11 * t + 5) from ix_ad (ix_mu rfl rfl) rfl]
          refine v_iald C h1_ (vp_in_nI (by omega) (by decide)) dX10_shownOf_44 ?_
          rw [show fT (nI (11 * t + 5) : Int32).toNatClampNeg = nI (m t 5) from by rw [nI_clamp (by omega)]; exact cT t lt 5 (by omega)]
          refine v_iload_n C dX10_shownOf_45 rfl ?_
          refine v_iload_n C dX10_shownOf_46 rfl ?_
          refine v_iconst C dX10_shownOf_47 (v := 1) rfl ?_
          refine v_callV (As := [.int (nI j), .int (nI (m t 5)), .int (nI d), .int (nI t), .int 1]) (rest := [.int (nI (cntB (fun c => liesN (m t) (c % 12) (c / 12) && shwB m nT pf cB c (m t 5) d t true nP) j))]) (b := md) C (c_X10_isShown (xl X) (xg X) M md t1 t2 t3 t4 t5 t6 t7 t8 fT fD fP fC fS fU fX fF mo nT m dB nP pf cB nS sg ln tx fl hM j ((m t 5)) d t true (by omega) (by omega) (by omega) (by omega)) pm_X10_isShown wI_X10_isShown wS_X10_isShown wM_X10_90 kX10 hO ⟨by decide, by decide⟩ ⟨by decide, by decide⟩ (nle rfl) dX10_shownOf_48 rfl (dt1 ?_)
          show V X (rmD 5 0 0) M 0 0 [(0, .ref md), (1, .int (nI t)), (2, .int (nI d)), (3, .int (nI (cntB (fun c => liesN (m t) (c % 12) (c / 12) && shwB m nT pf cB c (m t 5) d t true nP) j))), (4, .int (nI j))] 51 [.int (bI (shwB m nT pf cB j ((m t 5)) d t true nP)), .int (nI (cntB (fun c => liesN (m t) (c % 12) (c / 12) && shwB m nT pf cB c (m t 5) d t true nP) j))]
          refine v_ifb_eq (tgt := 58) C dX10_shownOf_51 (by decide) (fun h51 => ?_) (fun h51 => ?_)
          · refine v_iconst C dX10_shownOf_58 (v := 0) rfl ?_
            refine v_iadd C dX10_shownOf_59 ?_
            rw [show nI (cntB (fun c => liesN (m t) (c % 12) (c / 12) && shwB m nT pf cB c (m t 5) d t true nP) j) + 0 = nI (cntB (fun c => liesN (m t) (c % 12) (c / 12) && shwB m nT pf cB c (m t 5) d t true nP) (j + 1)) by rw [cntB_s, show (liesN (m t) (j % 12) (j / 12) && shwB m nT pf cB j (m t 5) d t true nP) = false from (by first | (rw [h28, h51]; rfl) | (rw [h28]; rfl))]; exact ix_ad (b := 0) rfl rfl]
            show V X (rmD 5 0 0) M 0 0 [(0, .ref md), (1, .int (nI t)), (2, .int (nI d)), (3, .int (nI (cntB (fun c => liesN (m t) (c % 12) (c / 12) && shwB m nT pf cB c (m t 5) d t true nP) j))), (4, .int (nI j))] 60 [.int (nI (cntB (fun c => liesN (m t) (c % 12) (c / 12) && shwB m nT pf cB c (m t 5) d t true nP) (j + 1)))]
            refine v_istore_n (lv' := [(3, .int (nI (cntB (fun c => liesN (m t) (c % 12) (c / 12) && shwB m nT pf cB c (m t 5) d t true nP) (j + 1)))), (0, .ref md), (1, .int (nI t)), (2, .int (nI d)), (4, .int (nI j))]) C dX10_shownOf_60 hN (by decide) rfl ?_
            refine v_iinc (lv' := [(4, .int (nI (j + 1))), (3, .int (nI (cntB (fun c => liesN (m t) (c % 12) (c / 12) && shwB m nT pf cB c (m t 5) d t true nP) (j + 1)))), (0, .ref md), (1, .int (nI t)), (2, .int (nI d))]) C dX10_shownOf_61 4 rfl (nI_1 _) hN (by decide) rfl ?_
            refine v_goto (tgt := 5) C dX10_shownOf_64 (by decide) ?_
            refine v_sub (lv' := [(0, .ref md), (1, .int (nI t)), (2, .int (nI d)), (3, .int (nI (cntB (fun c => liesN (m t) (c % 12) (c / 12) && shwB m nT pf cB c (m t 5) d t true nP) (j + 1)))), (4, .int (nI (j + 1)))]) [2, 3, 4, 1, 0] rfl ?_
            exact ih5 (j + 1) (by omega) (by omega)
          · refine v_iconst C dX10_shownOf_54 (v := 1) rfl ?_
            refine v_goto (tgt := 59) C dX10_shownOf_55 (by decide) ?_
            refine v_iadd C dX10_shownOf_59 ?_
            rw [show nI (cntB (fun c => liesN (m t) (c % 12) (c / 12) && shwB m nT pf cB c (m t 5) d t true nP) j) + 1 = nI (cntB (fun c => liesN (m t) (c % 12) (c / 12) && shwB m nT pf cB c (m t 5) d t true nP) (j + 1)) by rw [cntB_s, show (liesN (m t) (j % 12) (j / 12) && shwB m nT pf cB j (m t 5) d t true nP) = true from (by rw [h28, h51]; rfl)]; exact nI_1 _]
            show V X (rmD 5 0 0) M 0 0 [(0, .ref md), (1, .int (nI t)), (2, .int (nI d)), (3, .int (nI (cntB (fun c => liesN (m t) (c % 12) (c / 12) && shwB m nT pf cB c (m t 5) d t true nP) j))), (4, .int (nI j))] 60 [.int (nI (cntB (fun c => liesN (m t) (c % 12) (c / 12) && shwB m nT pf cB c (m t 5) d t true nP) (j + 1)))]
            refine v_istore_n (lv' := [(3, .int (nI (cntB (fun c => liesN (m t) (c % 12) (c / 12) && shwB m nT pf cB c (m t 5) d t true nP) (j + 1)))), (0, .ref md), (1, .int (nI t)), (2, .int (nI d)), (4, .int (nI j))]) C dX10_shownOf_60 hN (by decide) rfl ?_
            refine v_iinc (lv' := [(4, .int (nI (j + 1))), (3, .int (nI (cntB (fun c => liesN (m t) (c % 12) (c / 12) && shwB m nT pf cB c (m t 5) d t true nP) (j + 1)))), (0, .ref md), (1, .int (nI t)), (2, .int (nI d))]) C dX10_shownOf_61 4 rfl (nI_1 _) hN (by decide) rfl ?_
            refine v_goto (tgt := 5) C dX10_shownOf_64 (by decide) ?_
            refine v_sub (lv' := [(0, .ref md), (1, .int (nI t)), (2, .int (nI d)), (3, .int (nI (cntB (fun c => liesN (m t) (c % 12) (c / 12) && shwB m nT pf cB c (m t 5) d t true nP) (j + 1)))), (4, .int (nI (j + 1)))]) [2, 3, 4, 1, 0] rfl ?_
            exact ih5 (j + 1) (by omega) (by omega)
  exact lp5 (_ + 1) 0 (Nat.zero_le _) (Nat.lt_succ_self _)

set_option maxHeartbeats 4000000 in
set_option maxRecDepth 100000 in
theorem c_X10_farOf (l : Launch) (g : Gm) (M : Mem) (md : Nat) (t1 t2 t3 t4 t5 t6 t7 t8 : Nat) (fT fD fP fC fS fU fX fF : Nat → Int32) (mo : Int32) (nT : Nat) (m : Nat → Nat → Nat) (dB : Nat → Nat → Bool) (nP : Nat) (pf : Nat → Nat → Nat) (cB : Nat → Nat → Bool) (nS : Nat) (sg : Nat → Int32) (ln : Nat → Nat) (tx : Nat → Nat → Int32) (fl : Nat → Nat → Nat) (hM : ModA g M md t1 t2 t3 t4 t5 t6 t7 t8 fT fD fP fC fS fU fX fF mo nT m dB nP pf cB nS sg ln tx fl) (t c : Nat) (lt : t < nT) (hc : c < 96) : Ct l g yX10_farOf cX10_farOf 5 (some .int) 0 0 0 [.ref md, .int (nI t), .int (nI c)] M (fun v N => v = some (.int (nI (distN (m t) c))) ∧ N = M) := by
  refine Ct.of (by decide) (Nat.le_of_ble_eq_true rfl) ?_
  intro X hXl hXg hN C E
  subst hXl; subst hXg
  show V X (rmD 0 0 0) M 0 0 [(0, .ref md), (1, .int (nI t)), (2, .int (nI c))] 0 []
  obtain ⟨hO, h1_, h2_, h3_, h4_, h5_, h6_, h7_, h8_, bT, bP, bS, okT_, cT, cD, okP_, cP, cC, cS, cU, bU_, cX, okX, okF_, cF⟩ := id hM
  refine v_iload_n C dX10_farOf_0 rfl ?_
  refine v_bipush C dX10_farOf_1 (v := 12) rfl ?_
  refine v_irem C dX10_farOf_3 (by decide) ?_
  rw [cell_mod (c := c) (by omega)]
  show V X (rmD 0 0 0) M 0 0 [(0, .ref md), (1, .int (nI t)), (2, .int (nI c))] 4 [.int (nI (c % 12))]
  refine v_aload_n C dX10_farOf_4 rfl ?_
  refine v_get C kX10 hO 1 (by decide) wF_X10_7 rfl dX10_farOf_5 ?_
  refine v_bipush C dX10_farOf_8 (v := 11) rfl ?_
  refine v_iload_n C dX10_farOf_10 rfl ?_
  refine v_imul C dX10_farOf_11 ?_
  rw [show (11 * (nI t) : Int32) = nI (11 * t) from ix_mu rfl rfl]
  refine v_iald C h1_ (vp_in_nI (by omega) (by decide)) dX10_farOf_12 ?_
  rw [show fT (nI (11 * t) : Int32).toNatClampNeg = nI (m t 0) from by rw [nI_clamp (by omega)]; exact cT t lt 0 (by omega)]
  refine v_isub C dX10_farOf_13 ?_
  refine v_istore_n (lv' := [(3, .int ((nI (c % 12)) - (nI (m t 0)))), (0, .ref md), (1, .int (nI t)), (2, .int (nI c))]) C dX10_farOf_14 hN (by decide) rfl ?_
  refine v_iload_n C dX10_farOf_15 rfl ?_
  refine v_bipush C dX10_farOf_16 (v := 12) rfl ?_
  refine v_idiv C dX10_farOf_18 (by decide) ?_
  rw [cell_div (c := c) (by omega)]
  show V X (rmD 0 0 0) M 0 0 [(3, .int ((nI (c % 12)) - (nI (m t 0)))), (0, .ref md), (1, .int (nI t)), (2, .int (nI c))] 19 [.int (nI (c / 12))]
  refine v_aload_n C dX10_farOf_19 rfl ?_
  refine v_get C kX10 hO 1 (by decide) wF_X10_7 rfl dX10_farOf_20 ?_
  refine v_bipush C dX10_farOf_23 (v := 11) rfl ?_
  refine v_iload_n C dX10_farOf_25 rfl ?_
  refine v_imul C dX10_farOf_26 ?_
  refine v_iconst C dX10_farOf_27 (v := 1) rfl ?_
  refine v_iadd C dX10_farOf_28 ?_
  rw [show ((11 * (nI t)) + 1 : Int32) = nI (11 * t + 1) from ix_ad (ix_mu rfl rfl) rfl]
  refine v_iald C h1_ (vp_in_nI (by omega) (by decide)) dX10_farOf_29 ?_
  rw [show fT (nI (11 * t + 1) : Int32).toNatClampNeg = nI (m t 1) from by rw [nI_clamp (by omega)]; exact cT t lt 1 (by omega)]
  refine v_isub C dX10_farOf_30 ?_
  refine v_istore (lv' := [(4, .int ((nI (c / 12)) - (nI (m t 1)))), (3, .int ((nI (c % 12)) - (nI (m t 0)))), (0, .ref md), (1, .int (nI t)), (2, .int (nI c))]) C dX10_farOf_31 hN (by decide) rfl ?_
  refine v_iload_n C dX10_farOf_33 rfl ?_
  refine v_if_ge (tgt := 42) C dX10_farOf_34 (by decide) (fun h34 => ?_) (fun h34 => ?_)
  · refine v_iload_n C dX10_farOf_42 rfl ?_
    refine v_iload C dX10_farOf_43 rfl ?_
    refine v_if_ge (tgt := 54) C dX10_farOf_45 (by decide) (fun h45 => ?_) (fun h45 => ?_)
    · refine v_iload C dX10_farOf_54 rfl ?_
      refine v_iadd C dX10_farOf_56 ?_
      exact v_iret C E dX10_farOf_57 (nle rfl) (nle rfl) ⟨by rw [← dist_N (okT_ t lt) hc, iabs, iabs]; first | rw [if_pos h34, if_pos h45] | rw [if_neg h34, if_pos h45, Int32.zero_sub] | rw [if_pos h34, if_neg h45, Int32.zero_sub] | rw [if_neg h34, if_neg h45, Int32.zero_sub, Int32.zero_sub], rfl⟩
    · refine v_iload C dX10_farOf_48 rfl ?_
      refine v_ineg C dX10_farOf_50 ?_
      refine v_goto (tgt := 56) C dX10_farOf_51 (by decide) ?_
      refine v_iadd C dX10_farOf_56 ?_
      exact v_iret C E dX10_farOf_57 (nle rfl) (nle rfl) ⟨by rw [← dist_N (okT_ t lt) hc, iabs, iabs]; first | rw [if_pos h34, if_pos h45] | rw [if_neg h34, if_pos h45, Int32.zero_sub] | rw [if_pos h34, if_neg h45, Int32.zero_sub] | rw [if_neg h34, if_neg h45, Int32.zero_sub, Int32.zero_sub], rfl⟩
  · refine v_iload_n C dX10_farOf_37 rfl ?_
    refine v_ineg C dX10_farOf_38 ?_
    refine v_goto (tgt := 43) C dX10_farOf_39 (by decide) ?_
    refine v_iload C dX10_farOf_43 rfl ?_
    refine v_if_ge (tgt := 54) C dX10_farOf_45 (by decide) (fun h45 => ?_) (fun h45 => ?_)
    · refine v_iload C dX10_farOf_54 rfl ?_
      refine v_iadd C dX10_farOf_56 ?_
      exact v_iret C E dX10_farOf_57 (nle rfl) (nle rfl) ⟨by rw [← dist_N (okT_ t lt) hc, iabs, iabs]; first | rw [if_pos h34, if_pos h45] | rw [if_neg h34, if_pos h45, Int32.zero_sub] | rw [if_pos h34, if_neg h45, Int32.zero_sub] | rw [if_neg h34, if_neg h45, Int32.zero_sub, Int32.zero_sub], rfl⟩
    · refine v_iload C dX10_farOf_48 rfl ?_
      refine v_ineg C dX10_farOf_50 ?_
      refine v_goto (tgt := 56) C dX10_farOf_51 (by decide) ?_
      refine v_iadd C dX10_farOf_56 ?_
      exact v_iret C E dX10_farOf_57 (nle rfl) (nle rfl) ⟨by rw [← dist_N (okT_ t lt) hc, iabs, iabs]; first | rw [if_pos h34, if_pos h45] | rw [if_neg h34, if_pos h45, Int32.zero_sub] | rw [if_pos h34, if_neg h45, Int32.zero_sub] | rw [if_neg h34, if_neg h45, Int32.zero_sub, Int32.zero_sub], rfl⟩

theorem minO_get {o : Option Nat} {d : Nat} (hd : d < 99) : (minO o d).getD 99 = if d < o.getD 99 then d else o.getD 99 := by
  cases o with
  | none => simp [minO, hd]
  | some b =>
    unfold minO
    by_cases h : d < b
    · simp [h]
    · simp [h]
theorem nearD_s (Q : Nat → Bool) (D : Nat → Nat) (n : Nat) : nearD Q D (n + 1) = if Q n then minO (nearD Q D n) (D n) else nearD Q D n := rfl
theorem nearD_99 {Q : Nat → Bool} {D : Nat → Nat} (hD : ∀ c, c < 96 → D c < 99) : ∀ {n b : Nat}, n ≤ 96 → nearD Q D n = some b → b < 99
  | 0, b, _, h => by cases h
  | n + 1, b, hn, h => by
    rw [nearD_s] at h
    have hd := hD n (by omega)
    split at h
    · unfold minO at h
      split at h
      · cases h; omega
      · next z hz =>
        have := nearD_99 hD (show n ≤ 96 by omega) hz
        split at h <;> cases h <;> omega
    · exact nearD_99 hD (by omega) h
theorem covA_s2 (n : Nat) (pf : Nat → Nat → Nat) (B : Nat → Nat → Bool) (d c : Nat) : covA (n + 1) pf B d c = (covA n pf B d c || (decide (pf n 2 ≤ d) && covN (pf n) (B n) c)) := rfl
theorem covA_up {n k : Nat} {pf : Nat → Nat → Nat} {B : Nat → Nat → Bool} {d c : Nat} (h : covA n pf B d c = true) (hk : n ≤ k) : covA k pf B d c = true := by
  unfold covA at h ⊢
  rw [anyB_iff] at h ⊢
  obtain ⟨i, h1, h2⟩ := h
  exact ⟨i, by omega, h2⟩
set_option maxHeartbeats 4000000 in
set_option maxRecDepth 100000 in
theorem c_X10_nearOf (l : Launch) (g : Gm) (M : Mem) (md : Nat) (t1 t2 t3 t4 t5 t6 t7 t8 : Nat) (fT fD fP fC fS fU fX fF : Nat → Int32) (mo : Int32) (nT : Nat) (m : Nat → Nat → Nat) (dB : Nat → Nat → Bool) (nP : Nat) (pf : Nat → Nat → Nat) (cB : Nat → Nat → Bool) (nS : Nat) (sg : Nat → Int32) (ln : Nat → Nat) (tx : Nat → Nat → Int32) (fl : Nat → Nat → Nat) (hM : ModA g M md t1 t2 t3 t4 t5 t6 t7 t8 fT fD fP fC fS fU fX fF mo nT m dB nP pf cB nS sg ln tx fl) (t q d : Nat) (lt : t < nT) (hq : q < 100) (hd : d < 100) : Ct l g yX10_nearOf cX10_nearOf 8 (some .int) 5 0 0 [.ref md, .int (nI t), .int (nI q), .int (nI d)] M (fun v N => v = some (.int (oI (match nearD (nearA nP pf cB (Lk m nT pf) (Kk m nT pf) t d q) (distN (m t)) 96 with | some b => some b | none => if gapA nP pf cB (m t) d 96 then none else some 99))) ∧ N = M) := by
  refine Ct.of (by decide) (Nat.le_of_ble_eq_true rfl) ?_
  intro X hXl hXg hN C E
  subst hXl; subst hXg
  show V X (rmD 5 0 0) M 0 0 [(0, .ref md), (1, .int (nI t)), (2, .int (nI q)), (3, .int (nI d))] 0 []
  obtain ⟨hO, h1_, h2_, h3_, h4_, h5_, h6_, h7_, h8_, bT, bP, bS, okT_, cT, cD, okP_, cP, cC, cS, cU, bU_, cX, okX, okF_, cF⟩ := id hM
  refine v_bipush C dX10_nearOf_0 (v := 99) rfl ?_
  refine v_istore (lv' := [(4, .int 99), (0, .ref md), (1, .int (nI t)), (2, .int (nI q)), (3, .int (nI d))]) C dX10_nearOf_2 hN (by decide) rfl ?_
  refine v_iconst C dX10_nearOf_4 (v := 0) rfl ?_
  refine v_istore (lv' := [(5, .int 0), (4, .int 99), (0, .ref md), (1, .int (nI t)), (2, .int (nI q)), (3, .int (nI d))]) C dX10_nearOf_5 hN (by decide) rfl ?_
  refine v_sub (lv' := [(0, .ref md), (1, .int (nI t)), (2, .int (nI q)), (3, .int (nI d)), (4, .int 99), (5, .int 0)]) [2, 3, 4, 5, 1, 0] rfl ?_
  have lp7 : ∀ (mm : Nat) (j : Nat) (h1 : j ≤ 96), 96 - j < mm → V X (rmD 5 0 0) M 0 0 [(0, .ref md), (1, .int (nI t)), (2, .int (nI q)), (3, .int (nI d)), (4, .int (nI ((nearD (nearA nP pf cB (Lk m nT pf) (Kk m nT pf) t d q) (distN (m t)) j).getD 99))), (5, .int (nI j))] 7 [] := by
    intro mm
    induction mm with
    | zero => intro j h1 hmu; exact absurd hmu (Nat.not_lt_zero _)
    | succ mm ih7 =>
      intro j h1 hmu
      refine v_iload C dX10_nearOf_7 rfl ?_
      refine v_bipush C dX10_nearOf_9 (v := 96) rfl ?_
      refine v_icmp_ge (tgt := 54) C dX10_nearOf_11 (by decide) (fun h11 => ?_) (fun h11 => ?_)
      · have gj : j = 96 := Nat.le_antisymm h1 (nI_leN (a := 96) (by decide) (by omega) h11)
        obtain ⟨o1, ho⟩ : ∃ o1, o1 = nearD (nearA nP pf cB (Lk m nT pf) (Kk m nT pf) t d q) (distN (m t)) 96 := ⟨_, rfl⟩
        rcases o1 with _ | b
        · have hb := ho.symm
          rw [show nI ((nearD (nearA nP pf cB (Lk m nT pf) (Kk m nT pf) t d q) (distN (m t)) j).getD 99) = 99 by rw [gj, hb]; rfl]
          show V X (rmD 5 0 0) M 0 0 [(0, .ref md), (1, .int (nI t)), (2, .int (nI q)), (3, .int (nI d)), (4, .int 99), (5, .int (nI j))] 54 []
          refine v_iconst C dX10_nearOf_54 (v := 0) rfl ?_
          refine v_istore (lv' := [(5, .int 0), (0, .ref md), (1, .int (nI t)), (2, .int (nI q)), (3, .int (nI d)), (4, .int 99)]) C dX10_nearOf_55 hN (by decide) rfl ?_
          refine v_sub (lv' := [(0, .ref md), (1, .int (nI t)), (2, .int (nI q)), (3, .int (nI d)), (4, .int 99), (5, .int 0)]) [1, 2, 3, 4, 5, 0] rfl ?_
          have lp57 : ∀ (mm : Nat) (j : Nat) (h1 : j ≤ 96) (h2 : gapA nP pf cB (m t) d j = false), 96 - j < mm → V X (rmD 5 0 0) M 0 0 [(0, .ref md), (1, .int (nI t)), (2, .int (nI q)), (3, .int (nI d)), (4, .int 99), (5, .int (nI j))] 57 [] := by
            intro mm
            induction mm with
            | zero => intro j h1 h2 hmu; exact absurd hmu (Nat.not_lt_zero _)
            | succ mm ih57 =>
              intro j h1 h2 hmu
              refine v_iload C dX10_nearOf_57 rfl ?_
              refine v_bipush C dX10_nearOf_59 (v := 96) rfl ?_
              refine v_icmp_ge (tgt := 154) C dX10_nearOf_61 (by decide) (fun h61 => ?_) (fun h61 => ?_)
              · refine v_iload C dX10_nearOf_154 rfl ?_
                exact v_iret C E dX10_nearOf_156 (nle rfl) (nle rfl) ⟨by rw [hb]; simp only; rw [← show j = 96 from Nat.le_antisymm h1 (nI_leN (a := 96) (by decide) (by omega) h61), h2]; rfl, rfl⟩
              · have g61 := nI_nleN (a := 96) (by decide) (by omega) h61
                refine v_iload C dX10_nearOf_64 rfl ?_
                refine v_bipush C dX10_nearOf_66 (v := 99) rfl ?_
                refine v_icmp_ne (tgt := 154) C dX10_nearOf_68 (by decide) (fun hbad => absurd hbad (not_not_intro rfl)) (fun h68 => ?_)
                have hdl := dist_le (okT_ t lt) g61
                refine v_aload_n C dX10_nearOf_71 rfl ?_
                refine v_iload_n C dX10_nearOf_72 rfl ?_
                refine v_iload C dX10_nearOf_73 rfl ?_
                refine v_callV (As := [.int (nI t), .int (nI j)]) (rest := []) (b := md) C (c_X10_farOf (xl X) (xg X) M md t1 t2 t3 t4 t5 t6 t7 t8 fT fD fP fC fS fU fX fF mo nT m dB nP pf cB nS sg ln tx fl hM t j (by omega) (by omega)) pm_X10_farOf wI_X10_farOf wS_X10_farOf wM_X10_94 kX10 hO ⟨by decide, by decide⟩ ⟨by decide, by decide⟩ (nle rfl) dX10_nearOf_75 rfl (dt1 ?_)
                show V X (rmD 5 0 0) M 0 0 [(0, .ref md), (1, .int (nI t)), (2, .int (nI q)), (3, .int (nI d)), (4, .int 99), (5, .int (nI j))] 78 [.int (nI (distN (m t) j))]
                refine v_iconst C dX10_nearOf_78 (v := 5) rfl ?_
                refine v_icmp_le (tgt := 86) C dX10_nearOf_79 (by decide) (fun h79 => ?_) (fun h79 => ?_)
                · refine v_iconst C dX10_nearOf_86 (v := 0) rfl ?_
                  refine v_istore (lv' := [(6, .int 0), (0, .ref md), (1, .int (nI t)), (2, .int (nI q)), (3, .int (nI d)), (4, .int 99), (5, .int (nI j))]) C dX10_nearOf_87 hN (by decide) rfl ?_
                  refine v_iconst C dX10_nearOf_89 (v := 0) rfl ?_
                  refine v_istore (lv' := [(7, .int 0), (6, .int 0), (0, .ref md), (1, .int (nI t)), (2, .int (nI q)), (3, .int (nI d)), (4, .int 99), (5, .int (nI j))]) C dX10_nearOf_90 hN (by decide) rfl ?_
                  refine v_sub (lv' := [(0, .ref md), (1, .int (nI t)), (2, .int (nI q)), (3, .int (nI d)), (4, .int 99), (5, .int (nI j)), (6, .int 0), (7, .int 0)]) [2, 3, 4, 5, 6, 7, 1, 0] rfl ?_
                  have lp92 : ∀ (mm : Nat) (i : Nat) (h3 : i ≤ nP), nP - i < mm → V X (rmD 5 0 0) M 0 0 [(0, .ref md), (1, .int (nI t)), (2, .int (nI q)), (3, .int (nI d)), (4, .int 99), (5, .int (nI j)), (6, .int (bI (decide (5 < distN (m t) j) || covA i pf cB d j))), (7, .int (nI i))] 92 [] := by
                    intro mm
                    induction mm with
                    | zero => intro i h3 hmu; exact absurd hmu (Nat.not_lt_zero _)
                    | succ mm ih92 =>
                      intro i h3 hmu
                      refine v_iload C dX10_nearOf_92 rfl ?_
                      refine v_aload_n C dX10_nearOf_94 rfl ?_
                      refine v_get C kX10 hO 3 (by decide) wF_X10_43 rfl dX10_nearOf_95 ?_
                      refine v_icmp_ge (tgt := 140) C dX10_nearOf_98 (by decide) (fun h98 => ?_) (fun h98 => ?_)
                      · have hcv : (decide (5 < distN (m t) j) || covA i pf cB d j) = (decide (5 < distN (m t) j) || covA nP pf cB d j) := by first | (rw [show i = nP from Nat.le_antisymm h3 (nI_leN (by omega) (by omega) h98)]; done) | (rw [h103]; symm; rw [Bool.or_eq_true] at h103 ⊢; exact h103.imp id (fun z => covA_up z h3))
                        rw [hcv]
                        show V X (rmD 5 0 0) M 0 0 [(0, .ref md), (1, .int (nI t)), (2, .int (nI q)), (3, .int (nI d)), (4, .int 99), (5, .int (nI j)), (6, .int (bI (decide (5 < distN (m t) j) || covA nP pf cB d j))), (7, .int (nI i))] 140 []
                        refine v_iload C dX10_nearOf_140 rfl ?_
                        refine v_ifb_ne (tgt := 148) C dX10_nearOf_142 (by decide) (fun h142 => ?_) (fun h142 => ?_)
                        · refine v_iinc (lv' := [(5, .int (nI (j + 1))), (0, .ref md), (1, .int (nI t)), (2, .int (nI q)), (3, .int (nI d)), (4, .int 99), (6, .int (bI (decide (5 < distN (m t) j) || covA nP pf cB d j))), (7, .int (nI i))]) C dX10_nearOf_148 5 rfl (nI_1 _) hN (by decide) rfl ?_
                          refine v_goto (tgt := 57) C dX10_nearOf_151 (by decide) ?_
                          refine v_sub (lv' := [(0, .ref md), (1, .int (nI t)), (2, .int (nI q)), (3, .int (nI d)), (4, .int 99), (5, .int (nI (j + 1)))]) [1, 2, 3, 4, 5, 0] rfl ?_
                          have hg : gapA nP pf cB (m t) d (j + 1) = false := by
                            rw [gapA_s, h2]
                            have z := h142
                            rw [Bool.or_eq_true] at z
                            rcases z with z | z
                            · have z := of_decide_eq_true z
                              rw [decide_eq_false (p := distN (m t) j ≤ 5) (by omega), Bool.and_false]
                              rfl
                            · rw [z]; rfl
                          exact ih57 (j + 1) (by omega) hg (by omega)
                        · refine v_bipush C dX10_nearOf_145 (v := (-6)) rfl ?_
                          exact v_iret C E dX10_nearOf_147 (nle rfl) (nle rfl) ⟨by rw [hb]; simp only; rw [show gapA nP pf cB (m t) d 96 = true from anyB_iff.mpr ⟨j, by omega, by have := h142; rw [Bool.or_eq_false_iff] at this; rw [this.2]; simpa using this.1⟩]; rfl, rfl⟩
                      · have g98 := nI_nleN (by omega) (by omega) h98
                        refine v_iload C dX10_nearOf_101 rfl ?_
                        refine v_ifb_ne (tgt := 140) C dX10_nearOf_103 (by decide) (fun h103 => ?_) (fun h103 => ?_)
                        · have hcv : (decide (5 < distN (m t) j) || covA i pf cB d j) = (decide (5 < distN (m t) j) || covA nP pf cB d j) := by first | (rw [show i = nP from Nat.le_antisymm h3 (nI_leN (by omega) (by omega) h98)]; done) | (rw [h103]; symm; rw [Bool.or_eq_true] at h103 ⊢; exact h103.imp id (fun z => covA_up z h3))
                          rw [hcv]
                          show V X (rmD 5 0 0) M 0 0 [(0, .ref md), (1, .int (nI t)), (2, .int (nI q)), (3, .int (nI d)), (4, .int 99), (5, .int (nI j)), (6, .int (bI (decide (5 < distN (m t) j) || covA nP pf cB d j))), (7, .int (nI i))] 140 []
                          refine v_iload C dX10_nearOf_140 rfl ?_
                          refine v_ifb_ne (tgt := 148) C dX10_nearOf_142 (by decide) (fun h142 => ?_) (fun h142 => ?_)
                          · refine v_iinc (lv' := [(5, .int (nI (j + 1))), (0, .ref md), (1, .int (nI t)), (2, .int (nI q)), (3, .int (nI d)), (4, .int 99), (6, .int (bI (decide (5 < distN (m t) j) || covA nP pf cB d j))), (7, .int (nI i))]) C dX10_nearOf_148 5 rfl (nI_1 _) hN (by decide) rfl ?_
                            refine v_goto (tgt := 57) C dX10_nearOf_151 (by decide) ?_
                            refine v_sub (lv' := [(0, .ref md), (1, .int (nI t)), (2, .int (nI q)), (3, .int (nI d)), (4, .int 99), (5, .int (nI (j + 1)))]) [1, 2, 3, 4, 5, 0] rfl ?_
                            have hg : gapA nP pf cB (m t) d (j + 1) = false := by
                              rw [gapA_s, h2]
                              have z := h142
                              rw [Bool.or_eq_true] at z
                              rcases z with z | z
                              · have z := of_decide_eq_true z
                                rw [decide_eq_false (p := distN (m t) j ≤ 5) (by omega), Bool.and_false]
                                rfl
                              · rw [z]; rfl
                            exact ih57 (j + 1) (by omega) hg (by omega)
                          · refine v_bipush C dX10_nearOf_145 (v := (-6)) rfl ?_
                            exact v_iret C E dX10_nearOf_147 (nle rfl) (nle rfl) ⟨by rw [hb]; simp only; rw [show gapA nP pf cB (m t) d 96 = true from anyB_iff.mpr ⟨j, by omega, by have := h142; rw [Bool.or_eq_false_iff] at this; rw [this.2]; simpa using this.1⟩]; rfl, rfl⟩
                        · refine v_aload_n C dX10_nearOf_106 rfl ?_
                          refine v_iload C dX10_nearOf_107 rfl ?_
                          refine v_iload_n C dX10_nearOf_109 rfl ?_
                          refine v_callV (As := [.int (nI i), .int (nI d)]) (rest := []) (b := md) C (c_X10_isSeen (xl X) (xg X) M md t1 t2 t3 t4 t5 t6 t7 t8 fT fD fP fC fS fU fX fF mo nT m dB nP pf cB nS sg ln tx fl hM i d (by omega) (by omega)) pm_X10_isSeen wI_X10_isSeen wS_X10_isSeen wM_X10_87 kX10 hO ⟨by decide, by decide⟩ ⟨by decide, by decide⟩ (nle rfl) dX10_nearOf_110 rfl (dt1 ?_)
                          show V X (rmD 5 0 0) M 0 0 [(0, .ref md), (1, .int (nI t)), (2, .int (nI q)), (3, .int (nI d)), (4, .int 99), (5, .int (nI j)), (6, .int (bI (decide (5 < distN (m t) j) || covA i pf cB d j))), (7, .int (nI i))] 113 [.int (bI (decide (pf i 2 ≤ d)))]
                          refine v_ifb_eq (tgt := 131) C dX10_nearOf_113 (by decide) (fun h113 => ?_) (fun h113 => ?_)
                          · refine v_iconst C dX10_nearOf_131 (v := 0) rfl ?_
                            refine v_istore (lv' := [(6, .int 0), (0, .ref md), (1, .int (nI t)), (2, .int (nI q)), (3, .int (nI d)), (4, .int 99), (5, .int (nI j)), (7, .int (nI i))]) C dX10_nearOf_132 hN (by decide) rfl ?_
                            refine v_iinc (lv' := [(7, .int (nI (i + 1))), (6, .int 0), (0, .ref md), (1, .int (nI t)), (2, .int (nI q)), (3, .int (nI d)), (4, .int 99), (5, .int (nI j))]) C dX10_nearOf_134 7 rfl (nI_1 _) hN (by decide) rfl ?_
                            refine v_goto (tgt := 92) C dX10_nearOf_137 (by decide) ?_
                            refine v_sub (lv' := [(0, .ref md), (1, .int (nI t)), (2, .int (nI q)), (3, .int (nI d)), (4, .int 99), (5, .int (nI j)), (6, .int 0), (7, .int (nI (i + 1)))]) [2, 3, 4, 5, 6, 7, 1, 0] rfl ?_
                            have hcv : (decide (5 < distN (m t) j) || covA (i + 1) pf cB d j) = false := by rw [covA_s2]; rw [Bool.or_eq_false_iff] at h103; rw [h103.1, h103.2]; first | (rw [h113, h124]; rfl) | (rw [h113]; rfl)
                            rw [show (0 : Int32) = bI (decide (5 < distN (m t) j) || covA (i + 1) pf cB d j) by rw [hcv]; rfl]
                            exact ih92 (i + 1) (by omega) (by omega)
                          · refine v_aload_n C dX10_nearOf_116 rfl ?_
                            refine v_iload C dX10_nearOf_117 rfl ?_
                            refine v_iload C dX10_nearOf_119 rfl ?_
                            refine v_callV (As := [.int (nI i), .int (nI j)]) (rest := []) (b := md) C (c_X10_covers (xl X) (xg X) M md t1 t2 t3 t4 t5 t6 t7 t8 fT fD fP fC fS fU fX fF mo nT m dB nP pf cB nS sg ln tx fl hM i j (by omega) (by omega)) pm_X10_covers wI_X10_covers wS_X10_covers wM_X10_70 kX10 hO ⟨by decide, by decide⟩ ⟨by decide, by decide⟩ (nle rfl) dX10_nearOf_121 rfl (dt1 ?_)
                            show V X (rmD 5 0 0) M 0 0 [(0, .ref md), (1, .int (nI t)), (2, .int (nI q)), (3, .int (nI d)), (4, .int 99), (5, .int (nI j)), (6, .int (bI (decide (5 < distN (m t) j) || covA i pf cB d j))), (7, .int (nI i))] 124 [.int (bI (covN (pf i) (cB i) j))]
                            refine v_ifb_eq (tgt := 131) C dX10_nearOf_124 (by decide) (fun h124 => ?_) (fun h124 => ?_)
                            · refine v_iconst C dX10_nearOf_131 (v := 0) rfl ?_
                              refine v_istore (lv' := [(6, .int 0), (0, .ref md), (1, .int (nI t)), (2, .int (nI q)), (3, .int (nI d)), (4, .int 99), (5, .int (nI j)), (7, .int (nI i))]) C dX10_nearOf_132 hN (by decide) rfl ?_
                              refine v_iinc (lv' := [(7, .int (nI (i + 1))), (6, .int 0), (0, .ref md), (1, .int (nI t)), (2, .int (nI q)), (3, .int (nI d)), (4, .int 99), (5, .int (nI j))]) C dX10_nearOf_134 7 rfl (nI_1 _) hN (by decide) rfl ?_
                              refine v_goto (tgt := 92) C dX10_nearOf_137 (by decide) ?_
                              refine v_sub (lv' := [(0, .ref md), (1, .int (nI t)), (2, .int (nI q)), (3, .int (nI d)), (4, .int 99), (5, .int (nI j)), (6, .int 0), (7, .int (nI (i + 1)))]) [2, 3, 4, 5, 6, 7, 1, 0] rfl ?_
                              have hcv : (decide (5 < distN (m t) j) || covA (i + 1) pf cB d j) = false := by rw [covA_s2]; rw [Bool.or_eq_false_iff] at h103; rw [h103.1, h103.2]; first | (rw [h113, h124]; rfl) | (rw [h113]; rfl)
                              rw [show (0 : Int32) = bI (decide (5 < distN (m t) j) || covA (i + 1) pf cB d j) by rw [hcv]; rfl]
                              exact ih92 (i + 1) (by omega) (by omega)
                            · refine v_iconst C dX10_nearOf_127 (v := 1) rfl ?_
                              refine v_goto (tgt := 132) C dX10_nearOf_128 (by decide) ?_
                              refine v_istore (lv' := [(6, .int 1), (0, .ref md), (1, .int (nI t)), (2, .int (nI q)), (3, .int (nI d)), (4, .int 99), (5, .int (nI j)), (7, .int (nI i))]) C dX10_nearOf_132 hN (by decide) rfl ?_
                              refine v_iinc (lv' := [(7, .int (nI (i + 1))), (6, .int 1), (0, .ref md), (1, .int (nI t)), (2, .int (nI q)), (3, .int (nI d)), (4, .int 99), (5, .int (nI j))]) C dX10_nearOf_134 7 rfl (nI_1 _) hN (by decide) rfl ?_
                              refine v_goto (tgt := 92) C dX10_nearOf_137 (by decide) ?_
                              refine v_sub (lv' := [(0, .ref md), (1, .int (nI t)), (2, .int (nI q)), (3, .int (nI d)), (4, .int 99), (5, .int (nI j)), (6, .int 1), (7, .int (nI (i + 1)))]) [2, 3, 4, 5, 6, 7, 1, 0] rfl ?_
                              have hcv : (decide (5 < distN (m t) j) || covA (i + 1) pf cB d j) = true := by rw [covA_s2]; rw [Bool.or_eq_false_iff] at h103; rw [h103.1, h103.2]; first | (rw [h113, h124]; rfl) | (rw [h113]; rfl)
                              rw [show (1 : Int32) = bI (decide (5 < distN (m t) j) || covA (i + 1) pf cB d j) by rw [hcv]; rfl]
                              exact ih92 (i + 1) (by omega) (by omega)
                  show V X (rmD 5 0 0) M 0 0 [(0, .ref md), (1, .int (nI t)), (2, .int (nI q)), (3, .int (nI d)), (4, .int 99), (5, .int (nI j)), (6, .int (bI false)), (7, .int (nI 0))] 92 []
                  rw [show bI false = bI (decide (5 < distN (m t) j) || covA 0 pf cB d j) from by rw [decide_eq_false (Nat.not_lt.mpr (nI_leN (b := 5) (by omega) (by decide) h79))]; rfl]
                  exact lp92 (_ + 1) 0 (Nat.zero_le _) (Nat.lt_succ_self _)
                · refine v_iconst C dX10_nearOf_82 (v := 1) rfl ?_
                  refine v_goto (tgt := 87) C dX10_nearOf_83 (by decide) ?_
                  refine v_istore (lv' := [(6, .int 1), (0, .ref md), (1, .int (nI t)), (2, .int (nI q)), (3, .int (nI d)), (4, .int 99), (5, .int (nI j))]) C dX10_nearOf_87 hN (by decide) rfl ?_
                  refine v_iconst C dX10_nearOf_89 (v := 0) rfl ?_
                  refine v_istore (lv' := [(7, .int 0), (6, .int 1), (0, .ref md), (1, .int (nI t)), (2, .int (nI q)), (3, .int (nI d)), (4, .int 99), (5, .int (nI j))]) C dX10_nearOf_90 hN (by decide) rfl ?_
                  refine v_sub (lv' := [(0, .ref md), (1, .int (nI t)), (2, .int (nI q)), (3, .int (nI d)), (4, .int 99), (5, .int (nI j)), (6, .int 1), (7, .int 0)]) [2, 3, 4, 5, 6, 7, 1, 0] rfl ?_
                  have lp92 : ∀ (mm : Nat) (i : Nat) (h3 : i ≤ nP), nP - i < mm → V X (rmD 5 0 0) M 0 0 [(0, .ref md), (1, .int (nI t)), (2, .int (nI q)), (3, .int (nI d)), (4, .int 99), (5, .int (nI j)), (6, .int (bI (decide (5 < distN (m t) j) || covA i pf cB d j))), (7, .int (nI i))] 92 [] := by
                    intro mm
                    induction mm with
                    | zero => intro i h3 hmu; exact absurd hmu (Nat.not_lt_zero _)
                    | succ mm ih92 =>
                      intro i h3 hmu
                      refine v_iload C dX10_nearOf_92 rfl ?_
                      refine v_aload_n C dX10_nearOf_94 rfl ?_
                      refine v_get C kX10 hO 3 (by decide) wF_X10_43 rfl dX10_nearOf_95 ?_
                      refine v_icmp_ge (tgt := 140) C dX10_nearOf_98 (by decide) (fun h98 => ?_) (fun h98 => ?_)
                      · have hcv : (decide (5 < distN (m t) j) || covA i pf cB d j) = (decide (5 < distN (m t) j) || covA nP pf cB d j) := by first | (rw [show i = nP from Nat.le_antisymm h3 (nI_leN (by omega) (by omega) h98)]; done) | (rw [h103]; symm; rw [Bool.or_eq_true] at h103 ⊢; exact h103.imp id (fun z => covA_up z h3))
                        rw [hcv]
                        show V X (rmD 5 0 0) M 0 0 [(0, .ref md), (1, .int (nI t)), (2, .int (nI q)), (3, .int (nI d)), (4, .int 99), (5, .int (nI j)), (6, .int (bI (decide (5 < distN (m t) j) || covA nP pf cB d j))), (7, .int (nI i))] 140 []
                        refine v_iload C dX10_nearOf_140 rfl ?_
                        refine v_ifb_ne (tgt := 148) C dX10_nearOf_142 (by decide) (fun h142 => ?_) (fun h142 => ?_)
                        · refine v_iinc (lv' := [(5, .int (nI (j + 1))), (0, .ref md), (1, .int (nI t)), (2, .int (nI q)), (3, .int (nI d)), (4, .int 99), (6, .int (bI (decide (5 < distN (m t) j) || covA nP pf cB d j))), (7, .int (nI i))]) C dX10_nearOf_148 5 rfl (nI_1 _) hN (by decide) rfl ?_
                          refine v_goto (tgt := 57) C dX10_nearOf_151 (by decide) ?_
                          refine v_sub (lv' := [(0, .ref md), (1, .int (nI t)), (2, .int (nI q)), (3, .int (nI d)), (4, .int 99), (5, .int (nI (j + 1)))]) [1, 2, 3, 4, 5, 0] rfl ?_
                          have hg : gapA nP pf cB (m t) d (j + 1) = false := by
                            rw [gapA_s, h2]
                            have z := h142
                            rw [Bool.or_eq_true] at z
                            rcases z with z | z
                            · have z := of_decide_eq_true z
                              rw [decide_eq_false (p := distN (m t) j ≤ 5) (by omega), Bool.and_false]
                              rfl
                            · rw [z]; rfl
                          exact ih57 (j + 1) (by omega) hg (by omega)
                        · refine v_bipush C dX10_nearOf_145 (v := (-6)) rfl ?_
                          exact v_iret C E dX10_nearOf_147 (nle rfl) (nle rfl) ⟨by rw [hb]; simp only; rw [show gapA nP pf cB (m t) d 96 = true from anyB_iff.mpr ⟨j, by omega, by have := h142; rw [Bool.or_eq_false_iff] at this; rw [this.2]; simpa using this.1⟩]; rfl, rfl⟩
                      · have g98 := nI_nleN (by omega) (by omega) h98
                        refine v_iload C dX10_nearOf_101 rfl ?_
                        refine v_ifb_ne (tgt := 140) C dX10_nearOf_103 (by decide) (fun h103 => ?_) (fun h103 => ?_)
                        · have hcv : (decide (5 < distN (m t) j) || covA i pf cB d j) = (decide (5 < distN (m t) j) || covA nP pf cB d j) := by first | (rw [show i = nP from Nat.le_antisymm h3 (nI_leN (by omega) (by omega) h98)]; done) | (rw [h103]; symm; rw [Bool.or_eq_true] at h103 ⊢; exact h103.imp id (fun z => covA_up z h3))
                          rw [hcv]
                          show V X (rmD 5 0 0) M 0 0 [(0, .ref md), (1, .int (nI t)), (2, .int (nI q)), (3, .int (nI d)), (4, .int 99), (5, .int (nI j)), (6, .int (bI (decide (5 < distN (m t) j) || covA nP pf cB d j))), (7, .int (nI i))] 140 []
                          refine v_iload C dX10_nearOf_140 rfl ?_
                          refine v_ifb_ne (tgt := 148) C dX10_nearOf_142 (by decide) (fun h142 => ?_) (fun h142 => ?_)
                          · refine v_iinc (lv' := [(5, .int (nI (j + 1))), (0, .ref md), (1, .int (nI t)), (2, .int (nI q)), (3, .int (nI d)), (4, .int 99), (6, .int (bI (decide (5 < distN (m t) j) || covA nP pf cB d j))), (7, .int (nI i))]) C dX10_nearOf_148 5 rfl (nI_1 _) hN (by decide) rfl ?_
                            refine v_goto (tgt := 57) C dX10_nearOf_151 (by decide) ?_
                            refine v_sub (lv' := [(0, .ref md), (1, .int (nI t)), (2, .int (nI q)), (3, .int (nI d)), (4, .int 99), (5, .int (nI (j + 1)))]) [1, 2, 3, 4, 5, 0] rfl ?_
                            have hg : gapA nP pf cB (m t) d (j + 1) = false := by
                              rw [gapA_s, h2]
                              have z := h142
                              rw [Bool.or_eq_true] at z
                              rcases z with z | z
                              · have z := of_decide_eq_true z
                                rw [decide_eq_false (p := distN (m t) j ≤ 5) (by omega), Bool.and_false]
                                rfl
                              · rw [z]; rfl
                            exact ih57 (j + 1) (by omega) hg (by omega)
                          · refine v_bipush C dX10_nearOf_145 (v := (-6)) rfl ?_
                            exact v_iret C E dX10_nearOf_147 (nle rfl) (nle rfl) ⟨by rw [hb]; simp only; rw [show gapA nP pf cB (m t) d 96 = true from anyB_iff.mpr ⟨j, by omega, by have := h142; rw [Bool.or_eq_false_iff] at this; rw [this.2]; simpa using this.1⟩]; rfl, rfl⟩
                        · refine v_aload_n C dX10_nearOf_106 rfl ?_
                          refine v_iload C dX10_nearOf_107 rfl ?_
                          refine v_iload_n C dX10_nearOf_109 rfl ?_
                          refine v_callV (As := [.int (nI i), .int (nI d)]) (rest := []) (b := md) C (c_X10_isSeen (xl X) (xg X) M md t1 t2 t3 t4 t5 t6 t7 t8 fT fD fP fC fS fU fX fF mo nT m dB nP pf cB nS sg ln tx fl hM i d (by omega) (by omega)) pm_X10_isSeen wI_X10_isSeen wS_X10_isSeen wM_X10_87 kX10 hO ⟨by decide, by decide⟩ ⟨by decide, by decide⟩ (nle rfl) dX10_nearOf_110 rfl (dt1 ?_)
                          show V X (rmD 5 0 0) M 0 0 [(0, .ref md), (1, .int (nI t)), (2, .int (nI q)), (3, .int (nI d)), (4, .int 99), (5, .int (nI j)), (6, .int (bI (decide (5 < distN (m t) j) || covA i pf cB d j))), (7, .int (nI i))] 113 [.int (bI (decide (pf i 2 ≤ d)))]
                          refine v_ifb_eq (tgt := 131) C dX10_nearOf_113 (by decide) (fun h113 => ?_) (fun h113 => ?_)
                          · refine v_iconst C dX10_nearOf_131 (v := 0) rfl ?_
                            refine v_istore (lv' := [(6, .int 0), (0, .ref md), (1, .int (nI t)), (2, .int (nI q)), (3, .int (nI d)), (4, .int 99), (5, .int (nI j)), (7, .int (nI i))]) C dX10_nearOf_132 hN (by decide) rfl ?_
                            refine v_iinc (lv' := [(7, .int (nI (i + 1))), (6, .int 0), (0, .ref md), (1, .int (nI t)), (2, .int (nI q)), (3, .int (nI d)), (4, .int 99), (5, .int (nI j))]) C dX10_nearOf_134 7 rfl (nI_1 _) hN (by decide) rfl ?_
                            refine v_goto (tgt := 92) C dX10_nearOf_137 (by decide) ?_
                            refine v_sub (lv' := [(0, .ref md), (1, .int (nI t)), (2, .int (nI q)), (3, .int (nI d)), (4, .int 99), (5, .int (nI j)), (6, .int 0), (7, .int (nI (i + 1)))]) [2, 3, 4, 5, 6, 7, 1, 0] rfl ?_
                            have hcv : (decide (5 < distN (m t) j) || covA (i + 1) pf cB d j) = false := by rw [covA_s2]; rw [Bool.or_eq_false_iff] at h103; rw [h103.1, h103.2]; first | (rw [h113, h124]; rfl) | (rw [h113]; rfl)
                            rw [show (0 : Int32) = bI (decide (5 < distN (m t) j) || covA (i + 1) pf cB d j) by rw [hcv]; rfl]
                            exact ih92 (i + 1) (by omega) (by omega)
                          · refine v_aload_n C dX10_nearOf_116 rfl ?_
                            refine v_iload C dX10_nearOf_117 rfl ?_
                            refine v_iload C dX10_nearOf_119 rfl ?_
                            refine v_callV (As := [.int (nI i), .int (nI j)]) (rest := []) (b := md) C (c_X10_covers (xl X) (xg X) M md t1 t2 t3 t4 t5 t6 t7 t8 fT fD fP fC fS fU fX fF mo nT m dB nP pf cB nS sg ln tx fl hM i j (by omega) (by omega)) pm_X10_covers wI_X10_covers wS_X10_covers wM_X10_70 kX10 hO ⟨by decide, by decide⟩ ⟨by decide, by decide⟩ (nle rfl) dX10_nearOf_121 rfl (dt1 ?_)
                            show V X (rmD 5 0 0) M 0 0 [(0, .ref md), (1, .int (nI t)), (2, .int (nI q)), (3, .int (nI d)), (4, .int 99), (5, .int (nI j)), (6, .int (bI (decide (5 < distN (m t) j) || covA i pf cB d j))), (7, .int (nI i))] 124 [.int (bI (covN (pf i) (cB i) j))]
                            refine v_ifb_eq (tgt := 131) C dX10_nearOf_124 (by decide) (fun h124 => ?_) (fun h124 => ?_)
                            · refine v_iconst C dX10_nearOf_131 (v := 0) rfl ?_
                              refine v_istore (lv' := [(6, .int 0), (0, .ref md), (1, .int (nI t)), (2, .int (nI q)), (3, .int (nI d)), (4, .int 99), (5, .int (nI j)), (7, .int (nI i))]) C dX10_nearOf_132 hN (by decide) rfl ?_
                              refine v_iinc (lv' := [(7, .int (nI (i + 1))), (6, .int 0), (0, .ref md), (1, .int (nI t)), (2, .int (nI q)), (3, .int (nI d)), (4, .int 99), (5, .int (nI j))]) C dX10_nearOf_134 7 rfl (nI_1 _) hN (by decide) rfl ?_
                              refine v_goto (tgt := 92) C dX10_nearOf_137 (by decide) ?_
                              refine v_sub (lv' := [(0, .ref md), (1, .int (nI t)), (2, .int (nI q)), (3, .int (nI d)), (4, .int 99), (5, .int (nI j)), (6, .int 0), (7, .int (nI (i + 1)))]) [2, 3, 4, 5, 6, 7, 1, 0] rfl ?_
                              have hcv : (decide (5 < distN (m t) j) || covA (i + 1) pf cB d j) = false := by rw [covA_s2]; rw [Bool.or_eq_false_iff] at h103; rw [h103.1, h103.2]; first | (rw [h113, h124]; rfl) | (rw [h113]; rfl)
                              rw [show (0 : Int32) = bI (decide (5 < distN (m t) j) || covA (i + 1) pf cB d j) by rw [hcv]; rfl]
                              exact ih92 (i + 1) (by omega) (by omega)
                            · refine v_iconst C dX10_nearOf_127 (v := 1) rfl ?_
                              refine v_goto (tgt := 132) C dX10_nearOf_128 (by decide) ?_
                              refine v_istore (lv' := [(6, .int 1), (0, .ref md), (1, .int (nI t)), (2, .int (nI q)), (3, .int (nI d)), (4, .int 99), (5, .int (nI j)), (7, .int (nI i))]) C dX10_nearOf_132 hN (by decide) rfl ?_
                              refine v_iinc (lv' := [(7, .int (nI (i + 1))), (6, .int 1), (0, .ref md), (1, .int (nI t)), (2, .int (nI q)), (3, .int (nI d)), (4, .int 99), (5, .int (nI j))]) C dX10_nearOf_134 7 rfl (nI_1 _) hN (by decide) rfl ?_
                              refine v_goto (tgt := 92) C dX10_nearOf_137 (by decide) ?_
                              refine v_sub (lv' := [(0, .ref md), (1, .int (nI t)), (2, .int (nI q)), (3, .int (nI d)), (4, .int 99), (5, .int (nI j)), (6, .int 1), (7, .int (nI (i + 1)))]) [2, 3, 4, 5, 6, 7, 1, 0] rfl ?_
                              have hcv : (decide (5 < distN (m t) j) || covA (i + 1) pf cB d j) = true := by rw [covA_s2]; rw [Bool.or_eq_false_iff] at h103; rw [h103.1, h103.2]; first | (rw [h113, h124]; rfl) | (rw [h113]; rfl)
                              rw [show (1 : Int32) = bI (decide (5 < distN (m t) j) || covA (i + 1) pf cB d j) by rw [hcv]; rfl]
                              exact ih92 (i + 1) (by omega) (by omega)
                  show V X (rmD 5 0 0) M 0 0 [(0, .ref md), (1, .int (nI t)), (2, .int (nI q)), (3, .int (nI d)), (4, .int 99), (5, .int (nI j)), (6, .int (bI true)), (7, .int (nI 0))] 92 []
                  rw [show bI true = bI (decide (5 < distN (m t) j) || covA 0 pf cB d j) from by rw [decide_eq_true (nI_nleN (b := 5) (by omega) (by decide) h79)]; rfl]
                  exact lp92 (_ + 1) 0 (Nat.zero_le _) (Nat.lt_succ_self _)
          exact lp57 (_ + 1) 0 (Nat.zero_le _) rfl (Nat.lt_succ_self _)
        · have hb := ho.symm
          have hb99 := nearD_99 (fun c hc => Nat.lt_of_le_of_lt (dist_le (okT_ t lt) hc) (by decide)) (Nat.le_refl 96) hb
          rw [show nI ((nearD (nearA nP pf cB (Lk m nT pf) (Kk m nT pf) t d q) (distN (m t)) j).getD 99) = nI b by rw [gj, hb]; rfl]
          show V X (rmD 5 0 0) M 0 0 [(0, .ref md), (1, .int (nI t)), (2, .int (nI q)), (3, .int (nI d)), (4, .int (nI b)), (5, .int (nI j))] 54 []
          refine v_iconst C dX10_nearOf_54 (v := 0) rfl ?_
          refine v_istore (lv' := [(5, .int 0), (0, .ref md), (1, .int (nI t)), (2, .int (nI q)), (3, .int (nI d)), (4, .int (nI b))]) C dX10_nearOf_55 hN (by decide) rfl ?_
          refine v_iload C dX10_nearOf_57 rfl ?_
          refine v_bipush C dX10_nearOf_59 (v := 96) rfl ?_
          refine v_icmp_ge (tgt := 154) C dX10_nearOf_61 (by decide) (fun hbad => absurd hbad (by decide)) (fun h61 => ?_)
          have hz := trivial
          refine v_iload C dX10_nearOf_64 rfl ?_
          refine v_bipush C dX10_nearOf_66 (v := 99) rfl ?_
          refine v_icmp_ne (tgt := 154) C dX10_nearOf_68 (by decide) (fun h68 => ?_) (fun hbad => absurd hbad (fun z => absurd (nI_eqN (b := 99) (by omega) (by decide) z) (by omega)))
          refine v_iload C dX10_nearOf_154 rfl ?_
          exact v_iret C E dX10_nearOf_156 (nle rfl) (nle rfl) ⟨by rw [hb]; rfl, rfl⟩
      · have g11 := nI_nleN (a := 96) (by decide) (by omega) h11
        have hdl := dist_le (okT_ t lt) g11
        have h99 : (nearD (nearA nP pf cB (Lk m nT pf) (Kk m nT pf) t d q) (distN (m t)) j).getD 99 ≤ 99 := by cases hz : nearD (nearA nP pf cB (Lk m nT pf) (Kk m nT pf) t d q) (distN (m t)) j with | none => exact Nat.le_refl _ | some z => exact Nat.le_of_lt (nearD_99 (fun c hc => Nat.lt_of_le_of_lt (dist_le (okT_ t lt) hc) (by decide)) (by omega) hz)
        refine v_aload_n C dX10_nearOf_14 rfl ?_
        refine v_iload_n C dX10_nearOf_15 rfl ?_
        refine v_iload C dX10_nearOf_16 rfl ?_
        refine v_callV (As := [.int (nI t), .int (nI j)]) (rest := []) (b := md) C (c_X10_farOf (xl X) (xg X) M md t1 t2 t3 t4 t5 t6 t7 t8 fT fD fP fC fS fU fX fF mo nT m dB nP pf cB nS sg ln tx fl hM t j (by omega) (by omega)) pm_X10_farOf wI_X10_farOf wS_X10_farOf wM_X10_94 kX10 hO ⟨by decide, by decide⟩ ⟨by decide, by decide⟩ (nle rfl) dX10_nearOf_18 rfl (dt1 ?_)
        show V X (rmD 5 0 0) M 0 0 [(0, .ref md), (1, .int (nI t)), (2, .int (nI q)), (3, .int (nI d)), (4, .int (nI ((nearD (nearA nP pf cB (Lk m nT pf) (Kk m nT pf) t d q) (distN (m t)) j).getD 99))), (5, .int (nI j))] 21 [.int (nI (distN (m t) j))]
        refine v_iload C dX10_nearOf_21 rfl ?_
        refine v_icmp_ge (tgt := 48) C dX10_nearOf_23 (by decide) (fun h23 => ?_) (fun h23 => ?_)
        · refine v_iinc (lv' := [(5, .int (nI (j + 1))), (0, .ref md), (1, .int (nI t)), (2, .int (nI q)), (3, .int (nI d)), (4, .int (nI ((nearD (nearA nP pf cB (Lk m nT pf) (Kk m nT pf) t d q) (distN (m t)) j).getD 99)))]) C dX10_nearOf_48 5 rfl (nI_1 _) hN (by decide) rfl ?_
          refine v_goto (tgt := 7) C dX10_nearOf_51 (by decide) ?_
          refine v_sub (lv' := [(0, .ref md), (1, .int (nI t)), (2, .int (nI q)), (3, .int (nI d)), (4, .int (nI ((nearD (nearA nP pf cB (Lk m nT pf) (Kk m nT pf) t d q) (distN (m t)) j).getD 99))), (5, .int (nI (j + 1)))]) [1, 2, 3, 4, 5, 0] rfl ?_
          have hst : (nearD (nearA nP pf cB (Lk m nT pf) (Kk m nT pf) t d q) (distN (m t)) (j + 1)).getD 99 = (nearD (nearA nP pf cB (Lk m nT pf) (Kk m nT pf) t d q) (distN (m t)) j).getD 99 := by rw [nearD_s, ← shown_near okT_ (by omega)]; first | (rw [h36]; rfl) | (split; rw [minO_get (by omega), if_neg (Nat.not_lt.mpr (nI_leN (by omega) (by omega) h23))]; rfl)
          rw [← hst]
          exact ih7 (j + 1) (by omega) (by omega)
        · have g23 := nI_nleN (by omega) (by omega) h23
          refine v_aload_n C dX10_nearOf_26 rfl ?_
          refine v_iload C dX10_nearOf_27 rfl ?_
          refine v_iload_n C dX10_nearOf_29 rfl ?_
          refine v_iload_n C dX10_nearOf_30 rfl ?_
          refine v_iload_n C dX10_nearOf_31 rfl ?_
          refine v_iconst C dX10_nearOf_32 (v := 0) rfl ?_
          refine v_callV (As := [.int (nI j), .int (nI q), .int (nI d), .int (nI t), .int 0]) (rest := []) (b := md) C (c_X10_isShown (xl X) (xg X) M md t1 t2 t3 t4 t5 t6 t7 t8 fT fD fP fC fS fU fX fF mo nT m dB nP pf cB nS sg ln tx fl hM j q d t false (by omega) (by omega) (by omega) (by omega)) pm_X10_isShown wI_X10_isShown wS_X10_isShown wM_X10_90 kX10 hO ⟨by decide, by decide⟩ ⟨by decide, by decide⟩ (nle rfl) dX10_nearOf_33 rfl (dt1 ?_)
          show V X (rmD 5 0 0) M 0 0 [(0, .ref md), (1, .int (nI t)), (2, .int (nI q)), (3, .int (nI d)), (4, .int (nI ((nearD (nearA nP pf cB (Lk m nT pf) (Kk m nT pf) t d q) (distN (m t)) j).getD 99))), (5, .int (nI j))] 36 [.int (bI (shwB m nT pf cB j q d t false nP))]
          refine v_ifb_eq (tgt := 48) C dX10_nearOf_36 (by decide) (fun h36 => ?_) (fun h36 => ?_)
          · refine v_iinc (lv' := [(5, .int (nI (j + 1))), (0, .ref md), (1, .int (nI t)), (2, .int (nI q)), (3, .int (nI d)), (4, .int (nI ((nearD (nearA nP pf cB (Lk m nT pf) (Kk m nT pf) t d q) (distN (m t)) j).getD 99)))]) C dX10_nearOf_48 5 rfl (nI_1 _) hN (by decide) rfl ?_
            refine v_goto (tgt := 7) C dX10_nearOf_51 (by decide) ?_
            refine v_sub (lv' := [(0, .ref md), (1, .int (nI t)), (2, .int (nI q)), (3, .int (nI d)), (4, .int (nI ((nearD (nearA nP pf cB (Lk m nT pf) (Kk m nT pf) t d q) (distN (m t)) j).getD 99))), (5, .int (nI (j + 1)))]) [1, 2, 3, 4, 5, 0] rfl ?_
            have hst : (nearD (nearA nP pf cB (Lk m nT pf) (Kk m nT pf) t d q) (distN (m t)) (j + 1)).getD 99 = (nearD (nearA nP pf cB (Lk m nT pf) (Kk m nT pf) t d q) (distN (m t)) j).getD 99 := by rw [nearD_s, ← shown_near okT_ (by omega)]; first | (rw [h36]; rfl) | (split; rw [minO_get (by omega), if_neg (Nat.not_lt.mpr (nI_leN (by omega) (by omega) h23))]; rfl)
            rw [← hst]
            exact ih7 (j + 1) (by omega) (by omega)
          · refine v_aload_n C dX10_nearOf_39 rfl ?_
            refine v_iload_n C dX10_nearOf_40 rfl ?_
            refine v_iload C dX10_nearOf_41 rfl ?_
            refine v_callV (As := [.int (nI t), .int (nI j)]) (rest := []) (b := md) C (c_X10_farOf (xl X) (xg X) M md t1 t2 t3 t4 t5 t6 t7 t8 fT fD fP fC fS fU fX fF mo nT m dB nP pf cB nS sg ln tx fl hM t j (by omega) (by omega)) pm_X10_farOf wI_X10_farOf wS_X10_farOf wM_X10_94 kX10 hO ⟨by decide, by decide⟩ ⟨by decide, by decide⟩ (nle rfl) dX10_nearOf_43 rfl (dt1 ?_)
            show V X (rmD 5 0 0) M 0 0 [(0, .ref md), (1, .int (nI t)), (2, .int (nI q)), (3, .int (nI d)), (4, .int (nI ((nearD (nearA nP pf cB (Lk m nT pf) (Kk m nT pf) t d q) (distN (m t)) j).getD 99))), (5, .int (nI j))] 46 [.int (nI (distN (m t) j))]
            refine v_istore (lv' := [(4, .int (nI (distN (m t) j))), (0, .ref md), (1, .int (nI t)), (2, .int (nI q)), (3, .int (nI d)), (5, .int (nI j))]) C dX10_nearOf_46 hN (by decide) rfl ?_
            refine v_iinc (lv' := [(5, .int (nI (j + 1))), (4, .int (nI (distN (m t) j))), (0, .ref md), (1, .int (nI t)), (2, .int (nI q)), (3, .int (nI d))]) C dX10_nearOf_48 5 rfl (nI_1 _) hN (by decide) rfl ?_
            refine v_goto (tgt := 7) C dX10_nearOf_51 (by decide) ?_
            refine v_sub (lv' := [(0, .ref md), (1, .int (nI t)), (2, .int (nI q)), (3, .int (nI d)), (4, .int (nI (distN (m t) j))), (5, .int (nI (j + 1)))]) [2, 3, 4, 5, 1, 0] rfl ?_
            have hst : (nearD (nearA nP pf cB (Lk m nT pf) (Kk m nT pf) t d q) (distN (m t)) (j + 1)).getD 99 = distN (m t) j := by rw [nearD_s, ← shown_near okT_ (by omega), h36, if_pos rfl, minO_get (by omega), if_pos g23]
            rw [← hst]
            exact ih7 (j + 1) (by omega) (by omega)
  exact lp7 (_ + 1) 0 (Nat.zero_le _) (Nat.lt_succ_self _)


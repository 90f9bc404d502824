/-! The model in the cells. -/
theorem ix_ad {A B : Int32} {a b : Nat} (h : A = nI a) (k : B = nI b) : A + B = nI (a + b) := by rw [h, k, nI_add]
theorem ix_mu {A B : Int32} {a b : Nat} (h : A = nI a) (k : B = nI b) : A * B = nI (a * b) := by rw [h, k, pk_mul]
/-- THE MODEL in the cells, all named -/
def ModA (g : Gm) (M : Mem) (md : Nat) (t1 t2 t3 t4 t5 t6 t7 t8 : Nat) (fT fD fP fC fS fU fX fF : Nat → Int32) (mo : Int32) (nT : Nat) (m : Nat → Nat → Nat) (dB : Nat → Nat → Bool) (nP : Nat) (pf : Nat → Nat → Nat) (cB : Nat → Nat → Bool) (nS : Nat) (sg : Nat → Int32) (ln : Nat → Nat) (tx : Nat → Nat → Int32) (fl : Nat → Nat → Nat) : Prop :=
  M md = some (.inr (10, [.int (nI nT), .ref t1, .ref t2, .int (nI nP), .ref t3, .ref t4, .int (nI nS), .ref t5, .ref t6, .ref t7, .ref t8, .int mo])) ∧ M t1 = some (aI g 132 fT) ∧ M t2 = some (aZ g 1200 fD) ∧ M t3 = some (aI g 50 fP) ∧ M t4 = some (aZ g 960 fC) ∧ M t5 = some (aI g 40 fS) ∧ M t6 = some (aI g 5 fU) ∧ M t7 = some (aI g 200 fX) ∧ M t8 = some (aI g 32 fF)
  ∧ nT ≤ 12 ∧ nP ≤ 10 ∧ nS ≤ 40 ∧ (∀ t, t < nT → okM (m t)) ∧ (∀ t, t < nT → ∀ w, w < 11 → fT (11 * t + w) = nI (m t w)) ∧ (∀ t, t < 12 → ∀ d, d < 100 → fD (100 * t + d) = bI (if t < nT then dB t d else false)) ∧ (∀ p, p < nP → okP (pf p)) ∧ (∀ p, p < nP → ∀ w, w < 5 → fP (5 * p + w) = nI (pf p w)) ∧ (∀ p, p < 10 → ∀ c, c < 96 → fC (96 * p + c) = bI (if p < nP then cB p c else false))
  ∧ (∀ k, k < nS → fS k = sg k) ∧ (∀ u, u < 5 → fU u = nI (ln u)) ∧ (∀ u, u < 5 → ln u ≤ 40) ∧ (∀ u, u < 5 → ∀ k, k < ln u → fX (40 * u + k) = tx u k) ∧ (∀ u, u < 5 → 0 < ln u → faultN (tx u) (ln u) = none) ∧ okFl fl ∧ ∀ i, i < 8 → ∀ q, q < 4 → fF (4 * i + q) = nI (fl i q)
def ModW (g : Gm) (M : Mem) (md : Nat) (nT : Nat) (m : Nat → Nat → Nat) (dB : Nat → Nat → Bool) (nP : Nat) (pf : Nat → Nat → Nat) (cB : Nat → Nat → Bool) (nS : Nat) (sg : Nat → Int32) (ln : Nat → Nat) (tx : Nat → Nat → Int32) (fl : Nat → Nat → Nat) : Prop := ∃ (t1 t2 t3 t4 t5 t6 t7 t8 : Nat) (fT fD fP fC fS fU fX fF : Nat → Int32) (mo : Int32), ModA g M md t1 t2 t3 t4 t5 t6 t7 t8 fT fD fP fC fS fU fX fF mo nT m dB nP pf cB nS sg ln tx fl
def ModS (g : Gm) (M : Mem) (md : Nat) (σ : St) : Prop := match σ with
  | (nT, m, dB, nP, pf, cB, nS, sg, ln, tx, fl) => ModW g M md nT m dB nP pf cB nS sg ln tx fl
theorem ModA.W {g : Gm} {M : Mem} {md : Nat} {t1 t2 t3 t4 t5 t6 t7 t8 : Nat} {fT fD fP fC fS fU fX fF : Nat → Int32} {mo : Int32} {nT : Nat} {m : Nat → Nat → Nat} {dB : Nat → Nat → Bool} {nP : Nat} {pf : Nat → Nat → Nat} {cB : Nat → Nat → Bool} {nS : Nat} {sg : Nat → Int32} {ln : Nat → Nat} {tx : Nat → Nat → Int32} {fl : Nat → Nat → Nat} (hM : ModA g M md t1 t2 t3 t4 t5 t6 t7 t8 fT fD fP fC fS fU fX fF mo nT m dB nP pf cB nS sg ln tx fl) : ModW g M md nT m dB nP pf cB nS sg ln tx fl := ⟨t1, t2, t3, t4, t5, t6, t7, t8, fT, fD, fP, fC, fS, fU, fX, fF, mo, hM⟩
theorem qin_pre {n : Nat} (hn : n < 2 ^ 30) (x : Int32) : qin x 0 (nI n - 1) = (idx n x).isSome := by
  cases n with
  | zero =>
    have : idx 0 x = none := by
      rcases idx_cases 0 (by decide) x with ⟨i, hi, -⟩ | ⟨-, h⟩
      · exact absurd hi (Nat.not_lt_zero _)
      · exact h
    rw [this]
    unfold qin
    rw [show nI 0 - 1 = (-1 : Int32) from rfl]
    by_cases h : (0 : Int32) ≤ x
    · rw [decide_eq_true h, Bool.true_and]
      exact decide_eq_false (fun q => absurd (Int32.le_trans h q) (by decide))
    · rw [decide_eq_false h, Bool.false_and]; rfl
  | succ n =>
    rw [show nI (n + 1) - 1 = nI n from pk_sub (a := n + 1) (b := 1) (by omega)]
    rcases idx_cases (n + 1) (by omega) x with ⟨i, hi, rfl, h⟩ | ⟨hn', h⟩
    · rw [h, show qin (nI i) 0 (nI n) = qin (nI i) (nI 0) (nI n) from rfl, qin_N (by omega) (by decide) (by omega), decide_eq_true (Nat.zero_le _), decide_eq_true (show i ≤ n by omega)]
      rfl
    · rw [h, qin_no (by omega) hn']
      rfl
set_option maxHeartbeats 4000000 in
set_option maxRecDepth 100000 in
theorem c_X10_isThing (l : Launch) (g : Gm) (M : Mem) (md : Nat) (t1 t2 t3 t4 t5 t6 t7 t8 : Nat) (fT fD fP fC fS fU fX fF : Nat → Int32) (mo : Int32) (nT : Nat) (m : Nat → Nat → Nat) (dB : Nat → Nat → Bool) (nP : Nat) (pf : Nat → Nat → Nat) (cB : Nat → Nat → Bool) (nS : Nat) (sg : Nat → Int32) (ln : Nat → Nat) (tx : Nat → Nat → Int32) (fl : Nat → Nat → Nat) (hM : ModA g M md t1 t2 t3 t4 t5 t6 t7 t8 fT fD fP fC fS fU fX fF mo nT m dB nP pf cB nS sg ln tx fl) (x : Int32) : Ct l g yX10_isThing cX10_isThing 2 (some .boolean) 1 0 0 [.ref md, .int x] M (fun v N => v = some (.int (bI (idx nT x).isSome)) ∧ N = M) := by
  refine Ct.of (by decide) (Nat.le_of_ble_eq_true rfl) ?_
  intro X hXl hXg hN C E
  subst hXl; subst hXg
  show V X (rmD 1 0 0) M 0 0 [(0, .ref md), (1, .int x)] 0 []
  obtain ⟨hO, h1_, h2_, h3_, h4_, h5_, h6_, h7_, h8_, bT, bP, bS, okT_, cT, cD, okP_, cP, cC, cS, cU, bU_, cX, okX, okF_, cF⟩ := id hM
  refine v_iload_n C dX10_isThing_0 rfl ?_
  refine v_iconst C dX10_isThing_1 (v := 0) rfl ?_
  refine v_aload_n C dX10_isThing_2 rfl ?_
  refine v_get C kX10 hO 0 (by decide) wF_X10_39 rfl dX10_isThing_3 ?_
  refine v_iconst C dX10_isThing_6 (v := 1) rfl ?_
  refine v_isub C dX10_isThing_7 ?_
  refine v_callS (As := [.int x, .int 0, .int ((nI nT) - 1)]) (rest := []) C (c_X10_in (xl X) (xg X) x 0 ((nI nT) - 1) M) pm_X10_in wT_X10_in wM_X10_35 ⟨by decide, by decide⟩ ⟨by decide, by decide⟩ (nle rfl) dX10_isThing_8 rfl (dt1 ?_)
  show V X (rmD 1 0 0) M 0 0 [(0, .ref md), (1, .int x)] 11 [.int (bI (qin x 0 ((nI nT) - 1)))]
  exact v_zret C E dX10_isThing_11 (nle rfl) (nle rfl) (bI_01 _) ⟨by rw [qin_pre (by omega)], rfl⟩

set_option maxHeartbeats 4000000 in
set_option maxRecDepth 100000 in
theorem c_X10_isPicture (l : Launch) (g : Gm) (M : Mem) (md : Nat) (t1 t2 t3 t4 t5 t6 t7 t8 : Nat) (fT fD fP fC fS fU fX fF : Nat → Int32) (mo : Int32) (nT : Nat) (m : Nat → Nat → Nat) (dB : Nat → Nat → Bool) (nP : Nat) (pf : Nat → Nat → Nat) (cB : Nat → Nat → Bool) (nS : Nat) (sg : Nat → Int32) (ln : Nat → Nat) (tx : Nat → Nat → Int32) (fl : Nat → Nat → Nat) (hM : ModA g M md t1 t2 t3 t4 t5 t6 t7 t8 fT fD fP fC fS fU fX fF mo nT m dB nP pf cB nS sg ln tx fl) (x : Int32) : Ct l g yX10_isPicture cX10_isPicture 2 (some .boolean) 1 0 0 [.ref md, .int x] M (fun v N => v = some (.int (bI (idx nP x).isSome)) ∧ N = M) := by
  refine Ct.of (by decide) (Nat.le_of_ble_eq_true rfl) ?_
  intro X hXl hXg hN C E
  subst hXl; subst hXg
  show V X (rmD 1 0 0) M 0 0 [(0, .ref md), (1, .int x)] 0 []
  obtain ⟨hO, h1_, h2_, h3_, h4_, h5_, h6_, h7_, h8_, bT, bP, bS, okT_, cT, cD, okP_, cP, cC, cS, cU, bU_, cX, okX, okF_, cF⟩ := id hM
  refine v_iload_n C dX10_isPicture_0 rfl ?_
  refine v_iconst C dX10_isPicture_1 (v := 0) rfl ?_
  refine v_aload_n C dX10_isPicture_2 rfl ?_
  refine v_get C kX10 hO 3 (by decide) wF_X10_43 rfl dX10_isPicture_3 ?_
  refine v_iconst C dX10_isPicture_6 (v := 1) rfl ?_
  refine v_isub C dX10_isPicture_7 ?_
  refine v_callS (As := [.int x, .int 0, .int ((nI nP) - 1)]) (rest := []) C (c_X10_in (xl X) (xg X) x 0 ((nI nP) - 1) M) pm_X10_in wT_X10_in wM_X10_35 ⟨by decide, by decide⟩ ⟨by decide, by decide⟩ (nle rfl) dX10_isPicture_8 rfl (dt1 ?_)
  show V X (rmD 1 0 0) M 0 0 [(0, .ref md), (1, .int x)] 11 [.int (bI (qin x 0 ((nI nP) - 1)))]
  exact v_zret C E dX10_isPicture_11 (nle rfl) (nle rfl) (bI_01 _) ⟨by rw [qin_pre (by omega)], rfl⟩

set_option maxHeartbeats 4000000 in
set_option maxRecDepth 100000 in
theorem c_X10_isThere (l : Launch) (g : Gm) (M : Mem) (md : Nat) (t1 t2 t3 t4 t5 t6 t7 t8 : Nat) (fT fD fP fC fS fU fX fF : Nat → Int32) (mo : Int32) (nT : Nat) (m : Nat → Nat → Nat) (dB : Nat → Nat → Bool) (nP : Nat) (pf : Nat → Nat → Nat) (cB : Nat → Nat → Bool) (nS : Nat) (sg : Nat → Int32) (ln : Nat → Nat) (tx : Nat → Nat → Int32) (fl : Nat → Nat → Nat) (hM : ModA g M md t1 t2 t3 t4 t5 t6 t7 t8 fT fD fP fC fS fU fX fF mo nT m dB nP pf cB nS sg ln tx fl) (t d : Nat) (lt : t < nT) (hd : d < 100) : Ct l g yX10_isThere cX10_isThere 3 (some .boolean) 1 0 0 [.ref md, .int (nI t), .int (nI d)] M (fun v N => v = some (.int (bI (there (m t) d))) ∧ N = M) := by
  refine Ct.of (by decide) (Nat.le_of_ble_eq_true rfl) ?_
  intro X hXl hXg hN C E
  subst hXl; subst hXg
  show V X (rmD 1 0 0) M 0 0 [(0, .ref md), (1, .int (nI t)), (2, .int (nI d))] 0 []
  obtain ⟨hO, h1_, h2_, h3_, h4_, h5_, h6_, h7_, h8_, bT, bP, bS, okT_, cT, cD, okP_, cP, cC, cS, cU, bU_, cX, okX, okF_, cF⟩ := id hM
  refine v_iload_n C dX10_isThere_0 rfl ?_
  refine v_aload_n C dX10_isThere_1 rfl ?_
  refine v_get C kX10 hO 1 (by decide) wF_X10_7 rfl dX10_isThere_2 ?_
  refine v_bipush C dX10_isThere_5 (v := 11) rfl ?_
  refine v_iload_n C dX10_isThere_7 rfl ?_
  refine v_imul C dX10_isThere_8 ?_
  refine v_bipush C dX10_isThere_9 (v := 6) rfl ?_
  refine v_iadd C dX10_isThere_11 ?_
  rw [show ((11 * (nI t)) + 6 : Int32) = nI (11 * t + 6) from ix_ad (ix_mu rfl rfl) rfl]
  refine v_iald C h1_ (vp_in_nI (by omega) (by decide)) dX10_isThere_12 ?_
  rw [show fT (nI (11 * t + 6) : Int32).toNatClampNeg = nI (m t 6) from by rw [nI_clamp (by omega)]; exact cT t lt 6 (by omega)]
  refine v_aload_n C dX10_isThere_13 rfl ?_
  refine v_get C kX10 hO 1 (by decide) wF_X10_7 rfl dX10_isThere_14 ?_
  refine v_bipush C dX10_isThere_17 (v := 11) rfl ?_
  refine v_iload_n C dX10_isThere_19 rfl ?_
  refine v_imul C dX10_isThere_20 ?_
  refine v_bipush C dX10_isThere_21 (v := 7) rfl ?_
  refine v_iadd C dX10_isThere_23 ?_
  rw [show ((11 * (nI t)) + 7 : Int32) = nI (11 * t + 7) from ix_ad (ix_mu rfl rfl) rfl]
  refine v_iald C h1_ (vp_in_nI (by omega) (by decide)) dX10_isThere_24 ?_
  rw [show fT (nI (11 * t + 7) : Int32).toNatClampNeg = nI (m t 7) from by rw [nI_clamp (by omega)]; exact cT t lt 7 (by omega)]
  refine v_callS (As := [.int (nI d), .int (nI (m t 6)), .int (nI (m t 7))]) (rest := []) C (c_X10_in (xl X) (xg X) (nI d) (nI (m t 6)) (nI (m t 7)) M) pm_X10_in wT_X10_in wM_X10_35 ⟨by decide, by decide⟩ ⟨by decide, by decide⟩ (nle rfl) dX10_isThere_25 rfl (dt1 ?_)
  show V X (rmD 1 0 0) M 0 0 [(0, .ref md), (1, .int (nI t)), (2, .int (nI d))] 28 [.int (bI (qin (nI d) (nI (m t 6)) (nI (m t 7))))]
  exact v_zret C E dX10_isThere_28 (nle rfl) (nle rfl) (bI_01 _) ⟨by rw [there_N (okT_ t lt) (by omega)], rfl⟩

set_option maxHeartbeats 4000000 in
set_option maxRecDepth 100000 in
theorem c_X10_isOwn (l : Launch) (g : Gm) (M : Mem) (md : Nat) (t1 t2 t3 t4 t5 t6 t7 t8 : Nat) (fT fD fP fC fS fU fX fF : Nat → Int32) (mo : Int32) (nT : Nat) (m : Nat → Nat → Nat) (dB : Nat → Nat → Bool) (nP : Nat) (pf : Nat → Nat → Nat) (cB : Nat → Nat → Bool) (nS : Nat) (sg : Nat → Int32) (ln : Nat → Nat) (tx : Nat → Nat → Int32) (fl : Nat → Nat → Nat) (hM : ModA g M md t1 t2 t3 t4 t5 t6 t7 t8 fT fD fP fC fS fU fX fF mo nT m dB nP pf cB nS sg ln tx fl) (t x y : Nat) (lt : t < nT) (hx : x < 1000) (hy : y < 1000) : Ct l g yX10_isOwn cX10_isOwn 5 (some .boolean) 0 0 0 [.ref md, .int (nI t), .int (nI x), .int (nI y)] M (fun v N => v = some (.int (bI (liesN (m t) x y))) ∧ N = M) := by
  refine Ct.of (by decide) (Nat.le_of_ble_eq_true rfl) ?_
  intro X hXl hXg hN C E
  subst hXl; subst hXg
  show V X (rmD 0 0 0) M 0 0 [(0, .ref md), (1, .int (nI t)), (2, .int (nI x)), (3, .int (nI y))] 0 []
  obtain ⟨hO, h1_, h2_, h3_, h4_, h5_, h6_, h7_, h8_, bT, bP, bS, okT_, cT, cD, okP_, cP, cC, cS, cU, bU_, cX, okX, okF_, cF⟩ := id hM
  refine v_bipush C dX10_isOwn_0 (v := 11) rfl ?_
  refine v_iload_n C dX10_isOwn_2 rfl ?_
  refine v_imul C dX10_isOwn_3 ?_
  rw [show (11 : Int32) * nI t = nI (11 * t) from ix_mu rfl rfl]
  show V X (rmD 0 0 0) M 0 0 [(0, .ref md), (1, .int (nI t)), (2, .int (nI x)), (3, .int (nI y))] 4 [.int (nI (11 * t))]
  refine v_istore (lv' := [(4, .int (nI (11 * t))), (0, .ref md), (1, .int (nI t)), (2, .int (nI x)), (3, .int (nI y))]) C dX10_isOwn_4 hN (by decide) rfl ?_
  refine v_iload_n C dX10_isOwn_6 rfl ?_
  refine v_aload_n C dX10_isOwn_7 rfl ?_
  refine v_get C kX10 hO 1 (by decide) wF_X10_7 rfl dX10_isOwn_8 ?_
  refine v_iload C dX10_isOwn_11 rfl ?_
  refine v_iald C h1_ (vp_in_nI (by omega) (by decide)) dX10_isOwn_13 ?_
  rw [show fT (nI (11 * t) : Int32).toNatClampNeg = nI (m t 0) from by rw [nI_clamp (by omega)]; exact cT t lt 0 (by omega)]
  have e0 := okT_ t lt
  unfold okM at e0
  refine v_icmp_lt (tgt := 78) C dX10_isOwn_14 (by decide) (fun h14 => ?_) (fun h14 => ?_)
  · have gend : ¬ (m t 0 ≤ x ∧ x < m t 0 + m t 2 ∧ m t 1 ≤ y ∧ y < m t 1 + m t 3) := by first | (have := nI_ltN (by omega) (by omega) h14; omega) | (rw [nI_add] at h35; have := nI_leN (by omega) (by omega) h35; omega) | (have := nI_ltN (by omega) (by omega) h48; omega) | (rw [nI_add] at h71; have := nI_leN (by omega) (by omega) h71; omega)
    refine v_iconst C dX10_isOwn_78 (v := 0) rfl ?_
    exact v_zret C E dX10_isOwn_79 (nle rfl) (nle rfl) (by decide) ⟨by rw [show liesN (m t) x y = false from by unfold liesN; simp only [Bool.and_eq_true, Bool.and_eq_false_iff, decide_eq_true_eq, decide_eq_false_iff_not]; omega]; rfl, rfl⟩
  · have g14 : m t 0 ≤ x := nI_nltN (by omega) (by omega) h14
    refine v_iload_n C dX10_isOwn_17 rfl ?_
    refine v_aload_n C dX10_isOwn_18 rfl ?_
    refine v_get C kX10 hO 1 (by decide) wF_X10_7 rfl dX10_isOwn_19 ?_
    refine v_iload C dX10_isOwn_22 rfl ?_
    refine v_iald C h1_ (vp_in_nI (by omega) (by decide)) dX10_isOwn_24 ?_
    rw [show fT (nI (11 * t) : Int32).toNatClampNeg = nI (m t 0) from by rw [nI_clamp (by omega)]; exact cT t lt 0 (by omega)]
    refine v_aload_n C dX10_isOwn_25 rfl ?_
    refine v_get C kX10 hO 1 (by decide) wF_X10_7 rfl dX10_isOwn_26 ?_
    refine v_iload C dX10_isOwn_29 rfl ?_
    refine v_iconst C dX10_isOwn_31 (v := 2) rfl ?_
    refine v_iadd C dX10_isOwn_32 ?_
    rw [show ((nI (11 * t)) + 2 : Int32) = nI (11 * t + 2) from ix_ad rfl rfl]
    refine v_iald C h1_ (vp_in_nI (by omega) (by decide)) dX10_isOwn_33 ?_
    rw [show fT (nI (11 * t + 2) : Int32).toNatClampNeg = nI (m t 2) from by rw [nI_clamp (by omega)]; exact cT t lt 2 (by omega)]
    refine v_iadd C dX10_isOwn_34 ?_
    refine v_icmp_ge (tgt := 78) C dX10_isOwn_35 (by decide) (fun h35 => ?_) (fun h35 => ?_)
    · have gend : ¬ (m t 0 ≤ x ∧ x < m t 0 + m t 2 ∧ m t 1 ≤ y ∧ y < m t 1 + m t 3) := by first | (have := nI_ltN (by omega) (by omega) h14; omega) | (rw [nI_add] at h35; have := nI_leN (by omega) (by omega) h35; omega) | (have := nI_ltN (by omega) (by omega) h48; omega) | (rw [nI_add] at h71; have := nI_leN (by omega) (by omega) h71; omega)
      refine v_iconst C dX10_isOwn_78 (v := 0) rfl ?_
      exact v_zret C E dX10_isOwn_79 (nle rfl) (nle rfl) (by decide) ⟨by rw [show liesN (m t) x y = false from by unfold liesN; simp only [Bool.and_eq_true, Bool.and_eq_false_iff, decide_eq_true_eq, decide_eq_false_iff_not]; omega]; rfl, rfl⟩
    · refine v_iload_n C dX10_isOwn_38 rfl ?_
      refine v_aload_n C dX10_isOwn_39 rfl ?_
      refine v_get C kX10 hO 1 (by decide) wF_X10_7 rfl dX10_isOwn_40 ?_
      refine v_iload C dX10_isOwn_43 rfl ?_
      refine v_iconst C dX10_isOwn_45 (v := 1) rfl ?_
      refine v_iadd C dX10_isOwn_46 ?_
      rw [show ((nI (11 * t)) + 1 : Int32) = nI (11 * t + 1) from ix_ad rfl rfl]
      refine v_iald C h1_ (vp_in_nI (by omega) (by decide)) dX10_isOwn_47 ?_
      rw [show fT (nI (11 * t + 1) : Int32).toNatClampNeg = nI (m t 1) from by rw [nI_clamp (by omega)]; exact cT t lt 1 (by omega)]
      refine v_icmp_lt (tgt := 78) C dX10_isOwn_48 (by decide) (fun h48 => ?_) (fun h48 => ?_)
      · have gend : ¬ (m t 0 ≤ x ∧ x < m t 0 + m t 2 ∧ m t 1 ≤ y ∧ y < m t 1 + m t 3) := by first | (have := nI_ltN (by omega) (by omega) h14; omega) | (rw [nI_add] at h35; have := nI_leN (by omega) (by omega) h35; omega) | (have := nI_ltN (by omega) (by omega) h48; omega) | (rw [nI_add] at h71; have := nI_leN (by omega) (by omega) h71; omega)
        refine v_iconst C dX10_isOwn_78 (v := 0) rfl ?_
        exact v_zret C E dX10_isOwn_79 (nle rfl) (nle rfl) (by decide) ⟨by rw [show liesN (m t) x y = false from by unfold liesN; simp only [Bool.and_eq_true, Bool.and_eq_false_iff, decide_eq_true_eq, decide_eq_false_iff_not]; omega]; rfl, rfl⟩
      · refine v_iload_n C dX10_isOwn_51 rfl ?_
        refine v_aload_n C dX10_isOwn_52 rfl ?_
        refine v_get C kX10 hO 1 (by decide) wF_X10_7 rfl dX10_isOwn_53 ?_
        refine v_iload C dX10_isOwn_56 rfl ?_
        refine v_iconst C dX10_isOwn_58 (v := 1) rfl ?_
        refine v_iadd C dX10_isOwn_59 ?_
        rw [show ((nI (11 * t)) + 1 : Int32) = nI (11 * t + 1) from ix_ad rfl rfl]
        refine v_iald C h1_ (vp_in_nI (by omega) (by decide)) dX10_isOwn_60 ?_
        rw [show fT (nI (11 * t + 1) : Int32).toNatClampNeg = nI (m t 1) from by rw [nI_clamp (by omega)]; exact cT t lt 1 (by omega)]
        refine v_aload_n C dX10_isOwn_61 rfl ?_
        refine v_get C kX10 hO 1 (by decide) wF_X10_7 rfl dX10_isOwn_62 ?_
        refine v_iload C dX10_isOwn_65 rfl ?_
        refine v_iconst C dX10_isOwn_67 (v := 3) rfl ?_
        refine v_iadd C dX10_isOwn_68 ?_
        rw [show ((nI (11 * t)) + 3 : Int32) = nI (11 * t + 3) from ix_ad rfl rfl]
        refine v_iald C h1_ (vp_in_nI (by omega) (by decide)) dX10_isOwn_69 ?_
        rw [show fT (nI (11 * t + 3) : Int32).toNatClampNeg = nI (m t 3) from by rw [nI_clamp (by omega)]; exact cT t lt 3 (by omega)]
        refine v_iadd C dX10_isOwn_70 ?_
        refine v_icmp_ge (tgt := 78) C dX10_isOwn_71 (by decide) (fun h71 => ?_) (fun h71 => ?_)
        · have gend : ¬ (m t 0 ≤ x ∧ x < m t 0 + m t 2 ∧ m t 1 ≤ y ∧ y < m t 1 + m t 3) := by first | (have := nI_ltN (by omega) (by omega) h14; omega) | (rw [nI_add] at h35; have := nI_leN (by omega) (by omega) h35; omega) | (have := nI_ltN (by omega) (by omega) h48; omega) | (rw [nI_add] at h71; have := nI_leN (by omega) (by omega) h71; omega)
          refine v_iconst C dX10_isOwn_78 (v := 0) rfl ?_
          exact v_zret C E dX10_isOwn_79 (nle rfl) (nle rfl) (by decide) ⟨by rw [show liesN (m t) x y = false from by unfold liesN; simp only [Bool.and_eq_true, Bool.and_eq_false_iff, decide_eq_true_eq, decide_eq_false_iff_not]; omega]; rfl, rfl⟩
        · rw [nI_add] at h35 h71
          have g35 := nI_nleN (by omega) (by omega) h35
          have g48 := nI_nltN (by omega) (by omega) h48
          have g71 := nI_nleN (by omega) (by omega) h71
          refine v_iconst C dX10_isOwn_74 (v := 1) rfl ?_
          refine v_goto (tgt := 79) C dX10_isOwn_75 (by decide) ?_
          exact v_zret C E dX10_isOwn_79 (nle rfl) (nle rfl) (by decide) ⟨by rw [show liesN (m t) x y = true from by unfold liesN; simp only [Bool.and_eq_true, Bool.and_eq_false_iff, decide_eq_true_eq, decide_eq_false_iff_not]; omega]; rfl, rfl⟩

theorem bst_s (m : Nat → Nat → Nat) (x y d n : Nat) : bst m x y d (n + 1) = if (there (m n) d && liesN (m n) x y) && abv m (bst m x y d n) n then some n else bst m x y d n := rfl
theorem oI_neg {o : Option Nat} (h : ∀ k, o = some k → k < 2 ^ 31) : oI o < 0 ↔ o = none := by
  cases o with
  | none => exact ⟨fun _ => rfl, fun _ => by decide⟩
  | some k => exact ⟨fun q => absurd q (nI_pos (h k rfl)), fun q => by cases q⟩
set_option maxHeartbeats 4000000 in
set_option maxRecDepth 100000 in
theorem c_X10_thingAt (l : Launch) (g : Gm) (M : Mem) (md : Nat) (t1 t2 t3 t4 t5 t6 t7 t8 : Nat) (fT fD fP fC fS fU fX fF : Nat → Int32) (mo : Int32) (nT : Nat) (m : Nat → Nat → Nat) (dB : Nat → Nat → Bool) (nP : Nat) (pf : Nat → Nat → Nat) (cB : Nat → Nat → Bool) (nS : Nat) (sg : Nat → Int32) (ln : Nat → Nat) (tx : Nat → Nat → Int32) (fl : Nat → Nat → Nat) (hM : ModA g M md t1 t2 t3 t4 t5 t6 t7 t8 fT fD fP fC fS fU fX fF mo nT m dB nP pf cB nS sg ln tx fl) (x y d : Nat) (hx : x < 1000) (hy : y < 1000) (hd : d < 100) : Ct l g yX10_thingAt cX10_thingAt 6 (some .int) 2 0 0 [.ref md, .int (nI x), .int (nI y), .int (nI d)] M (fun v N => v = some (.int (oI (bst m x y d nT))) ∧ N = M) := by
  refine Ct.of (by decide) (Nat.le_of_ble_eq_true rfl) ?_
  intro X hXl hXg hN C E
  subst hXl; subst hXg
  show V X (rmD 2 0 0) M 0 0 [(0, .ref md), (1, .int (nI x)), (2, .int (nI y)), (3, .int (nI d))] 0 []
  obtain ⟨hO, h1_, h2_, h3_, h4_, h5_, h6_, h7_, h8_, bT, bP, bS, okT_, cT, cD, okP_, cP, cC, cS, cU, bU_, cX, okX, okF_, cF⟩ := id hM
  refine v_bipush C dX10_thingAt_0 (v := (-6)) rfl ?_
  refine v_istore (lv' := [(4, .int ((-6))), (0, .ref md), (1, .int (nI x)), (2, .int (nI y)), (3, .int (nI d))]) C dX10_thingAt_2 hN (by decide) rfl ?_
  refine v_iconst C dX10_thingAt_4 (v := 0) rfl ?_
  refine v_istore (lv' := [(5, .int 0), (4, .int ((-6))), (0, .ref md), (1, .int (nI x)), (2, .int (nI y)), (3, .int (nI d))]) C dX10_thingAt_5 hN (by decide) rfl ?_
  refine v_sub (lv' := [(0, .ref md), (1, .int (nI x)), (2, .int (nI y)), (3, .int (nI d)), (4, .int ((-6))), (5, .int 0)]) [2, 3, 4, 5, 1, 0] rfl ?_
  have lp7 : ∀ (mm : Nat) (i : Nat) (h1 : i ≤ nT), nT - i < mm → V X (rmD 2 0 0) M 0 0 [(0, .ref md), (1, .int (nI x)), (2, .int (nI y)), (3, .int (nI d)), (4, .int (oI (bst m x y d i))), (5, .int (nI i))] 7 [] := by
    intro mm
    induction mm with
    | zero => intro i h1 hmu; exact absurd hmu (Nat.not_lt_zero _)
    | succ mm ih7 =>
      intro i h1 hmu
      refine v_iload C dX10_thingAt_7 rfl ?_
      refine v_aload_n C dX10_thingAt_9 rfl ?_
      refine v_get C kX10 hO 0 (by decide) wF_X10_39 rfl dX10_thingAt_10 ?_
      refine v_icmp_ge (tgt := 79) C dX10_thingAt_13 (by decide) (fun h13 => ?_) (fun h13 => ?_)
      · refine v_iload C dX10_thingAt_79 rfl ?_
        exact v_iret C E dX10_thingAt_81 (nle rfl) (nle rfl) ⟨by rw [show i = nT from Nat.le_antisymm h1 (nI_leN (by omega) (by omega) h13)], rfl⟩
      · have g13 := nI_nleN (by omega) (by omega) h13
        obtain ⟨o1, ho⟩ : ∃ o1, o1 = bst m x y d i := ⟨_, rfl⟩
        rcases o1 with _ | b
        · have hb : bst m x y d i = none := ho.symm
          rw [show oI (bst m x y d i) = (-6) by rw [hb]; rfl]
          show V X (rmD 2 0 0) M 0 0 [(0, .ref md), (1, .int (nI x)), (2, .int (nI y)), (3, .int (nI d)), (4, .int ((-6))), (5, .int (nI i))] 16 []
          refine v_aload_n C dX10_thingAt_16 rfl ?_
          refine v_iload C dX10_thingAt_17 rfl ?_
          refine v_iload_n C dX10_thingAt_19 rfl ?_
          refine v_callV (As := [.int (nI i), .int (nI d)]) (rest := []) (b := md) C (c_X10_isThere (xl X) (xg X) M md t1 t2 t3 t4 t5 t6 t7 t8 fT fD fP fC fS fU fX fF mo nT m dB nP pf cB nS sg ln tx fl hM i d (by omega) (by omega)) pm_X10_isThere wI_X10_isThere wS_X10_isThere wM_X10_53 kX10 hO ⟨by decide, by decide⟩ ⟨by decide, by decide⟩ (nle rfl) dX10_thingAt_20 rfl (dt1 ?_)
          show V X (rmD 2 0 0) M 0 0 [(0, .ref md), (1, .int (nI x)), (2, .int (nI y)), (3, .int (nI d)), (4, .int ((-6))), (5, .int (nI i))] 23 [.int (bI (there (m i) d))]
          refine v_ifb_eq (tgt := 73) C dX10_thingAt_23 (by decide) (fun h23 => ?_) (fun h23 => ?_)
          · refine v_iinc (lv' := [(5, .int (nI (i + 1))), (0, .ref md), (1, .int (nI x)), (2, .int (nI y)), (3, .int (nI d)), (4, .int ((-6)))]) C dX10_thingAt_73 5 rfl (nI_1 _) hN (by decide) rfl ?_
            refine v_goto (tgt := 7) C dX10_thingAt_76 (by decide) ?_
            refine v_sub (lv' := [(0, .ref md), (1, .int (nI x)), (2, .int (nI y)), (3, .int (nI d)), (4, .int ((-6))), (5, .int (nI (i + 1)))]) [1, 2, 3, 4, 5, 0] rfl ?_
            have hnx : bst m x y d (i + 1) = bst m x y d i := by rw [bst_s]; first | (rw [h23]; rfl) | (rw [h23, h34]; rfl) | (rw [h23, h34, hb, show abv m (some b) i = false from decide_eq_false (Nat.not_lt.mpr (nI_leN (by omega) (by omega) h66))]; rfl)
            rw [show ((-6) : Int32) = oI (bst m x y d (i + 1)) by rw [hnx, hb]; rfl]
            exact ih7 (i + 1) (by omega) (by omega)
          · refine v_aload_n C dX10_thingAt_26 rfl ?_
            refine v_iload C dX10_thingAt_27 rfl ?_
            refine v_iload_n C dX10_thingAt_29 rfl ?_
            refine v_iload_n C dX10_thingAt_30 rfl ?_
            refine v_callV (As := [.int (nI i), .int (nI x), .int (nI y)]) (rest := []) (b := md) C (c_X10_isOwn (xl X) (xg X) M md t1 t2 t3 t4 t5 t6 t7 t8 fT fD fP fC fS fU fX fF mo nT m dB nP pf cB nS sg ln tx fl hM i x y (by omega) (by omega) (by omega)) pm_X10_isOwn wI_X10_isOwn wS_X10_isOwn wM_X10_57 kX10 hO ⟨by decide, by decide⟩ ⟨by decide, by decide⟩ (nle rfl) dX10_thingAt_31 rfl (dt1 ?_)
            show V X (rmD 2 0 0) M 0 0 [(0, .ref md), (1, .int (nI x)), (2, .int (nI y)), (3, .int (nI d)), (4, .int ((-6))), (5, .int (nI i))] 34 [.int (bI (liesN (m i) x y))]
            refine v_ifb_eq (tgt := 73) C dX10_thingAt_34 (by decide) (fun h34 => ?_) (fun h34 => ?_)
            · refine v_iinc (lv' := [(5, .int (nI (i + 1))), (0, .ref md), (1, .int (nI x)), (2, .int (nI y)), (3, .int (nI d)), (4, .int ((-6)))]) C dX10_thingAt_73 5 rfl (nI_1 _) hN (by decide) rfl ?_
              refine v_goto (tgt := 7) C dX10_thingAt_76 (by decide) ?_
              refine v_sub (lv' := [(0, .ref md), (1, .int (nI x)), (2, .int (nI y)), (3, .int (nI d)), (4, .int ((-6))), (5, .int (nI (i + 1)))]) [1, 2, 3, 4, 5, 0] rfl ?_
              have hnx : bst m x y d (i + 1) = bst m x y d i := by rw [bst_s]; first | (rw [h23]; rfl) | (rw [h23, h34]; rfl) | (rw [h23, h34, hb, show abv m (some b) i = false from decide_eq_false (Nat.not_lt.mpr (nI_leN (by omega) (by omega) h66))]; rfl)
              rw [show ((-6) : Int32) = oI (bst m x y d (i + 1)) by rw [hnx, hb]; rfl]
              exact ih7 (i + 1) (by omega) (by omega)
            · refine v_iload C dX10_thingAt_37 rfl ?_
              refine v_if_lt (tgt := 69) C dX10_thingAt_39 (by decide) (fun h39 => ?_) (fun hbad => absurd hbad (by decide))
              have g66 : True ∧ True := ⟨trivial, trivial⟩
              refine v_iload C dX10_thingAt_69 rfl ?_
              refine v_istore (lv' := [(4, .int (nI i)), (0, .ref md), (1, .int (nI x)), (2, .int (nI y)), (3, .int (nI d)), (5, .int (nI i))]) C dX10_thingAt_71 hN (by decide) rfl ?_
              refine v_iinc (lv' := [(5, .int (nI (i + 1))), (4, .int (nI i)), (0, .ref md), (1, .int (nI x)), (2, .int (nI y)), (3, .int (nI d))]) C dX10_thingAt_73 5 rfl (nI_1 _) hN (by decide) rfl ?_
              refine v_goto (tgt := 7) C dX10_thingAt_76 (by decide) ?_
              refine v_sub (lv' := [(0, .ref md), (1, .int (nI x)), (2, .int (nI y)), (3, .int (nI d)), (4, .int (nI i)), (5, .int (nI (i + 1)))]) [2, 3, 4, 5, 1, 0] rfl ?_
              show V X _ _ _ _ [(0, .ref md), (1, .int (nI x)), (2, .int (nI y)), (3, .int (nI d)), (4, .int (oI (some i))), (5, .int (nI (i + 1)))] 7 []
              have hnx : bst m x y d (i + 1) = some i := by rw [bst_s, h23, h34, hb]; first | rfl | (rw [show abv m (some b) i = true from decide_eq_true g66]; rfl)
              rw [← hnx]
              exact ih7 (i + 1) (by omega) (by omega)
        · have hb : bst m x y d i = some b := ho.symm
          have hbl := bst_lt hb
          rw [show oI (bst m x y d i) = nI b by rw [hb]; rfl]
          show V X (rmD 2 0 0) M 0 0 [(0, .ref md), (1, .int (nI x)), (2, .int (nI y)), (3, .int (nI d)), (4, .int (nI b)), (5, .int (nI i))] 16 []
          refine v_aload_n C dX10_thingAt_16 rfl ?_
          refine v_iload C dX10_thingAt_17 rfl ?_
          refine v_iload_n C dX10_thingAt_19 rfl ?_
          refine v_callV (As := [.int (nI i), .int (nI d)]) (rest := []) (b := md) C (c_X10_isThere (xl X) (xg X) M md t1 t2 t3 t4 t5 t6 t7 t8 fT fD fP fC fS fU fX fF mo nT m dB nP pf cB nS sg ln tx fl hM i d (by omega) (by omega)) pm_X10_isThere wI_X10_isThere wS_X10_isThere wM_X10_53 kX10 hO ⟨by decide, by decide⟩ ⟨by decide, by decide⟩ (nle rfl) dX10_thingAt_20 rfl (dt1 ?_)
          show V X (rmD 2 0 0) M 0 0 [(0, .ref md), (1, .int (nI x)), (2, .int (nI y)), (3, .int (nI d)), (4, .int (nI b)), (5, .int (nI i))] 23 [.int (bI (there (m i) d))]
          refine v_ifb_eq (tgt := 73) C dX10_thingAt_23 (by decide) (fun h23 => ?_) (fun h23 => ?_)
          · refine v_iinc (lv' := [(5, .int (nI (i + 1))), (0, .ref md), (1, .int (nI x)), (2, .int (nI y)), (3, .int (nI d)), (4, .int (nI b))]) C dX10_thingAt_73 5 rfl (nI_1 _) hN (by decide) rfl ?_
            refine v_goto (tgt := 7) C dX10_thingAt_76 (by decide) ?_
            refine v_sub (lv' := [(0, .ref md), (1, .int (nI x)), (2, .int (nI y)), (3, .int (nI d)), (4, .int (nI b)), (5, .int (nI (i + 1)))]) [1, 2, 3, 4, 5, 0] rfl ?_
            have hnx : bst m x y d (i + 1) = bst m x y d i := by rw [bst_s]; first | (rw [h23]; rfl) | (rw [h23, h34]; rfl) | (rw [h23, h34, hb, show abv m (some b) i = false from decide_eq_false (Nat.not_lt.mpr (nI_leN (by omega) (by omega) h66))]; rfl)
            rw [show (nI b : Int32) = oI (bst m x y d (i + 1)) by rw [hnx, hb]; rfl]
            exact ih7 (i + 1) (by omega) (by omega)
          · refine v_aload_n C dX10_thingAt_26 rfl ?_
            refine v_iload C dX10_thingAt_27 rfl ?_
            refine v_iload_n C dX10_thingAt_29 rfl ?_
            refine v_iload_n C dX10_thingAt_30 rfl ?_
            refine v_callV (As := [.int (nI i), .int (nI x), .int (nI y)]) (rest := []) (b := md) C (c_X10_isOwn (xl X) (xg X) M md t1 t2 t3 t4 t5 t6 t7 t8 fT fD fP fC fS fU fX fF mo nT m dB nP pf cB nS sg ln tx fl hM i x y (by omega) (by omega) (by omega)) pm_X10_isOwn wI_X10_isOwn wS_X10_isOwn wM_X10_57 kX10 hO ⟨by decide, by decide⟩ ⟨by decide, by decide⟩ (nle rfl) dX10_thingAt_31 rfl (dt1 ?_)
            show V X (rmD 2 0 0) M 0 0 [(0, .ref md), (1, .int (nI x)), (2, .int (nI y)), (3, .int (nI d)), (4, .int (nI b)), (5, .int (nI i))] 34 [.int (bI (liesN (m i) x y))]
            refine v_ifb_eq (tgt := 73) C dX10_thingAt_34 (by decide) (fun h34 => ?_) (fun h34 => ?_)
            · refine v_iinc (lv' := [(5, .int (nI (i + 1))), (0, .ref md), (1, .int (nI x)), (2, .int (nI y)), (3, .int (nI d)), (4, .int (nI b))]) C dX10_thingAt_73 5 rfl (nI_1 _) hN (by decide) rfl ?_
              refine v_goto (tgt := 7) C dX10_thingAt_76 (by decide) ?_
              refine v_sub (lv' := [(0, .ref md), (1, .int (nI x)), (2, .int (nI y)), (3, .int (nI d)), (4, .int (nI b)), (5, .int (nI (i + 1)))]) [1, 2, 3, 4, 5, 0] rfl ?_
              have hnx : bst m x y d (i + 1) = bst m x y d i := by rw [bst_s]; first | (rw [h23]; rfl) | (rw [h23, h34]; rfl) | (rw [h23, h34, hb, show abv m (some b) i = false from decide_eq_false (Nat.not_lt.mpr (nI_leN (by omega) (by omega) h66))]; rfl)
              rw [show (nI b : Int32) = oI (bst m x y d (i + 1)) by rw [hnx, hb]; rfl]
              exact ih7 (i + 1) (by omega) (by omega)
            · refine v_iload C dX10_thingAt_37 rfl ?_
              refine v_if_lt (tgt := 69) C dX10_thingAt_39 (by decide) (fun hbad => absurd hbad (nI_pos (by omega))) (fun h39 => ?_)
              refine v_aload_n C dX10_thingAt_42 rfl ?_
              refine v_get C kX10 hO 1 (by decide) wF_X10_7 rfl dX10_thingAt_43 ?_
              refine v_bipush C dX10_thingAt_46 (v := 11) rfl ?_
              refine v_iload C dX10_thingAt_48 rfl ?_
              refine v_imul C dX10_thingAt_50 ?_
              refine v_iconst C dX10_thingAt_51 (v := 4) rfl ?_
              refine v_iadd C dX10_thingAt_52 ?_
              rw [show ((11 * (nI i)) + 4 : Int32) = nI (11 * i + 4) from ix_ad (ix_mu rfl rfl) rfl]
              refine v_iald C h1_ (vp_in_nI (by omega) (by decide)) dX10_thingAt_53 ?_
              rw [show fT (nI (11 * i + 4) : Int32).toNatClampNeg = nI (m i 4) from by rw [nI_clamp (by omega)]; exact cT i (by omega) 4 (by omega)]
              refine v_aload_n C dX10_thingAt_54 rfl ?_
              refine v_get C kX10 hO 1 (by decide) wF_X10_7 rfl dX10_thingAt_55 ?_
              refine v_bipush C dX10_thingAt_58 (v := 11) rfl ?_
              refine v_iload C dX10_thingAt_60 rfl ?_
              refine v_imul C dX10_thingAt_62 ?_
              refine v_iconst C dX10_thingAt_63 (v := 4) rfl ?_
              refine v_iadd C dX10_thingAt_64 ?_
              rw [show ((11 * (nI b)) + 4 : Int32) = nI (11 * b + 4) from ix_ad (ix_mu rfl rfl) rfl]
              refine v_iald C h1_ (vp_in_nI (by omega) (by decide)) dX10_thingAt_65 ?_
              rw [show fT (nI (11 * b + 4) : Int32).toNatClampNeg = nI (m b 4) from by rw [nI_clamp (by omega)]; exact cT b (by omega) 4 (by omega)]
              have e1 := okT_ i g13
              have e2 := okT_ b (by omega)
              unfold okM at e1 e2
              refine v_icmp_le (tgt := 73) C dX10_thingAt_66 (by decide) (fun h66 => ?_) (fun h66 => ?_)
              · refine v_iinc (lv' := [(5, .int (nI (i + 1))), (0, .ref md), (1, .int (nI x)), (2, .int (nI y)), (3, .int (nI d)), (4, .int (nI b))]) C dX10_thingAt_73 5 rfl (nI_1 _) hN (by decide) rfl ?_
                refine v_goto (tgt := 7) C dX10_thingAt_76 (by decide) ?_
                refine v_sub (lv' := [(0, .ref md), (1, .int (nI x)), (2, .int (nI y)), (3, .int (nI d)), (4, .int (nI b)), (5, .int (nI (i + 1)))]) [1, 2, 3, 4, 5, 0] rfl ?_
                have hnx : bst m x y d (i + 1) = bst m x y d i := by rw [bst_s]; first | (rw [h23]; rfl) | (rw [h23, h34]; rfl) | (rw [h23, h34, hb, show abv m (some b) i = false from decide_eq_false (Nat.not_lt.mpr (nI_leN (by omega) (by omega) h66))]; rfl)
                rw [show (nI b : Int32) = oI (bst m x y d (i + 1)) by rw [hnx, hb]; rfl]
                exact ih7 (i + 1) (by omega) (by omega)
              · have g66 : m b 4 < m i 4 := nI_nleN (by omega) (by omega) h66
                refine v_iload C dX10_thingAt_69 rfl ?_
                refine v_istore (lv' := [(4, .int (nI i)), (0, .ref md), (1, .int (nI x)), (2, .int (nI y)), (3, .int (nI d)), (5, .int (nI i))]) C dX10_thingAt_71 hN (by decide) rfl ?_
                refine v_iinc (lv' := [(5, .int (nI (i + 1))), (4, .int (nI i)), (0, .ref md), (1, .int (nI x)), (2, .int (nI y)), (3, .int (nI d))]) C dX10_thingAt_73 5 rfl (nI_1 _) hN (by decide) rfl ?_
                refine v_goto (tgt := 7) C dX10_thingAt_76 (by decide) ?_
                refine v_sub (lv' := [(0, .ref md), (1, .int (nI x)), (2, .int (nI y)), (3, .int (nI d)), (4, .int (nI i)), (5, .int (nI (i + 1)))]) [2, 3, 4, 5, 1, 0] rfl ?_
                show V X _ _ _ _ [(0, .ref md), (1, .int (nI x)), (2, .int (nI y)), (3, .int (nI d)), (4, .int (oI (some i))), (5, .int (nI (i + 1)))] 7 []
                have hnx : bst m x y d (i + 1) = some i := by rw [bst_s, h23, h34, hb]; first | rfl | (rw [show abv m (some b) i = true from decide_eq_true g66]; rfl)
                rw [← hnx]
                exact ih7 (i + 1) (by omega) (by omega)
  exact lp7 (_ + 1) 0 (Nat.zero_le _) (Nat.lt_succ_self _)


/-! The model: of, at, shows, count, span, changed. -/
set_option maxHeartbeats 4000000 in
set_option maxRecDepth 100000 in
theorem c_X10_of (l : Launch) (g : Gm) (M : Mem) (md : Nat) (t1 t2 t3 t4 t5 t6 t7 t8 : Nat) (fT fD fP fC fS fU fX fF : Nat → Int32) (mo : Int32) (nT : Nat) (m : Nat → Nat → Nat) (dB : Nat → Nat → Bool) (nP : Nat) (pf : Nat → Nat → Nat) (cB : Nat → Nat → Bool) (nS : Nat) (sg : Nat → Int32) (ln : Nat → Nat) (tx : Nat → Nat → Int32) (fl : Nat → Nat → Nat) (hM : ModA g M md t1 t2 t3 t4 t5 t6 t7 t8 fT fD fP fC fS fU fX fF mo nT m dB nP pf cB nS sg ln tx fl) (t w : Int32) : Ct l g yX10_of cX10_of 3 (some .int) 9 0 0 [.ref md, .int t, .int w] M (fun v N => v = some (.int (aOf nT m t w)) ∧ N = M) := by
  refine Ct.of (by decide) (Nat.le_of_ble_eq_true rfl) ?_
  intro X hXl hXg hN C E
  subst hXl; subst hXg
  show V X (rmD 9 0 0) M 0 0 [(0, .ref md), (1, .int t), (2, .int w)] 0 []
  obtain ⟨hO, h1_, h2_, h3_, h4_, h5_, h6_, h7_, h8_, bT, bP, bS, okT_, cT, cD, okP_, cP, cC, cS, cU, bU_, cX, okX, okF_, cF⟩ := id hM
  rcases idx_cases nT (by omega) t with ⟨i, lt, rfl, hx⟩ | ⟨hn, hx⟩
  · have hzi := trivial
    show V X (rmD 9 0 0) M 0 0 [(0, .ref md), (1, .int (nI i)), (2, .int w)] 0 []
    refine v_aload_n C dX10_of_0 rfl ?_
    refine v_iload_n C dX10_of_1 rfl ?_
    refine v_callV (As := [.int (nI i)]) (rest := []) (b := md) C (c_X10_isThing (xl X) (xg X) M md t1 t2 t3 t4 t5 t6 t7 t8 fT fD fP fC fS fU fX fF mo nT m dB nP pf cB nS sg ln tx fl hM (nI i)) pm_X10_isThing wI_X10_isThing wS_X10_isThing wM_X10_50 kX10 hO ⟨by decide, by decide⟩ ⟨by decide, by decide⟩ (nle rfl) dX10_of_2 rfl (dt1 ?_)
    show V X (rmD 9 0 0) M 0 0 [(0, .ref md), (1, .int (nI i)), (2, .int w)] 5 [.int (bI ((idx nT (nI i)).isSome))]
    refine v_ifb_ne (tgt := 10) C dX10_of_5 (by decide) (fun h5 => ?_) (fun hbad => absurd hbad (by rw [hx]; simp))
    refine v_iload_n C dX10_of_10 rfl ?_
    refine v_iconst C dX10_of_11 (v := 0) rfl ?_
    refine v_bipush C dX10_of_12 (v := 10) rfl ?_
    refine v_callS (As := [.int w, .int 0, .int 10]) (rest := []) C (c_X10_in (xl X) (xg X) w 0 10 M) pm_X10_in wT_X10_in wM_X10_35 ⟨by decide, by decide⟩ ⟨by decide, by decide⟩ (nle rfl) dX10_of_14 rfl (dt1 ?_)
    show V X (rmD 9 0 0) M 0 0 [(0, .ref md), (1, .int (nI i)), (2, .int w)] 17 [.int (bI (qin w 0 10))]
    refine v_ifb_eq (tgt := 34) C dX10_of_17 (by decide) (fun h17 => ?_) (fun h17 => ?_)
    · refine v_bipush C dX10_of_34 (v := (-2)) rfl ?_
      exact v_iret C E dX10_of_36 (nle rfl) (nle rfl) ⟨by simp [aOf, hx, h17], rfl⟩
    · obtain ⟨j, hLj, hjj, rfl⟩ := qin_nJ (x := w) (L := 0) (N := 10) (by decide) (by decide) h17
      show V X (rmD 9 0 0) M 0 0 [(0, .ref md), (1, .int (nI i)), (2, .int (nI j))] 20 []
      refine v_aload_n C dX10_of_20 rfl ?_
      refine v_get C kX10 hO 1 (by decide) wF_X10_7 rfl dX10_of_21 ?_
      refine v_bipush C dX10_of_24 (v := 11) rfl ?_
      refine v_iload_n C dX10_of_26 rfl ?_
      refine v_imul C dX10_of_27 ?_
      refine v_iload_n C dX10_of_28 rfl ?_
      refine v_iadd C dX10_of_29 ?_
      rw [show ((11 * (nI i)) + (nI j) : Int32) = nI (11 * i + j) from ix_ad (ix_mu rfl rfl) rfl]
      refine v_iald C h1_ (vp_in_nI (by omega) (by decide)) dX10_of_30 ?_
      rw [show fT (nI (11 * i + j) : Int32).toNatClampNeg = nI (m i j) from by rw [nI_clamp (by omega)]; exact cT i lt j (by omega)]
      refine v_goto (tgt := 36) C dX10_of_31 (by decide) ?_
      exact v_iret C E dX10_of_36 (nle rfl) (nle rfl) ⟨by simp [aOf, hx, h17, nI_clamp (n := j) (by omega)], rfl⟩
  · have hzi := trivial
    show V X (rmD 9 0 0) M 0 0 [(0, .ref md), (1, .int t), (2, .int w)] 0 []
    refine v_aload_n C dX10_of_0 rfl ?_
    refine v_iload_n C dX10_of_1 rfl ?_
    refine v_callV (As := [.int t]) (rest := []) (b := md) C (c_X10_isThing (xl X) (xg X) M md t1 t2 t3 t4 t5 t6 t7 t8 fT fD fP fC fS fU fX fF mo nT m dB nP pf cB nS sg ln tx fl hM t) pm_X10_isThing wI_X10_isThing wS_X10_isThing wM_X10_50 kX10 hO ⟨by decide, by decide⟩ ⟨by decide, by decide⟩ (nle rfl) dX10_of_2 rfl (dt1 ?_)
    show V X (rmD 9 0 0) M 0 0 [(0, .ref md), (1, .int t), (2, .int w)] 5 [.int (bI ((idx nT t).isSome))]
    refine v_ifb_ne (tgt := 10) C dX10_of_5 (by decide) (fun hbad => absurd hbad (by rw [hx]; simp)) (fun h5 => ?_)
    refine v_iconst C dX10_of_8 (v := (-1)) rfl ?_
    exact v_iret C E dX10_of_9 (nle rfl) (nle rfl) ⟨by simp [aOf, hx], rfl⟩

set_option maxHeartbeats 4000000 in
set_option maxRecDepth 100000 in
theorem c_X10_at (l : Launch) (g : Gm) (M : Mem) (md : Nat) (t1 t2 t3 t4 t5 t6 t7 t8 : Nat) (fT fD fP fC fS fU fX fF : Nat → Int32) (mo : Int32) (nT : Nat) (m : Nat → Nat → Nat) (dB : Nat → Nat → Bool) (nP : Nat) (pf : Nat → Nat → Nat) (cB : Nat → Nat → Bool) (nS : Nat) (sg : Nat → Int32) (ln : Nat → Nat) (tx : Nat → Nat → Int32) (fl : Nat → Nat → Nat) (hM : ModA g M md t1 t2 t3 t4 t5 t6 t7 t8 fT fD fP fC fS fU fX fF mo nT m dB nP pf cB nS sg ln tx fl) (c d : Int32) : Ct l g yX10_at cX10_at 3 (some .int) 9 0 0 [.ref md, .int c, .int d] M (fun v N => v = some (.int (aAt nT m c d)) ∧ N = M) := by
  refine Ct.of (by decide) (Nat.le_of_ble_eq_true rfl) ?_
  intro X hXl hXg hN C E
  subst hXl; subst hXg
  show V X (rmD 9 0 0) M 0 0 [(0, .ref md), (1, .int c), (2, .int d)] 0 []
  obtain ⟨hO, h1_, h2_, h3_, h4_, h5_, h6_, h7_, h8_, bT, bP, bS, okT_, cT, cD, okP_, cP, cC, cS, cU, bU_, cX, okX, okF_, cF⟩ := id hM
  refine v_iload_n C dX10_at_0 rfl ?_
  refine v_callS (As := [.int c]) (rest := []) C (c_X10_isCell (xl X) (xg X) c M) pm_X10_isCell wT_X10_isCell wM_X10_60 ⟨by decide, by decide⟩ ⟨by decide, by decide⟩ (nle rfl) dX10_at_1 rfl (dt1 ?_)
  show V X (rmD 9 0 0) M 0 0 [(0, .ref md), (1, .int c), (2, .int d)] 4 [.int (bI (qin c 0 95))]
  refine v_ifb_eq (tgt := 30) C dX10_at_4 (by decide) (fun h4 => ?_) (fun h4 => ?_)
  · refine v_bipush C dX10_at_30 (v := (-2)) rfl ?_
    exact v_iret C E dX10_at_32 (nle rfl) (nle rfl) ⟨by first | (simp [aAt, h4, h11]; done) | (simp [aAt, h4]; done), rfl⟩
  · refine v_iload_n C dX10_at_7 rfl ?_
    refine v_callS (As := [.int d]) (rest := []) C (c_X10_isDay (xl X) (xg X) d M) pm_X10_isDay wT_X10_isDay wM_X10_46 ⟨by decide, by decide⟩ ⟨by decide, by decide⟩ (nle rfl) dX10_at_8 rfl (dt1 ?_)
    show V X (rmD 9 0 0) M 0 0 [(0, .ref md), (1, .int c), (2, .int d)] 11 [.int (bI (qin d 0 99))]
    refine v_ifb_eq (tgt := 30) C dX10_at_11 (by decide) (fun h11 => ?_) (fun h11 => ?_)
    · refine v_bipush C dX10_at_30 (v := (-2)) rfl ?_
      exact v_iret C E dX10_at_32 (nle rfl) (nle rfl) ⟨by first | (simp [aAt, h4, h11]; done) | (simp [aAt, h4]; done), rfl⟩
    · obtain ⟨j, hLj, hjj, rfl⟩ := qin_nJ (x := c) (L := 0) (N := 95) (by decide) (by decide) h4
      obtain ⟨e, hLe, hje, rfl⟩ := qin_nJ (x := d) (L := 0) (N := 99) (by decide) (by decide) h11
      show V X (rmD 9 0 0) M 0 0 [(0, .ref md), (1, .int (nI j)), (2, .int (nI e))] 14 []
      refine v_aload_n C dX10_at_14 rfl ?_
      refine v_iload_n C dX10_at_15 rfl ?_
      refine v_bipush C dX10_at_16 (v := 12) rfl ?_
      refine v_irem C dX10_at_18 (by decide) ?_
      rw [cell_mod (c := j) (by omega)]
      show V X (rmD 9 0 0) M 0 0 [(0, .ref md), (1, .int (nI j)), (2, .int (nI e))] 19 [.int (nI (j % 12)), .ref md]
      refine v_iload_n C dX10_at_19 rfl ?_
      refine v_bipush C dX10_at_20 (v := 12) rfl ?_
      refine v_idiv C dX10_at_22 (by decide) ?_
      rw [cell_div (c := j) (by omega)]
      show V X (rmD 9 0 0) M 0 0 [(0, .ref md), (1, .int (nI j)), (2, .int (nI e))] 23 [.int (nI (j / 12)), .int (nI (j % 12)), .ref md]
      refine v_iload_n C dX10_at_23 rfl ?_
      refine v_callV (As := [.int (nI (j % 12)), .int (nI (j / 12)), .int (nI e)]) (rest := []) (b := md) C (c_X10_thingAt (xl X) (xg X) M md t1 t2 t3 t4 t5 t6 t7 t8 fT fD fP fC fS fU fX fF mo nT m dB nP pf cB nS sg ln tx fl hM ((j % 12)) ((j / 12)) e (by omega) (by omega) (by omega)) pm_X10_thingAt wI_X10_thingAt wS_X10_thingAt wM_X10_63 kX10 hO ⟨by decide, by decide⟩ ⟨by decide, by decide⟩ (nle rfl) dX10_at_24 rfl (dt1 ?_)
      show V X (rmD 9 0 0) M 0 0 [(0, .ref md), (1, .int (nI j)), (2, .int (nI e))] 27 [.int (oI (bst m ((j % 12)) ((j / 12)) e nT))]
      refine v_goto (tgt := 32) C dX10_at_27 (by decide) ?_
      exact v_iret C E dX10_at_32 (nle rfl) (nle rfl) ⟨by simp [aAt, h4, h11, nI_clamp (n := j) (by omega), nI_clamp (n := e) (by omega)], rfl⟩

set_option maxHeartbeats 4000000 in
set_option maxRecDepth 100000 in
theorem c_X10_shows (l : Launch) (g : Gm) (M : Mem) (md : Nat) (t1 t2 t3 t4 t5 t6 t7 t8 : Nat) (fT fD fP fC fS fU fX fF : Nat → Int32) (mo : Int32) (nT : Nat) (m : Nat → Nat → Nat) (dB : Nat → Nat → Bool) (nP : Nat) (pf : Nat → Nat → Nat) (cB : Nat → Nat → Bool) (nS : Nat) (sg : Nat → Int32) (ln : Nat → Nat) (tx : Nat → Nat → Int32) (fl : Nat → Nat → Nat) (hM : ModA g M md t1 t2 t3 t4 t5 t6 t7 t8 fT fD fP fC fS fU fX fF mo nT m dB nP pf cB nS sg ln tx fl) (p c : Int32) : Ct l g yX10_shows cX10_shows 3 (some .int) 9 0 0 [.ref md, .int p, .int c] M (fun v N => v = some (.int (aShows nT m nP pf cB p c)) ∧ N = M) := by
  refine Ct.of (by decide) (Nat.le_of_ble_eq_true rfl) ?_
  intro X hXl hXg hN C E
  subst hXl; subst hXg
  show V X (rmD 9 0 0) M 0 0 [(0, .ref md), (1, .int p), (2, .int c)] 0 []
  obtain ⟨hO, h1_, h2_, h3_, h4_, h5_, h6_, h7_, h8_, bT, bP, bS, okT_, cT, cD, okP_, cP, cC, cS, cU, bU_, cX, okX, okF_, cF⟩ := id hM
  rcases idx_cases nP (by omega) p with ⟨i, lt, rfl, hx⟩ | ⟨hn, hx⟩
  · have hzi := trivial
    show V X (rmD 9 0 0) M 0 0 [(0, .ref md), (1, .int (nI i)), (2, .int c)] 0 []
    refine v_aload_n C dX10_shows_0 rfl ?_
    refine v_iload_n C dX10_shows_1 rfl ?_
    refine v_callV (As := [.int (nI i)]) (rest := []) (b := md) C (c_X10_isPicture (xl X) (xg X) M md t1 t2 t3 t4 t5 t6 t7 t8 fT fD fP fC fS fU fX fF mo nT m dB nP pf cB nS sg ln tx fl hM (nI i)) pm_X10_isPicture wI_X10_isPicture wS_X10_isPicture wM_X10_67 kX10 hO ⟨by decide, by decide⟩ ⟨by decide, by decide⟩ (nle rfl) dX10_shows_2 rfl (dt1 ?_)
    show V X (rmD 9 0 0) M 0 0 [(0, .ref md), (1, .int (nI i)), (2, .int c)] 5 [.int (bI ((idx nP (nI i)).isSome))]
    refine v_ifb_ne (tgt := 10) C dX10_shows_5 (by decide) (fun h5 => ?_) (fun hbad => absurd hbad (by rw [hx]; simp))
    refine v_iload_n C dX10_shows_10 rfl ?_
    refine v_callS (As := [.int c]) (rest := []) C (c_X10_isCell (xl X) (xg X) c M) pm_X10_isCell wT_X10_isCell wM_X10_60 ⟨by decide, by decide⟩ ⟨by decide, by decide⟩ (nle rfl) dX10_shows_11 rfl (dt1 ?_)
    show V X (rmD 9 0 0) M 0 0 [(0, .ref md), (1, .int (nI i)), (2, .int c)] 14 [.int (bI (qin c 0 95))]
    refine v_ifb_eq (tgt := 26) C dX10_shows_14 (by decide) (fun h14 => ?_) (fun h14 => ?_)
    · refine v_bipush C dX10_shows_26 (v := (-2)) rfl ?_
      exact v_iret C E dX10_shows_28 (nle rfl) (nle rfl) ⟨by simp [aShows, hx, h14], rfl⟩
    · obtain ⟨j, hLj, hjj, rfl⟩ := qin_nJ (x := c) (L := 0) (N := 95) (by decide) (by decide) h14
      show V X (rmD 9 0 0) M 0 0 [(0, .ref md), (1, .int (nI i)), (2, .int (nI j))] 17 []
      refine v_aload_n C dX10_shows_17 rfl ?_
      refine v_iload_n C dX10_shows_18 rfl ?_
      refine v_iload_n C dX10_shows_19 rfl ?_
      refine v_callV (As := [.int (nI i), .int (nI j)]) (rest := []) (b := md) C (c_X10_showsOf (xl X) (xg X) M md t1 t2 t3 t4 t5 t6 t7 t8 fT fD fP fC fS fU fX fF mo nT m dB nP pf cB nS sg ln tx fl hM i j (by omega) (by omega)) pm_X10_showsOf wI_X10_showsOf wS_X10_showsOf wM_X10_73 kX10 hO ⟨by decide, by decide⟩ ⟨by decide, by decide⟩ (nle rfl) dX10_shows_20 rfl (dt1 ?_)
      show V X (rmD 9 0 0) M 0 0 [(0, .ref md), (1, .int (nI i)), (2, .int (nI j))] 23 [.int (seeI m nT (pf i) (cB i) j)]
      refine v_goto (tgt := 28) C dX10_shows_23 (by decide) ?_
      exact v_iret C E dX10_shows_28 (nle rfl) (nle rfl) ⟨by simp [aShows, hx, h14, nI_clamp (n := j) (by omega)], rfl⟩
  · have hzi := trivial
    show V X (rmD 9 0 0) M 0 0 [(0, .ref md), (1, .int p), (2, .int c)] 0 []
    refine v_aload_n C dX10_shows_0 rfl ?_
    refine v_iload_n C dX10_shows_1 rfl ?_
    refine v_callV (As := [.int p]) (rest := []) (b := md) C (c_X10_isPicture (xl X) (xg X) M md t1 t2 t3 t4 t5 t6 t7 t8 fT fD fP fC fS fU fX fF mo nT m dB nP pf cB nS sg ln tx fl hM p) pm_X10_isPicture wI_X10_isPicture wS_X10_isPicture wM_X10_67 kX10 hO ⟨by decide, by decide⟩ ⟨by decide, by decide⟩ (nle rfl) dX10_shows_2 rfl (dt1 ?_)
    show V X (rmD 9 0 0) M 0 0 [(0, .ref md), (1, .int p), (2, .int c)] 5 [.int (bI ((idx nP p).isSome))]
    refine v_ifb_ne (tgt := 10) C dX10_shows_5 (by decide) (fun hbad => absurd hbad (by rw [hx]; simp)) (fun h5 => ?_)
    refine v_iconst C dX10_shows_8 (v := (-1)) rfl ?_
    exact v_iret C E dX10_shows_9 (nle rfl) (nle rfl) ⟨by simp [aShows, hx], rfl⟩

theorem see_cases (m : Nat → Nat → Nat) (nT : Nat) (hok : ∀ t, t < nT → okM (m t)) (qf : Nat → Nat) (B : Nat → Bool) (c : Nat) : (covN qf B c = false ∧ seeI m nT qf B c = -6) ∨ (covN qf B c = true ∧ seeI m nT qf B c = nI (lookN m nT qf c) ∧ lookN m nT qf c ≤ 15) := by
  unfold seeI
  cases covN qf B c
  · exact Or.inl ⟨rfl, rfl⟩
  · exact Or.inr ⟨rfl, rfl, look_le hok _ _⟩
theorem cntB_s (p : Nat → Bool) (n : Nat) : cntB p (n + 1) = cntB p n + if p n then 1 else 0 := rfl
theorem sort_M (x : Int32) (h : x = -6 ∨ 0 ≤ x) : sortI x = if x < 0 then 0 else if x = 0 then 1 else if x = 1 then 2 else 3 := by
  unfold sortI
  rcases h with rfl | h
  · decide
  · rw [if_neg (Int32.not_lt.mpr h), if_neg (fun q => by rw [q] at h; exact absurd h (by decide))]
theorem see_0 {m : Nat → Nat → Nat} {nT : Nat} {hok : ∀ t, t < nT → okM (m t)} {qf : Nat → Nat} {B : Nat → Bool} {c : Nat} : seeI m nT qf B c = -6 ∨ 0 ≤ seeI m nT qf B c := by
  rcases see_cases m nT hok qf B c with ⟨-, h⟩ | ⟨-, h, h2⟩
  · exact Or.inl h
  · exact Or.inr (by rw [h]; exact Int32.not_lt.mp (nI_pos (by omega)))
set_option maxHeartbeats 4000000 in
set_option maxRecDepth 100000 in
theorem c_X10_count (l : Launch) (g : Gm) (M : Mem) (md : Nat) (t1 t2 t3 t4 t5 t6 t7 t8 : Nat) (fT fD fP fC fS fU fX fF : Nat → Int32) (mo : Int32) (nT : Nat) (m : Nat → Nat → Nat) (dB : Nat → Nat → Bool) (nP : Nat) (pf : Nat → Nat → Nat) (cB : Nat → Nat → Bool) (nS : Nat) (sg : Nat → Int32) (ln : Nat → Nat) (tx : Nat → Nat → Int32) (fl : Nat → Nat → Nat) (hM : ModA g M md t1 t2 t3 t4 t5 t6 t7 t8 fT fD fP fC fS fU fX fF mo nT m dB nP pf cB nS sg ln tx fl) (p z : Int32) : Ct l g yX10_count cX10_count 7 (some .int) 9 0 0 [.ref md, .int p, .int z] M (fun v N => v = some (.int (aCount nT m nP pf cB p z)) ∧ N = M) := by
  refine Ct.of (by decide) (Nat.le_of_ble_eq_true rfl) ?_
  intro X hXl hXg hN C E
  subst hXl; subst hXg
  show V X (rmD 9 0 0) M 0 0 [(0, .ref md), (1, .int p), (2, .int z)] 0 []
  obtain ⟨hO, h1_, h2_, h3_, h4_, h5_, h6_, h7_, h8_, bT, bP, bS, okT_, cT, cD, okP_, cP, cC, cS, cU, bU_, cX, okX, okF_, cF⟩ := id hM
  rcases idx_cases nP (by omega) p with ⟨i, lt, rfl, hx⟩ | ⟨hn, hx⟩
  · have hzi := trivial
    show V X (rmD 9 0 0) M 0 0 [(0, .ref md), (1, .int (nI i)), (2, .int z)] 0 []
    refine v_aload_n C dX10_count_0 rfl ?_
    refine v_iload_n C dX10_count_1 rfl ?_
    refine v_callV (As := [.int (nI i)]) (rest := []) (b := md) C (c_X10_isPicture (xl X) (xg X) M md t1 t2 t3 t4 t5 t6 t7 t8 fT fD fP fC fS fU fX fF mo nT m dB nP pf cB nS sg ln tx fl hM (nI i)) pm_X10_isPicture wI_X10_isPicture wS_X10_isPicture wM_X10_67 kX10 hO ⟨by decide, by decide⟩ ⟨by decide, by decide⟩ (nle rfl) dX10_count_2 rfl (dt1 ?_)
    show V X (rmD 9 0 0) M 0 0 [(0, .ref md), (1, .int (nI i)), (2, .int z)] 5 [.int (bI ((idx nP (nI i)).isSome))]
    refine v_ifb_ne (tgt := 10) C dX10_count_5 (by decide) (fun h5 => ?_) (fun hbad => absurd hbad (by rw [hx]; simp))
    refine v_iload_n C dX10_count_10 rfl ?_
    refine v_iconst C dX10_count_11 (v := 0) rfl ?_
    refine v_iconst C dX10_count_12 (v := 3) rfl ?_
    refine v_callS (As := [.int z, .int 0, .int 3]) (rest := []) C (c_X10_in (xl X) (xg X) z 0 3 M) pm_X10_in wT_X10_in wM_X10_35 ⟨by decide, by decide⟩ ⟨by decide, by decide⟩ (nle rfl) dX10_count_13 rfl (dt1 ?_)
    show V X (rmD 9 0 0) M 0 0 [(0, .ref md), (1, .int (nI i)), (2, .int z)] 16 [.int (bI (qin z 0 3))]
    refine v_ifb_ne (tgt := 22) C dX10_count_16 (by decide) (fun h16 => ?_) (fun h16 => ?_)
    · obtain ⟨q, hLq, hjq, rfl⟩ := qin_nJ (x := z) (L := 0) (N := 3) (by decide) (by decide) h16
      show V X (rmD 9 0 0) M 0 0 [(0, .ref md), (1, .int (nI i)), (2, .int (nI q))] 22 []
      refine v_iconst C dX10_count_22 (v := 0) rfl ?_
      refine v_istore_n (lv' := [(3, .int 0), (0, .ref md), (1, .int (nI i)), (2, .int (nI q))]) C dX10_count_23 hN (by decide) rfl ?_
      refine v_iconst C dX10_count_24 (v := 0) rfl ?_
      refine v_istore (lv' := [(4, .int 0), (3, .int 0), (0, .ref md), (1, .int (nI i)), (2, .int (nI q))]) C dX10_count_25 hN (by decide) rfl ?_
      refine v_sub (lv' := [(0, .ref md), (1, .int (nI i)), (2, .int (nI q)), (3, .int 0), (4, .int 0)]) [2, 3, 4, 1, 0] rfl ?_
      have lp27 : ∀ (mm : Nat) (j : Nat) (h1 : j ≤ 96), 96 - j < mm → V X (rmD 9 0 0) M 0 0 [(0, .ref md), (1, .int (nI i)), (2, .int (nI q)), (3, .int (nI (cntB (fun c => decide (sortI (seeI m nT (pf i) (cB i) c) = nI q)) j))), (4, .int (nI j))] 27 [] := by
        intro mm
        induction mm with
        | zero => intro j h1 hmu; exact absurd hmu (Nat.not_lt_zero _)
        | succ mm ih27 =>
          intro j h1 hmu
          refine v_iload C dX10_count_27 rfl ?_
          refine v_bipush C dX10_count_29 (v := 96) rfl ?_
          refine v_icmp_ge (tgt := 94) C dX10_count_31 (by decide) (fun h31 => ?_) (fun h31 => ?_)
          · refine v_iload_n C dX10_count_94 rfl ?_
            exact v_iret C E dX10_count_95 (nle rfl) (nle rfl) ⟨by simp only [aCount, hx, h16, if_true]; rw [show j = 96 from Nat.le_antisymm h1 (nI_leN (a := 96) (by decide) (by omega) h31)], rfl⟩
          · have g31 := nI_nleN (a := 96) (by decide) (by omega) h31
            refine v_aload_n C dX10_count_34 rfl ?_
            refine v_iload_n C dX10_count_35 rfl ?_
            refine v_iload C dX10_count_36 rfl ?_
            refine v_callV (As := [.int (nI i), .int (nI j)]) (rest := []) (b := md) C (c_X10_showsOf (xl X) (xg X) M md t1 t2 t3 t4 t5 t6 t7 t8 fT fD fP fC fS fU fX fF mo nT m dB nP pf cB nS sg ln tx fl hM i j (by omega) (by omega)) pm_X10_showsOf wI_X10_showsOf wS_X10_showsOf wM_X10_73 kX10 hO ⟨by decide, by decide⟩ ⟨by decide, by decide⟩ (nle rfl) dX10_count_38 rfl (dt1 ?_)
            show V X (rmD 9 0 0) M 0 0 [(0, .ref md), (1, .int (nI i)), (2, .int (nI q)), (3, .int (nI (cntB (fun c => decide (sortI (seeI m nT (pf i) (cB i) c) = nI q)) j))), (4, .int (nI j))] 41 [.int (seeI m nT (pf i) (cB i) j)]
            refine v_istore (lv' := [(5, .int (seeI m nT (pf i) (cB i) j)), (0, .ref md), (1, .int (nI i)), (2, .int (nI q)), (3, .int (nI (cntB (fun c => decide (sortI (seeI m nT (pf i) (cB i) c) = nI q)) j))), (4, .int (nI j))]) C dX10_count_41 hN (by decide) rfl ?_
            refine v_iload C dX10_count_43 rfl ?_
            refine v_if_ge (tgt := 52) C dX10_count_45 (by decide) (fun h45 => ?_) (fun h45 => ?_)
            · refine v_iload C dX10_count_52 rfl ?_
              refine v_if_ne (tgt := 61) C dX10_count_54 (by decide) (fun h54 => ?_) (fun h54 => ?_)
              · refine v_iload C dX10_count_61 rfl ?_
                refine v_iconst C dX10_count_63 (v := 1) rfl ?_
                refine v_icmp_ne (tgt := 71) C dX10_count_64 (by decide) (fun h64 => ?_) (fun h64 => ?_)
                · refine v_iconst C dX10_count_71 (v := 3) rfl ?_
                  refine v_istore (lv' := [(6, .int 3), (5, .int (seeI m nT (pf i) (cB i) j)), (0, .ref md), (1, .int (nI i)), (2, .int (nI q)), (3, .int (nI (cntB (fun c => decide (sortI (seeI m nT (pf i) (cB i) c) = nI q)) j))), (4, .int (nI j))]) C dX10_count_72 hN (by decide) rfl ?_
                  have hs : sortI (seeI m nT (pf i) (cB i) j) = 3 := by rw [sort_M _ (see_0 (hok := okT_))]; first | rw [if_pos (Int32.not_le.mp h45)] | rw [if_neg (Int32.not_lt.mpr h45), if_pos h54] | rw [if_neg (Int32.not_lt.mpr h45), if_neg h54, if_pos h64] | rw [if_neg (Int32.not_lt.mpr h45), if_neg h54, if_neg h64]
                  refine v_iload_n C dX10_count_74 rfl ?_
                  refine v_iload C dX10_count_75 rfl ?_
                  refine v_iload_n C dX10_count_77 rfl ?_
                  refine v_icmp_ne (tgt := 85) C dX10_count_78 (by decide) (fun h78 => ?_) (fun h78 => ?_)
                  · refine v_iconst C dX10_count_85 (v := 0) rfl ?_
                    refine v_iadd C dX10_count_86 ?_
                    rw [show nI (cntB (fun c => decide (sortI (seeI m nT (pf i) (cB i) c) = nI q)) j) + 0 = nI (cntB (fun c => decide (sortI (seeI m nT (pf i) (cB i) c) = nI q)) (j + 1)) by rw [cntB_s, show decide (sortI (seeI m nT (pf i) (cB i) j) = nI q) = false from decide_eq_false (by rw [hs]; exact h78)]; exact ix_ad (b := 0) rfl rfl]
                    show V X (rmD 9 0 0) M 0 0 [(6, .int 3), (5, .int (seeI m nT (pf i) (cB i) j)), (0, .ref md), (1, .int (nI i)), (2, .int (nI q)), (3, .int (nI (cntB (fun c => decide (sortI (seeI m nT (pf i) (cB i) c) = nI q)) j))), (4, .int (nI j))] 87 [.int (nI (cntB (fun c => decide (sortI (seeI m nT (pf i) (cB i) c) = nI q)) (j + 1)))]
                    refine v_istore_n (lv' := [(3, .int (nI (cntB (fun c => decide (sortI (seeI m nT (pf i) (cB i) c) = nI q)) (j + 1)))), (6, .int 3), (5, .int (seeI m nT (pf i) (cB i) j)), (0, .ref md), (1, .int (nI i)), (2, .int (nI q)), (4, .int (nI j))]) C dX10_count_87 hN (by decide) rfl ?_
                    refine v_iinc (lv' := [(4, .int (nI (j + 1))), (3, .int (nI (cntB (fun c => decide (sortI (seeI m nT (pf i) (cB i) c) = nI q)) (j + 1)))), (6, .int 3), (5, .int (seeI m nT (pf i) (cB i) j)), (0, .ref md), (1, .int (nI i)), (2, .int (nI q))]) C dX10_count_88 6 rfl (nI_1 _) hN (by decide) rfl ?_
                    refine v_goto (tgt := 27) C dX10_count_91 (by decide) ?_
                    refine v_sub (lv' := [(0, .ref md), (1, .int (nI i)), (2, .int (nI q)), (3, .int (nI (cntB (fun c => decide (sortI (seeI m nT (pf i) (cB i) c) = nI q)) (j + 1)))), (4, .int (nI (j + 1)))]) [4, 5, 6, 1, 0] rfl ?_
                    exact ih27 (j + 1) (by omega) (by omega)
                  · refine v_iconst C dX10_count_81 (v := 1) rfl ?_
                    refine v_goto (tgt := 86) C dX10_count_82 (by decide) ?_
                    refine v_iadd C dX10_count_86 ?_
                    rw [show nI (cntB (fun c => decide (sortI (seeI m nT (pf i) (cB i) c) = nI q)) j) + 1 = nI (cntB (fun c => decide (sortI (seeI m nT (pf i) (cB i) c) = nI q)) (j + 1)) by rw [cntB_s, show decide (sortI (seeI m nT (pf i) (cB i) j) = nI q) = true from decide_eq_true (by rw [hs]; exact h78)]; exact nI_1 _]
                    show V X (rmD 9 0 0) M 0 0 [(6, .int 3), (5, .int (seeI m nT (pf i) (cB i) j)), (0, .ref md), (1, .int (nI i)), (2, .int (nI q)), (3, .int (nI (cntB (fun c => decide (sortI (seeI m nT (pf i) (cB i) c) = nI q)) j))), (4, .int (nI j))] 87 [.int (nI (cntB (fun c => decide (sortI (seeI m nT (pf i) (cB i) c) = nI q)) (j + 1)))]
                    refine v_istore_n (lv' := [(3, .int (nI (cntB (fun c => decide (sortI (seeI m nT (pf i) (cB i) c) = nI q)) (j + 1)))), (6, .int 3), (5, .int (seeI m nT (pf i) (cB i) j)), (0, .ref md), (1, .int (nI i)), (2, .int (nI q)), (4, .int (nI j))]) C dX10_count_87 hN (by decide) rfl ?_
                    refine v_iinc (lv' := [(4, .int (nI (j + 1))), (3, .int (nI (cntB (fun c => decide (sortI (seeI m nT (pf i) (cB i) c) = nI q)) (j + 1)))), (6, .int 3), (5, .int (seeI m nT (pf i) (cB i) j)), (0, .ref md), (1, .int (nI i)), (2, .int (nI q))]) C dX10_count_88 6 rfl (nI_1 _) hN (by decide) rfl ?_
                    refine v_goto (tgt := 27) C dX10_count_91 (by decide) ?_
                    refine v_sub (lv' := [(0, .ref md), (1, .int (nI i)), (2, .int (nI q)), (3, .int (nI (cntB (fun c => decide (sortI (seeI m nT (pf i) (cB i) c) = nI q)) (j + 1)))), (4, .int (nI (j + 1)))]) [4, 5, 6, 1, 0] rfl ?_
                    exact ih27 (j + 1) (by omega) (by omega)
                · refine v_iconst C dX10_count_67 (v := 2) rfl ?_
                  refine v_goto (tgt := 72) C dX10_count_68 (by decide) ?_
                  refine v_istore (lv' := [(6, .int 2), (5, .int (seeI m nT (pf i) (cB i) j)), (0, .ref md), (1, .int (nI i)), (2, .int (nI q)), (3, .int (nI (cntB (fun c => decide (sortI (seeI m nT (pf i) (cB i) c) = nI q)) j))), (4, .int (nI j))]) C dX10_count_72 hN (by decide) rfl ?_
                  have hs : sortI (seeI m nT (pf i) (cB i) j) = 2 := by rw [sort_M _ (see_0 (hok := okT_))]; first | rw [if_pos (Int32.not_le.mp h45)] | rw [if_neg (Int32.not_lt.mpr h45), if_pos h54] | rw [if_neg (Int32.not_lt.mpr h45), if_neg h54, if_pos h64] | rw [if_neg (Int32.not_lt.mpr h45), if_neg h54, if_neg h64]
                  refine v_iload_n C dX10_count_74 rfl ?_
                  refine v_iload C dX10_count_75 rfl ?_
                  refine v_iload_n C dX10_count_77 rfl ?_
                  refine v_icmp_ne (tgt := 85) C dX10_count_78 (by decide) (fun h78 => ?_) (fun h78 => ?_)
                  · refine v_iconst C dX10_count_85 (v := 0) rfl ?_
                    refine v_iadd C dX10_count_86 ?_
                    rw [show nI (cntB (fun c => decide (sortI (seeI m nT (pf i) (cB i) c) = nI q)) j) + 0 = nI (cntB (fun c => decide (sortI (seeI m nT (pf i) (cB i) c) = nI q)) (j + 1)) by rw [cntB_s, show decide (sortI (seeI m nT (pf i) (cB i) j) = nI q) = false from decide_eq_false (by rw [hs]; exact h78)]; exact ix_ad (b := 0) rfl rfl]
                    show V X (rmD 9 0 0) M 0 0 [(6, .int 2), (5, .int (seeI m nT (pf i) (cB i) j)), (0, .ref md), (1, .int (nI i)), (2, .int (nI q)), (3, .int (nI (cntB (fun c => decide (sortI (seeI m nT (pf i) (cB i) c) = nI q)) j))), (4, .int (nI j))] 87 [.int (nI (cntB (fun c => decide (sortI (seeI m nT (pf i) (cB i) c) = nI q)) (j + 1)))]
                    refine v_istore_n (lv' := [(3, .int (nI (cntB (fun c => decide (sortI (seeI m nT (pf i) (cB i) c) = nI q)) (j + 1)))), (6, .int 2), (5, .int (seeI m nT (pf i) (cB i) j)), (0, .ref md), (1, .int (nI i)), (2, .int (nI q)), (4, .int (nI j))]) C dX10_count_87 hN (by decide) rfl ?_
                    refine v_iinc (lv' := [(4, .int (nI (j + 1))), (3, .int (nI (cntB (fun c => decide (sortI (seeI m nT (pf i) (cB i) c) = nI q)) (j + 1)))), (6, .int 2), (5, .int (seeI m nT (pf i) (cB i) j)), (0, .ref md), (1, .int (nI i)), (2, .int (nI q))]) C dX10_count_88 6 rfl (nI_1 _) hN (by decide) rfl ?_
                    refine v_goto (tgt := 27) C dX10_count_91 (by decide) ?_
                    refine v_sub (lv' := [(0, .ref md), (1, .int (nI i)), (2, .int (nI q)), (3, .int (nI (cntB (fun c => decide (sortI (seeI m nT (pf i) (cB i) c) = nI q)) (j + 1)))), (4, .int (nI (j + 1)))]) [4, 5, 6, 1, 0] rfl ?_
                    exact ih27 (j + 1) (by omega) (by omega)
                  · refine v_iconst C dX10_count_81 (v := 1) rfl ?_
                    refine v_goto (tgt := 86) C dX10_count_82 (by decide) ?_
                    refine v_iadd C dX10_count_86 ?_
                    rw [show nI (cntB (fun c => decide (sortI (seeI m nT (pf i) (cB i) c) = nI q)) j) + 1 = nI (cntB (fun c => decide (sortI (seeI m nT (pf i) (cB i) c) = nI q)) (j + 1)) by rw [cntB_s, show decide (sortI (seeI m nT (pf i) (cB i) j) = nI q) = true from decide_eq_true (by rw [hs]; exact h78)]; exact nI_1 _]
                    show V X (rmD 9 0 0) M 0 0 [(6, .int 2), (5, .int (seeI m nT (pf i) (cB i) j)), (0, .ref md), (1, .int (nI i)), (2, .int (nI q)), (3, .int (nI (cntB (fun c => decide (sortI (seeI m nT (pf i) (cB i) c) = nI q)) j))), (4, .int (nI j))] 87 [.int (nI (cntB (fun c => decide (sortI (seeI m nT (pf i) (cB i) c) = nI q)) (j + 1)))]
                    refine v_istore_n (lv' := [(3, .int (nI (cntB (fun c => decide (sortI (seeI m nT (pf i) (cB i) c) = nI q)) (j + 1)))), (6, .int 2), (5, .int (seeI m nT (pf i) (cB i) j)), (0, .ref md), (1, .int (nI i)), (2, .int (nI q)), (4, .int (nI j))]) C dX10_count_87 hN (by decide) rfl ?_
                    refine v_iinc (lv' := [(4, .int (nI (j + 1))), (3, .int (nI (cntB (fun c => decide (sortI (seeI m nT (pf i) (cB i) c) = nI q)) (j + 1)))), (6, .int 2), (5, .int (seeI m nT (pf i) (cB i) j)), (0, .ref md), (1, .int (nI i)), (2, .int (nI q))]) C dX10_count_88 6 rfl (nI_1 _) hN (by decide) rfl ?_
                    refine v_goto (tgt := 27) C dX10_count_91 (by decide) ?_
                    refine v_sub (lv' := [(0, .ref md), (1, .int (nI i)), (2, .int (nI q)), (3, .int (nI (cntB (fun c => decide (sortI (seeI m nT (pf i) (cB i) c) = nI q)) (j + 1)))), (4, .int (nI (j + 1)))]) [4, 5, 6, 1, 0] rfl ?_
                    exact ih27 (j + 1) (by omega) (by omega)
              · refine v_iconst C dX10_count_57 (v := 1) rfl ?_
                refine v_goto (tgt := 72) C dX10_count_58 (by decide) ?_
                refine v_istore (lv' := [(6, .int 1), (5, .int (seeI m nT (pf i) (cB i) j)), (0, .ref md), (1, .int (nI i)), (2, .int (nI q)), (3, .int (nI (cntB (fun c => decide (sortI (seeI m nT (pf i) (cB i) c) = nI q)) j))), (4, .int (nI j))]) C dX10_count_72 hN (by decide) rfl ?_
                have hs : sortI (seeI m nT (pf i) (cB i) j) = 1 := by rw [sort_M _ (see_0 (hok := okT_))]; first | rw [if_pos (Int32.not_le.mp h45)] | rw [if_neg (Int32.not_lt.mpr h45), if_pos h54] | rw [if_neg (Int32.not_lt.mpr h45), if_neg h54, if_pos h64] | rw [if_neg (Int32.not_lt.mpr h45), if_neg h54, if_neg h64]
                refine v_iload_n C dX10_count_74 rfl ?_
                refine v_iload C dX10_count_75 rfl ?_
                refine v_iload_n C dX10_count_77 rfl ?_
                refine v_icmp_ne (tgt := 85) C dX10_count_78 (by decide) (fun h78 => ?_) (fun h78 => ?_)
                · refine v_iconst C dX10_count_85 (v := 0) rfl ?_
                  refine v_iadd C dX10_count_86 ?_
                  rw [show nI (cntB (fun c => decide (sortI (seeI m nT (pf i) (cB i) c) = nI q)) j) + 0 = nI (cntB (fun c => decide (sortI (seeI m nT (pf i) (cB i) c) = nI q)) (j + 1)) by rw [cntB_s, show decide (sortI (seeI m nT (pf i) (cB i) j) = nI q) = false from decide_eq_false (by rw [hs]; exact h78)]; exact ix_ad (b := 0) rfl rfl]
                  show V X (rmD 9 0 0) M 0 0 [(6, .int 1), (5, .int (seeI m nT (pf i) (cB i) j)), (0, .ref md), (1, .int (nI i)), (2, .int (nI q)), (3, .int (nI (cntB (fun c => decide (sortI (seeI m nT (pf i) (cB i) c) = nI q)) j))), (4, .int (nI j))] 87 [.int (nI (cntB (fun c => decide (sortI (seeI m nT (pf i) (cB i) c) = nI q)) (j + 1)))]
                  refine v_istore_n (lv' := [(3, .int (nI (cntB (fun c => decide (sortI (seeI m nT (pf i) (cB i) c) = nI q)) (j + 1)))), (6, .int 1), (5, .int (seeI m nT (pf i) (cB i) j)), (0, .ref md), (1, .int (nI i)), (2, .int (nI q)), (4, .int (nI j))]) C dX10_count_87 hN (by decide) rfl ?_
                  refine v_iinc (lv' := [(4, .int (nI (j + 1))), (3, .int (nI (cntB (fun c => decide (sortI (seeI m nT (pf i) (cB i) c) = nI q)) (j + 1)))), (6, .int 1), (5, .int (seeI m nT (pf i) (cB i) j)), (0, .ref md), (1, .int (nI i)), (2, .int (nI q))]) C dX10_count_88 6 rfl (nI_1 _) hN (by decide) rfl ?_
                  refine v_goto (tgt := 27) C dX10_count_91 (by decide) ?_
                  refine v_sub (lv' := [(0, .ref md), (1, .int (nI i)), (2, .int (nI q)), (3, .int (nI (cntB (fun c => decide (sortI (seeI m nT (pf i) (cB i) c) = nI q)) (j + 1)))), (4, .int (nI (j + 1)))]) [4, 5, 6, 1, 0] rfl ?_
                  exact ih27 (j + 1) (by omega) (by omega)
                · refine v_iconst C dX10_count_81 (v := 1) rfl ?_
                  refine v_goto (tgt := 86) C dX10_count_82 (by decide) ?_
                  refine v_iadd C dX10_count_86 ?_
                  rw [show nI (cntB (fun c => decide (sortI (seeI m nT (pf i) (cB i) c) = nI q)) j) + 1 = nI (cntB (fun c => decide (sortI (seeI m nT (pf i) (cB i) c) = nI q)) (j + 1)) by rw [cntB_s, show decide (sortI (seeI m nT (pf i) (cB i) j) = nI q) = true from decide_eq_true (by rw [hs]; exact h78)]; exact nI_1 _]
                  show V X (rmD 9 0 0) M 0 0 [(6, .int 1), (5, .int (seeI m nT (pf i) (cB i) j)), (0, .ref md), (1, .int (nI i)), (2, .int (nI q)), (3, .int (nI (cntB (fun c => decide (sortI (seeI m nT (pf i) (cB i) c) = nI q)) j))), (4, .int (nI j))] 87 [.int (nI (cntB (fun c => decide (sortI (seeI m nT (pf i) (cB i) c) = nI q)) (j + 1)))]
                  refine v_istore_n (lv' := [(3, .int (nI (cntB (fun c => decide (sortI (seeI m nT (pf i) (cB i) c) = nI q)) (j + 1)))), (6, .int 1), (5, .int (seeI m nT (pf i) (cB i) j)), (0, .ref md), (1, .int (nI i)), (2, .int (nI q)), (4, .int (nI j))]) C dX10_count_87 hN (by decide) rfl ?_
                  refine v_iinc (lv' := [(4, .int (nI (j + 1))), (3, .int (nI (cntB (fun c => decide (sortI (seeI m nT (pf i) (cB i) c) = nI q)) (j + 1)))), (6, .int 1), (5, .int (seeI m nT (pf i) (cB i) j)), (0, .ref md), (1, .int (nI i)), (2, .int (nI q))]) C dX10_count_88 6 rfl (nI_1 _) hN (by decide) rfl ?_
                  refine v_goto (tgt := 27) C dX10_count_91 (by decide) ?_
                  refine v_sub (lv' := [(0, .ref md), (1, .int (nI i)), (2, .int (nI q)), (3, .int (nI (cntB (fun c => decide (sortI (seeI m nT (pf i) (cB i) c) = nI q)) (j + 1)))), (4, .int (nI (j + 1)))]) [4, 5, 6, 1, 0] rfl ?_
                  exact ih27 (j + 1) (by omega) (by omega)
            · refine v_iconst C dX10_count_48 (v := 0) rfl ?_
              refine v_goto (tgt := 72) C dX10_count_49 (by decide) ?_
              refine v_istore (lv' := [(6, .int 0), (5, .int (seeI m nT (pf i) (cB i) j)), (0, .ref md), (1, .int (nI i)), (2, .int (nI q)), (3, .int (nI (cntB (fun c => decide (sortI (seeI m nT (pf i) (cB i) c) = nI q)) j))), (4, .int (nI j))]) C dX10_count_72 hN (by decide) rfl ?_
              have hs : sortI (seeI m nT (pf i) (cB i) j) = 0 := by rw [sort_M _ (see_0 (hok := okT_))]; first | rw [if_pos (Int32.not_le.mp h45)] | rw [if_neg (Int32.not_lt.mpr h45), if_pos h54] | rw [if_neg (Int32.not_lt.mpr h45), if_neg h54, if_pos h64] | rw [if_neg (Int32.not_lt.mpr h45), if_neg h54, if_neg h64]
              refine v_iload_n C dX10_count_74 rfl ?_
              refine v_iload C dX10_count_75 rfl ?_
              refine v_iload_n C dX10_count_77 rfl ?_
              refine v_icmp_ne (tgt := 85) C dX10_count_78 (by decide) (fun h78 => ?_) (fun h78 => ?_)
              · refine v_iconst C dX10_count_85 (v := 0) rfl ?_
                refine v_iadd C dX10_count_86 ?_
                rw [show nI (cntB (fun c => decide (sortI (seeI m nT (pf i) (cB i) c) = nI q)) j) + 0 = nI (cntB (fun c => decide (sortI (seeI m nT (pf i) (cB i) c) = nI q)) (j + 1)) by rw [cntB_s, show decide (sortI (seeI m nT (pf i) (cB i) j) = nI q) = false from decide_eq_false (by rw [hs]; exact h78)]; exact ix_ad (b := 0) rfl rfl]
                show V X (rmD 9 0 0) M 0 0 [(6, .int 0), (5, .int (seeI m nT (pf i) (cB i) j)), (0, .ref md), (1, .int (nI i)), (2, .int (nI q)), (3, .int (nI (cntB (fun c => decide (sortI (seeI m nT (pf i) (cB i) c) = nI q)) j))), (4, .int (nI j))] 87 [.int (nI (cntB (fun c => decide (sortI (seeI m nT (pf i) (cB i) c) = nI q)) (j + 1)))]
                refine v_istore_n (lv' := [(3, .int (nI (cntB (fun c => decide (sortI (seeI m nT (pf i) (cB i) c) = nI q)) (j + 1)))), (6, .int 0), (5, .int (seeI m nT (pf i) (cB i) j)), (0, .ref md), (1, .int (nI i)), (2, .int (nI q)), (4, .int (nI j))]) C dX10_count_87 hN (by decide) rfl ?_
                refine v_iinc (lv' := [(4, .int (nI (j + 1))), (3, .int (nI (cntB (fun c => decide (sortI (seeI m nT (pf i) (cB i) c) = nI q)) (j + 1)))), (6, .int 0), (5, .int (seeI m nT (pf i) (cB i) j)), (0, .ref md), (1, .int (nI i)), (2, .int (nI q))]) C dX10_count_88 6 rfl (nI_1 _) hN (by decide) rfl ?_
                refine v_goto (tgt := 27) C dX10_count_91 (by decide) ?_
                refine v_sub (lv' := [(0, .ref md), (1, .int (nI i)), (2, .int (nI q)), (3, .int (nI (cntB (fun c => decide (sortI (seeI m nT (pf i) (cB i) c) = nI q)) (j + 1)))), (4, .int (nI (j + 1)))]) [4, 5, 6, 1, 0] rfl ?_
                exact ih27 (j + 1) (by omega) (by omega)
              · refine v_iconst C dX10_count_81 (v := 1) rfl ?_
                refine v_goto (tgt := 86) C dX10_count_82 (by decide) ?_
                refine v_iadd C dX10_count_86 ?_
                rw [show nI (cntB (fun c => decide (sortI (seeI m nT (pf i) (cB i) c) = nI q)) j) + 1 = nI (cntB (fun c => decide (sortI (seeI m nT (pf i) (cB i) c) = nI q)) (j + 1)) by rw [cntB_s, show decide (sortI (seeI m nT (pf i) (cB i) j) = nI q) = true from decide_eq_true (by rw [hs]; exact h78)]; exact nI_1 _]
                show V X (rmD 9 0 0) M 0 0 [(6, .int 0), (5, .int (seeI m nT (pf i) (cB i) j)), (0, .ref md), (1, .int (nI i)), (2, .int (nI q)), (3, .int (nI (cntB (fun c => decide (sortI (seeI m nT (pf i) (cB i) c) = nI q)) j))), (4, .int (nI j))] 87 [.int (nI (cntB (fun c => decide (sortI (seeI m nT (pf i) (cB i) c) = nI q)) (j + 1)))]
                refine v_istore_n (lv' := [(3, .int (nI (cntB (fun c => decide (sortI (seeI m nT (pf i) (cB i) c) = nI q)) (j + 1)))), (6, .int 0), (5, .int (seeI m nT (pf i) (cB i) j)), (0, .ref md), (1, .int (nI i)), (2, .int (nI q)), (4, .int (nI j))]) C dX10_count_87 hN (by decide) rfl ?_
                refine v_iinc (lv' := [(4, .int (nI (j + 1))), (3, .int (nI (cntB (fun c => decide (sortI (seeI m nT (pf i) (cB i) c) = nI q)) (j + 1)))), (6, .int 0), (5, .int (seeI m nT (pf i) (cB i) j)), (0, .ref md), (1, .int (nI i)), (2, .int (nI q))]) C dX10_count_88 6 rfl (nI_1 _) hN (by decide) rfl ?_
                refine v_goto (tgt := 27) C dX10_count_91 (by decide) ?_
                refine v_sub (lv' := [(0, .ref md), (1, .int (nI i)), (2, .int (nI q)), (3, .int (nI (cntB (fun c => decide (sortI (seeI m nT (pf i) (cB i) c) = nI q)) (j + 1)))), (4, .int (nI (j + 1)))]) [4, 5, 6, 1, 0] rfl ?_
                exact ih27 (j + 1) (by omega) (by omega)
      exact lp27 (_ + 1) 0 (Nat.zero_le _) (Nat.lt_succ_self _)
    · refine v_bipush C dX10_count_19 (v := (-2)) rfl ?_
      exact v_iret C E dX10_count_21 (nle rfl) (nle rfl) ⟨by simp [aCount, hx, h16], rfl⟩
  · have hzi := trivial
    show V X (rmD 9 0 0) M 0 0 [(0, .ref md), (1, .int p), (2, .int z)] 0 []
    refine v_aload_n C dX10_count_0 rfl ?_
    refine v_iload_n C dX10_count_1 rfl ?_
    refine v_callV (As := [.int p]) (rest := []) (b := md) C (c_X10_isPicture (xl X) (xg X) M md t1 t2 t3 t4 t5 t6 t7 t8 fT fD fP fC fS fU fX fF mo nT m dB nP pf cB nS sg ln tx fl hM p) pm_X10_isPicture wI_X10_isPicture wS_X10_isPicture wM_X10_67 kX10 hO ⟨by decide, by decide⟩ ⟨by decide, by decide⟩ (nle rfl) dX10_count_2 rfl (dt1 ?_)
    show V X (rmD 9 0 0) M 0 0 [(0, .ref md), (1, .int p), (2, .int z)] 5 [.int (bI ((idx nP p).isSome))]
    refine v_ifb_ne (tgt := 10) C dX10_count_5 (by decide) (fun hbad => absurd hbad (by rw [hx]; simp)) (fun h5 => ?_)
    refine v_iconst C dX10_count_8 (v := (-1)) rfl ?_
    exact v_iret C E dX10_count_9 (nle rfl) (nle rfl) ⟨by simp [aCount, hx], rfl⟩

theorem fstB_s (p : Nat → Bool) (n : Nat) : fstB p (n + 1) = match fstB p n with
    | some k => some k
    | none => if p n then some n else none := rfl
theorem lstB_s (p : Nat → Bool) (n : Nat) : lstB p (n + 1) = if p n then some n else lstB p n := rfl
/-- the end that is asked for: the first or the last -/
def endB (p : Nat → Bool) (e n : Nat) : Option Nat := if e = 0 then fstB p n else lstB p n
theorem fstB_none_lst {p : Nat → Bool} : ∀ {n : Nat}, fstB p n = none → lstB p n = none
  | 0, _ => rfl
  | n + 1, h => by
    rw [fstB_s] at h
    rw [lstB_s]
    cases hf : fstB p n with
    | some k => rw [hf] at h; cases h
    | none =>
      rw [hf] at h
      simp only at h
      cases hp : p n with
      | true => rw [hp] at h; cases h
      | false => simpa using fstB_none_lst hf
theorem sucI_neg {o : Option Nat} (h : ∀ k, o = some k → k < 1000) : sucI o < 0 ↔ o = none := by
  cases o with
  | none => exact ⟨fun _ => rfl, fun _ => by decide⟩
  | some k => exact ⟨fun q => absurd q (nI_pos (n := k + 1) (by have := h k rfl; omega)), fun q => by cases q⟩
theorem fstB_lt {p : Nat → Bool} : ∀ {n k : Nat}, fstB p n = some k → k < n
  | 0, k, h => by cases h
  | n + 1, k, h => by
    rw [fstB_s] at h
    cases hf : fstB p n with
    | some j => rw [hf] at h; cases h; have := fstB_lt hf; omega
    | none =>
      rw [hf] at h
      simp only at h
      split at h
      · cases h; omega
      · cases h
theorem lstB_lt {p : Nat → Bool} : ∀ {n k : Nat}, lstB p n = some k → k < n
  | 0, k, h => by cases h
  | n + 1, k, h => by
    rw [lstB_s] at h
    split at h
    · cases h; omega
    · have := lstB_lt h; omega
theorem endB_lt {p : Nat → Bool} {e n k : Nat} (h : endB p e n = some k) : k < n := by
  unfold endB at h
  split at h
  · exact fstB_lt h
  · exact lstB_lt h
theorem endB_no {p : Nat → Bool} {e n : Nat} (h : p n = false) : endB p e (n + 1) = endB p e n := by
  unfold endB
  rw [fstB_s, lstB_s, h]
  split
  · cases fstB p n <;> rfl
  · rfl
theorem endB_new {p : Nat → Bool} {e n : Nat} (h : p n = true) (h2 : endB p e n = none ∨ e = 1) : endB p e (n + 1) = some n := by
  unfold endB at h2 ⊢
  rw [fstB_s, lstB_s, h]
  split
  · next q => rw [if_pos q] at h2; rcases h2 with h2 | h2
              · rw [h2]; rfl
              · omega
  · rfl
theorem endB_old {p : Nat → Bool} {e n : Nat} (h2 : ¬ endB p e n = none) (h3 : e = 0) : endB p e (n + 1) = endB p e n := by
  unfold endB at h2 ⊢
  rw [if_pos h3] at h2 ⊢
  rw [if_pos h3, fstB_s]
  cases hf : fstB p n with
  | none => exact absurd hf h2
  | some k => rfl
set_option maxHeartbeats 4000000 in
set_option maxRecDepth 100000 in
theorem c_X10_span (l : Launch) (g : Gm) (M : Mem) (md : Nat) (t1 t2 t3 t4 t5 t6 t7 t8 : Nat) (fT fD fP fC fS fU fX fF : Nat → Int32) (mo : Int32) (nT : Nat) (m : Nat → Nat → Nat) (dB : Nat → Nat → Bool) (nP : Nat) (pf : Nat → Nat → Nat) (cB : Nat → Nat → Bool) (nS : Nat) (sg : Nat → Int32) (ln : Nat → Nat) (tx : Nat → Nat → Int32) (fl : Nat → Nat → Nat) (hM : ModA g M md t1 t2 t3 t4 t5 t6 t7 t8 fT fD fP fC fS fU fX fF mo nT m dB nP pf cB nS sg ln tx fl) (p z ee : Int32) : Ct l g yX10_span cX10_span 7 (some .int) 9 0 0 [.ref md, .int p, .int z, .int ee] M (fun v N => v = some (.int (aSpan nP pf p z ee)) ∧ N = M) := by
  refine Ct.of (by decide) (Nat.le_of_ble_eq_true rfl) ?_
  intro X hXl hXg hN C E
  subst hXl; subst hXg
  show V X (rmD 9 0 0) M 0 0 [(0, .ref md), (1, .int p), (2, .int z), (3, .int ee)] 0 []
  obtain ⟨hO, h1_, h2_, h3_, h4_, h5_, h6_, h7_, h8_, bT, bP, bS, okT_, cT, cD, okP_, cP, cC, cS, cU, bU_, cX, okX, okF_, cF⟩ := id hM
  rcases idx_cases nP (by omega) p with ⟨i, lt, rfl, hx⟩ | ⟨hn, hx⟩
  · have hzi := trivial
    show V X (rmD 9 0 0) M 0 0 [(0, .ref md), (1, .int (nI i)), (2, .int z), (3, .int ee)] 0 []
    refine v_aload_n C dX10_span_0 rfl ?_
    refine v_iload_n C dX10_span_1 rfl ?_
    refine v_callV (As := [.int (nI i)]) (rest := []) (b := md) C (c_X10_isPicture (xl X) (xg X) M md t1 t2 t3 t4 t5 t6 t7 t8 fT fD fP fC fS fU fX fF mo nT m dB nP pf cB nS sg ln tx fl hM (nI i)) pm_X10_isPicture wI_X10_isPicture wS_X10_isPicture wM_X10_67 kX10 hO ⟨by decide, by decide⟩ ⟨by decide, by decide⟩ (nle rfl) dX10_span_2 rfl (dt1 ?_)
    show V X (rmD 9 0 0) M 0 0 [(0, .ref md), (1, .int (nI i)), (2, .int z), (3, .int ee)] 5 [.int (bI ((idx nP (nI i)).isSome))]
    refine v_ifb_ne (tgt := 10) C dX10_span_5 (by decide) (fun h5 => ?_) (fun hbad => absurd hbad (by rw [hx]; simp))
    refine v_iload_n C dX10_span_10 rfl ?_
    refine v_iconst C dX10_span_11 (v := 0) rfl ?_
    refine v_bipush C dX10_span_12 (v := 11) rfl ?_
    refine v_callS (As := [.int z, .int 0, .int 11]) (rest := []) C (c_X10_in (xl X) (xg X) z 0 11 M) pm_X10_in wT_X10_in wM_X10_35 ⟨by decide, by decide⟩ ⟨by decide, by decide⟩ (nle rfl) dX10_span_14 rfl (dt1 ?_)
    show V X (rmD 9 0 0) M 0 0 [(0, .ref md), (1, .int (nI i)), (2, .int z), (3, .int ee)] 17 [.int (bI (qin z 0 11))]
    refine v_ifb_eq (tgt := 27) C dX10_span_17 (by decide) (fun h17 => ?_) (fun h17 => ?_)
    · refine v_bipush C dX10_span_27 (v := (-2)) rfl ?_
      exact v_iret C E dX10_span_29 (nle rfl) (nle rfl) ⟨by first | (simp [aSpan, hx, h17, h24]; done) | (simp [aSpan, hx, h17]; done), rfl⟩
    · refine v_iload_n C dX10_span_20 rfl ?_
      refine v_callS (As := [.int ee]) (rest := []) C (c_X10_isPart (xl X) (xg X) ee M) pm_X10_isPart wT_X10_isPart wM_X10_77 ⟨by decide, by decide⟩ ⟨by decide, by decide⟩ (nle rfl) dX10_span_21 rfl (dt1 ?_)
      show V X (rmD 9 0 0) M 0 0 [(0, .ref md), (1, .int (nI i)), (2, .int z), (3, .int ee)] 24 [.int (bI (qin ee 0 1))]
      refine v_ifb_ne (tgt := 30) C dX10_span_24 (by decide) (fun h24 => ?_) (fun h24 => ?_)
      · obtain ⟨q, hLq, hjq, rfl⟩ := qin_nJ (x := z) (L := 0) (N := 11) (by decide) (by decide) h17
        obtain ⟨e, hLe, hje, rfl⟩ := qin_nJ (x := ee) (L := 0) (N := 1) (by decide) (by decide) h24
        show V X (rmD 9 0 0) M 0 0 [(0, .ref md), (1, .int (nI i)), (2, .int (nI q)), (3, .int (nI e))] 30 []
        refine v_bipush C dX10_span_30 (v := (-6)) rfl ?_
        refine v_istore (lv' := [(4, .int ((-6))), (0, .ref md), (1, .int (nI i)), (2, .int (nI q)), (3, .int (nI e))]) C dX10_span_32 hN (by decide) rfl ?_
        refine v_iconst C dX10_span_34 (v := 1) rfl ?_
        refine v_istore (lv' := [(5, .int 1), (4, .int ((-6))), (0, .ref md), (1, .int (nI i)), (2, .int (nI q)), (3, .int (nI e))]) C dX10_span_35 hN (by decide) rfl ?_
        refine v_sub (lv' := [(0, .ref md), (1, .int (nI i)), (2, .int (nI q)), (3, .int (nI e)), (4, .int ((-6))), (5, .int 1)]) [2, 3, 4, 5, 1, 0] rfl ?_
        have lp37 : ∀ (mm : Nat) (j : Nat) (h1 : j ≤ 20), 20 - j < mm → V X (rmD 9 0 0) M 0 0 [(0, .ref md), (1, .int (nI i)), (2, .int (nI q)), (3, .int (nI e)), (4, .int (sucI (endB (fun k => decide (nI ((k + 1) * pf i 4 / 10) = nI q)) e j))), (5, .int (nI (j + 1)))] 37 [] := by
          intro mm
          induction mm with
          | zero => intro j h1 hmu; exact absurd hmu (Nat.not_lt_zero _)
          | succ mm ih37 =>
            intro j h1 hmu
            refine v_iload C dX10_span_37 rfl ?_
            refine v_bipush C dX10_span_39 (v := 21) rfl ?_
            refine v_icmp_ge (tgt := 101) C dX10_span_41 (by decide) (fun h41 => ?_) (fun h41 => ?_)
            · refine v_iload C dX10_span_101 rfl ?_
              exact v_iret C E dX10_span_103 (nle rfl) (nle rfl) ⟨by simp only [aSpan, hx, h17, h24, Bool.and_self, if_true]; rw [show j = 20 by have := nI_leN (a := 21) (by decide) (by omega) h41; omega]; unfold endB; rcases (show e = 0 ∨ e = 1 by omega) with he | he <;> rw [he] <;> rfl, rfl⟩
            · have g41 := nI_nleN (a := 21) (by decide) (by omega) h41
              refine v_iload C dX10_span_44 rfl ?_
              refine v_aload_n C dX10_span_46 rfl ?_
              refine v_get C kX10 hO 4 (by decide) wF_X10_17 rfl dX10_span_47 ?_
              refine v_iconst C dX10_span_50 (v := 5) rfl ?_
              refine v_iload_n C dX10_span_51 rfl ?_
              refine v_imul C dX10_span_52 ?_
              refine v_iconst C dX10_span_53 (v := 4) rfl ?_
              refine v_iadd C dX10_span_54 ?_
              rw [show ((5 * (nI i)) + 4 : Int32) = nI (5 * i + 4) from ix_ad (ix_mu rfl rfl) rfl]
              refine v_iald C h3_ (vp_in_nI (by omega) (by decide)) dX10_span_55 ?_
              rw [show fP (nI (5 * i + 4) : Int32).toNatClampNeg = nI (pf i 4) from by rw [nI_clamp (by omega)]; exact cP i lt 4 (by omega)]
              refine v_imul C dX10_span_56 ?_
              refine v_bipush C dX10_span_57 (v := 10) rfl ?_
              refine v_idiv C dX10_span_59 (by decide) ?_
              rw [(reach_N (okP_ i lt) (k := j + 1) (by omega)).1]
              show V X (rmD 9 0 0) M 0 0 [(0, .ref md), (1, .int (nI i)), (2, .int (nI q)), (3, .int (nI e)), (4, .int (sucI (endB (fun k => decide (nI ((k + 1) * pf i 4 / 10) = nI q)) e j))), (5, .int (nI (j + 1)))] 60 [.int (nI ((j + 1) * pf i 4 / 10))]
              refine v_iload_n C dX10_span_60 rfl ?_
              refine v_icmp_ne (tgt := 68) C dX10_span_61 (by decide) (fun h61 => ?_) (fun h61 => ?_)
              · refine v_iconst C dX10_span_68 (v := 0) rfl ?_
                refine v_istore (lv' := [(6, .int 0), (0, .ref md), (1, .int (nI i)), (2, .int (nI q)), (3, .int (nI e)), (4, .int (sucI (endB (fun k => decide (nI ((k + 1) * pf i 4 / 10) = nI q)) e j))), (5, .int (nI (j + 1)))]) C dX10_span_69 hN (by decide) rfl ?_
                have g61 : ¬ nI ((j + 1) * pf i 4 / 10) = nI q := h61
                show V X (rmD 9 0 0) M 0 0 [(6, .int (bI false)), (0, .ref md), (1, .int (nI i)), (2, .int (nI q)), (3, .int (nI e)), (4, .int (sucI (endB (fun k => decide (nI ((k + 1) * pf i 4 / 10) = nI q)) e j))), (5, .int (nI (j + 1)))] 71 []
                refine v_iload C dX10_span_71 rfl ?_
                refine v_ifb_eq (tgt := 91) C dX10_span_73 (by decide) (fun h73 => ?_) (fun hbad => absurd hbad (by decide))
                refine v_iload C dX10_span_91 rfl ?_
                refine v_istore (lv' := [(4, .int (sucI (endB (fun k => decide (nI ((k + 1) * pf i 4 / 10) = nI q)) e j))), (6, .int (bI false)), (0, .ref md), (1, .int (nI i)), (2, .int (nI q)), (3, .int (nI e)), (5, .int (nI (j + 1)))]) C dX10_span_93 hN (by decide) rfl ?_
                refine v_iinc (lv' := [(5, .int (nI ((j + 1) + 1))), (4, .int (sucI (endB (fun k => decide (nI ((k + 1) * pf i 4 / 10) = nI q)) e j))), (6, .int (bI false)), (0, .ref md), (1, .int (nI i)), (2, .int (nI q)), (3, .int (nI e))]) C dX10_span_95 6 rfl (nI_1 _) hN (by decide) rfl ?_
                refine v_goto (tgt := 37) C dX10_span_98 (by decide) ?_
                refine v_sub (lv' := [(0, .ref md), (1, .int (nI i)), (2, .int (nI q)), (3, .int (nI e)), (4, .int (sucI (endB (fun k => decide (nI ((k + 1) * pf i 4 / 10) = nI q)) e j))), (5, .int (nI ((j + 1) + 1)))]) [3, 4, 5, 6, 1, 0] rfl ?_
                have hst : endB (fun k => decide (nI ((k + 1) * pf i 4 / 10) = nI q)) e (j + 1) = endB (fun k => decide (nI ((k + 1) * pf i 4 / 10) = nI q)) e j := (by first | exact endB_no (decide_eq_false g61) | exact endB_old (fun z => h78 ((sucI_neg (fun k hk => by have := endB_lt hk; omega)).mpr z)) (by have := nI_neN (b := 1) (by omega) (by decide) h83; omega))
                rw [show (sucI (endB (fun k => decide (nI ((k + 1) * pf i 4 / 10) = nI q)) e j) : Int32) = sucI (endB (fun k => decide (nI ((k + 1) * pf i 4 / 10) = nI q)) e (j + 1)) by rw [hst]]
                exact ih37 (j + 1) (by omega) (by omega)
              · refine v_iconst C dX10_span_64 (v := 1) rfl ?_
                refine v_goto (tgt := 69) C dX10_span_65 (by decide) ?_
                refine v_istore (lv' := [(6, .int 1), (0, .ref md), (1, .int (nI i)), (2, .int (nI q)), (3, .int (nI e)), (4, .int (sucI (endB (fun k => decide (nI ((k + 1) * pf i 4 / 10) = nI q)) e j))), (5, .int (nI (j + 1)))]) C dX10_span_69 hN (by decide) rfl ?_
                have g61 : nI ((j + 1) * pf i 4 / 10) = nI q := h61
                show V X (rmD 9 0 0) M 0 0 [(6, .int (bI true)), (0, .ref md), (1, .int (nI i)), (2, .int (nI q)), (3, .int (nI e)), (4, .int (sucI (endB (fun k => decide (nI ((k + 1) * pf i 4 / 10) = nI q)) e j))), (5, .int (nI (j + 1)))] 71 []
                refine v_iload C dX10_span_71 rfl ?_
                refine v_ifb_eq (tgt := 91) C dX10_span_73 (by decide) (fun hbad => absurd hbad (by decide)) (fun h73 => ?_)
                refine v_iload C dX10_span_76 rfl ?_
                refine v_if_lt (tgt := 86) C dX10_span_78 (by decide) (fun h78 => ?_) (fun h78 => ?_)
                · refine v_iload C dX10_span_86 rfl ?_
                  refine v_goto (tgt := 93) C dX10_span_88 (by decide) ?_
                  refine v_istore (lv' := [(4, .int (nI (j + 1))), (6, .int (bI true)), (0, .ref md), (1, .int (nI i)), (2, .int (nI q)), (3, .int (nI e)), (5, .int (nI (j + 1)))]) C dX10_span_93 hN (by decide) rfl ?_
                  refine v_iinc (lv' := [(5, .int (nI ((j + 1) + 1))), (4, .int (nI (j + 1))), (6, .int (bI true)), (0, .ref md), (1, .int (nI i)), (2, .int (nI q)), (3, .int (nI e))]) C dX10_span_95 6 rfl (nI_1 _) hN (by decide) rfl ?_
                  refine v_goto (tgt := 37) C dX10_span_98 (by decide) ?_
                  refine v_sub (lv' := [(0, .ref md), (1, .int (nI i)), (2, .int (nI q)), (3, .int (nI e)), (4, .int (nI (j + 1))), (5, .int (nI ((j + 1) + 1)))]) [3, 4, 5, 6, 1, 0] rfl ?_
                  have hst : endB (fun k => decide (nI ((k + 1) * pf i 4 / 10) = nI q)) e (j + 1) = some j := (endB_new (decide_eq_true g61) (by first | exact Or.inl ((sucI_neg (fun k hk => by have := endB_lt hk; omega)).mp h78) | exact Or.inr (nI_eqN (b := 1) (by omega) (by decide) h83)))
                  rw [show (nI (j + 1) : Int32) = sucI (endB (fun k => decide (nI ((k + 1) * pf i 4 / 10) = nI q)) e (j + 1)) by rw [hst]; rfl]
                  exact ih37 (j + 1) (by omega) (by omega)
                · refine v_iload_n C dX10_span_81 rfl ?_
                  refine v_iconst C dX10_span_82 (v := 1) rfl ?_
                  refine v_icmp_ne (tgt := 91) C dX10_span_83 (by decide) (fun h83 => ?_) (fun h83 => ?_)
                  · refine v_iload C dX10_span_91 rfl ?_
                    refine v_istore (lv' := [(4, .int (sucI (endB (fun k => decide (nI ((k + 1) * pf i 4 / 10) = nI q)) e j))), (6, .int (bI true)), (0, .ref md), (1, .int (nI i)), (2, .int (nI q)), (3, .int (nI e)), (5, .int (nI (j + 1)))]) C dX10_span_93 hN (by decide) rfl ?_
                    refine v_iinc (lv' := [(5, .int (nI ((j + 1) + 1))), (4, .int (sucI (endB (fun k => decide (nI ((k + 1) * pf i 4 / 10) = nI q)) e j))), (6, .int (bI true)), (0, .ref md), (1, .int (nI i)), (2, .int (nI q)), (3, .int (nI e))]) C dX10_span_95 6 rfl (nI_1 _) hN (by decide) rfl ?_
                    refine v_goto (tgt := 37) C dX10_span_98 (by decide) ?_
                    refine v_sub (lv' := [(0, .ref md), (1, .int (nI i)), (2, .int (nI q)), (3, .int (nI e)), (4, .int (sucI (endB (fun k => decide (nI ((k + 1) * pf i 4 / 10) = nI q)) e j))), (5, .int (nI ((j + 1) + 1)))]) [3, 4, 5, 6, 1, 0] rfl ?_
                    have hst : endB (fun k => decide (nI ((k + 1) * pf i 4 / 10) = nI q)) e (j + 1) = endB (fun k => decide (nI ((k + 1) * pf i 4 / 10) = nI q)) e j := (by first | exact endB_no (decide_eq_false g61) | exact endB_old (fun z => h78 ((sucI_neg (fun k hk => by have := endB_lt hk; omega)).mpr z)) (by have := nI_neN (b := 1) (by omega) (by decide) h83; omega))
                    rw [show (sucI (endB (fun k => decide (nI ((k + 1) * pf i 4 / 10) = nI q)) e j) : Int32) = sucI (endB (fun k => decide (nI ((k + 1) * pf i 4 / 10) = nI q)) e (j + 1)) by rw [hst]]
                    exact ih37 (j + 1) (by omega) (by omega)
                  · refine v_iload C dX10_span_86 rfl ?_
                    refine v_goto (tgt := 93) C dX10_span_88 (by decide) ?_
                    refine v_istore (lv' := [(4, .int (nI (j + 1))), (6, .int (bI true)), (0, .ref md), (1, .int (nI i)), (2, .int (nI q)), (3, .int (nI e)), (5, .int (nI (j + 1)))]) C dX10_span_93 hN (by decide) rfl ?_
                    refine v_iinc (lv' := [(5, .int (nI ((j + 1) + 1))), (4, .int (nI (j + 1))), (6, .int (bI true)), (0, .ref md), (1, .int (nI i)), (2, .int (nI q)), (3, .int (nI e))]) C dX10_span_95 6 rfl (nI_1 _) hN (by decide) rfl ?_
                    refine v_goto (tgt := 37) C dX10_span_98 (by decide) ?_
                    refine v_sub (lv' := [(0, .ref md), (1, .int (nI i)), (2, .int (nI q)), (3, .int (nI e)), (4, .int (nI (j + 1))), (5, .int (nI ((j + 1) + 1)))]) [3, 4, 5, 6, 1, 0] rfl ?_
                    have hst : endB (fun k => decide (nI ((k + 1) * pf i 4 / 10) = nI q)) e (j + 1) = some j := (endB_new (decide_eq_true g61) (by first | exact Or.inl ((sucI_neg (fun k hk => by have := endB_lt hk; omega)).mp h78) | exact Or.inr (nI_eqN (b := 1) (by omega) (by decide) h83)))
                    rw [show (nI (j + 1) : Int32) = sucI (endB (fun k => decide (nI ((k + 1) * pf i 4 / 10) = nI q)) e (j + 1)) by rw [hst]; rfl]
                    exact ih37 (j + 1) (by omega) (by omega)
        show V X (rmD 9 0 0) M 0 0 [(0, .ref md), (1, .int (nI i)), (2, .int (nI q)), (3, .int (nI e)), (4, .int (-6)), (5, .int 1)] 37 []
        rw [show (-6 : Int32) = sucI (endB (fun k => decide (nI ((k + 1) * pf i 4 / 10) = nI q)) e 0) by unfold endB; split <;> rfl]
        exact lp37 (_ + 1) 0 (Nat.zero_le _) (Nat.lt_succ_self _)
      · refine v_bipush C dX10_span_27 (v := (-2)) rfl ?_
        exact v_iret C E dX10_span_29 (nle rfl) (nle rfl) ⟨by first | (simp [aSpan, hx, h17, h24]; done) | (simp [aSpan, hx, h17]; done), rfl⟩
  · have hzi := trivial
    show V X (rmD 9 0 0) M 0 0 [(0, .ref md), (1, .int p), (2, .int z), (3, .int ee)] 0 []
    refine v_aload_n C dX10_span_0 rfl ?_
    refine v_iload_n C dX10_span_1 rfl ?_
    refine v_callV (As := [.int p]) (rest := []) (b := md) C (c_X10_isPicture (xl X) (xg X) M md t1 t2 t3 t4 t5 t6 t7 t8 fT fD fP fC fS fU fX fF mo nT m dB nP pf cB nS sg ln tx fl hM p) pm_X10_isPicture wI_X10_isPicture wS_X10_isPicture wM_X10_67 kX10 hO ⟨by decide, by decide⟩ ⟨by decide, by decide⟩ (nle rfl) dX10_span_2 rfl (dt1 ?_)
    show V X (rmD 9 0 0) M 0 0 [(0, .ref md), (1, .int p), (2, .int z), (3, .int ee)] 5 [.int (bI ((idx nP p).isSome))]
    refine v_ifb_ne (tgt := 10) C dX10_span_5 (by decide) (fun hbad => absurd hbad (by rw [hx]; simp)) (fun h5 => ?_)
    refine v_iconst C dX10_span_8 (v := (-1)) rfl ?_
    exact v_iret C E dX10_span_9 (nle rfl) (nle rfl) ⟨by simp [aSpan, hx], rfl⟩

theorem see_nn {m : Nat → Nat → Nat} {nT : Nat} (hok : ∀ t, t < nT → okM (m t)) {qf : Nat → Nat} {B : Nat → Bool} {c : Nat} : ¬ seeI m nT qf B c < 0 ↔ covN qf B c = true := by
  rcases see_cases m nT hok qf B c with ⟨h1, h⟩ | ⟨h1, h, h2⟩
  · rw [h, h1]; decide
  · rw [h, h1]; exact ⟨fun _ => rfl, fun _ => nI_pos (by omega)⟩
theorem see_lt2 {m : Nat → Nat → Nat} {nT : Nat} (hok : ∀ t, t < nT → okM (m t)) {qf : Nat → Nat} {B : Nat → Bool} {c : Nat} : seeI m nT qf B c < 10 ↔ seeI m nT qf B c < 2 := by
  have hl : lookN m nT qf c = 0 ∨ lookN m nT qf c = 1 ∨ ∃ t, t < nT ∧ lookN m nT qf c = 10 + m t 5 := by
    unfold lookN
    cases hb : bst m (c % 12) (c / 12) (qf 2) nT with
    | none => simp only; split
              · exact Or.inr (Or.inl rfl)
              · exact Or.inl rfl
    | some t =>
      simp only
      split
      · exact Or.inr (Or.inr ⟨t, bst_lt hb, rfl⟩)
      · split
        · exact Or.inr (Or.inl rfl)
        · exact Or.inl rfl
  unfold seeI
  cases covN qf B c
  · rw [if_neg (by decide)]; decide
  · rw [if_pos rfl]
    rcases hl with h | h | ⟨t, ht, h⟩
    · rw [h]; decide
    · rw [h]; decide
    · rw [h]
      have := hok t ht
      unfold okM at this
      exact ⟨fun q => absurd (nI_ltN (b := 10) (by omega) (by decide) q) (by omega), fun q => absurd (nI_ltN (b := 2) (by omega) (by decide) q) (by omega)⟩
set_option maxHeartbeats 4000000 in
set_option maxRecDepth 100000 in
theorem c_X10_changed (l : Launch) (g : Gm) (M : Mem) (md : Nat) (t1 t2 t3 t4 t5 t6 t7 t8 : Nat) (fT fD fP fC fS fU fX fF : Nat → Int32) (mo : Int32) (nT : Nat) (m : Nat → Nat → Nat) (dB : Nat → Nat → Bool) (nP : Nat) (pf : Nat → Nat → Nat) (cB : Nat → Nat → Bool) (nS : Nat) (sg : Nat → Int32) (ln : Nat → Nat) (tx : Nat → Nat → Int32) (fl : Nat → Nat → Nat) (hM : ModA g M md t1 t2 t3 t4 t5 t6 t7 t8 fT fD fP fC fS fU fX fF mo nT m dB nP pf cB nS sg ln tx fl) (a b z : Int32) : Ct l g yX10_changed cX10_changed 10 (some .int) 9 0 0 [.ref md, .int a, .int b, .int z] M (fun v N => v = some (.int (aChanged nT m nP pf cB a b z)) ∧ N = M) := by
  refine Ct.of (by decide) (Nat.le_of_ble_eq_true rfl) ?_
  intro X hXl hXg hN C E
  subst hXl; subst hXg
  show V X (rmD 9 0 0) M 0 0 [(0, .ref md), (1, .int a), (2, .int b), (3, .int z)] 0 []
  obtain ⟨hO, h1_, h2_, h3_, h4_, h5_, h6_, h7_, h8_, bT, bP, bS, okT_, cT, cD, okP_, cP, cC, cS, cU, bU_, cX, okX, okF_, cF⟩ := id hM
  rcases idx_cases nP (by omega) a with ⟨i, lt, rfl, hx⟩ | ⟨hn, hx⟩
  · have hzi := trivial
    show V X (rmD 9 0 0) M 0 0 [(0, .ref md), (1, .int (nI i)), (2, .int b), (3, .int z)] 0 []
    refine v_aload_n C dX10_changed_0 rfl ?_
    rcases idx_cases nP (by omega) b with ⟨k, lt2, rfl, hx2⟩ | ⟨hn2, hx2⟩
    · have hzk := trivial
      show V X (rmD 9 0 0) M 0 0 [(0, .ref md), (1, .int (nI i)), (2, .int (nI k)), (3, .int z)] 1 [.ref md]
      refine v_iload_n C dX10_changed_1 rfl ?_
      refine v_callV (As := [.int (nI i)]) (rest := []) (b := md) C (c_X10_isPicture (xl X) (xg X) M md t1 t2 t3 t4 t5 t6 t7 t8 fT fD fP fC fS fU fX fF mo nT m dB nP pf cB nS sg ln tx fl hM (nI i)) pm_X10_isPicture wI_X10_isPicture wS_X10_isPicture wM_X10_67 kX10 hO ⟨by decide, by decide⟩ ⟨by decide, by decide⟩ (nle rfl) dX10_changed_2 rfl (dt1 ?_)
      show V X (rmD 9 0 0) M 0 0 [(0, .ref md), (1, .int (nI i)), (2, .int (nI k)), (3, .int z)] 5 [.int (bI ((idx nP (nI i)).isSome))]
      refine v_ifb_eq (tgt := 21) C dX10_changed_5 (by decide) (fun hbad => absurd hbad (by rw [hx]; simp)) (fun h5 => ?_)
      refine v_aload_n C dX10_changed_8 rfl ?_
      refine v_iload_n C dX10_changed_9 rfl ?_
      refine v_callV (As := [.int (nI k)]) (rest := []) (b := md) C (c_X10_isPicture (xl X) (xg X) M md t1 t2 t3 t4 t5 t6 t7 t8 fT fD fP fC fS fU fX fF mo nT m dB nP pf cB nS sg ln tx fl hM (nI k)) pm_X10_isPicture wI_X10_isPicture wS_X10_isPicture wM_X10_67 kX10 hO ⟨by decide, by decide⟩ ⟨by decide, by decide⟩ (nle rfl) dX10_changed_10 rfl (dt1 ?_)
      show V X (rmD 9 0 0) M 0 0 [(0, .ref md), (1, .int (nI i)), (2, .int (nI k)), (3, .int z)] 13 [.int (bI ((idx nP (nI k)).isSome))]
      refine v_ifb_eq (tgt := 21) C dX10_changed_13 (by decide) (fun hbad => absurd hbad (by rw [hx2]; simp)) (fun h13 => ?_)
      refine v_iload_n C dX10_changed_16 rfl ?_
      refine v_iload_n C dX10_changed_17 rfl ?_
      refine v_icmp_ne (tgt := 23) C dX10_changed_18 (by decide) (fun h18 => ?_) (fun h18 => ?_)
      · have g18 : ¬ i = k := fun z => h18 (by rw [z])
        refine v_iload_n C dX10_changed_23 rfl ?_
        refine v_iconst C dX10_changed_24 (v := 0) rfl ?_
        refine v_iconst C dX10_changed_25 (v := 2) rfl ?_
        refine v_callS (As := [.int z, .int 0, .int 2]) (rest := []) C (c_X10_in (xl X) (xg X) z 0 2 M) pm_X10_in wT_X10_in wM_X10_35 ⟨by decide, by decide⟩ ⟨by decide, by decide⟩ (nle rfl) dX10_changed_26 rfl (dt1 ?_)
        show V X (rmD 9 0 0) M 0 0 [(0, .ref md), (1, .int (nI i)), (2, .int (nI k)), (3, .int z)] 29 [.int (bI (qin z 0 2))]
        refine v_ifb_ne (tgt := 35) C dX10_changed_29 (by decide) (fun h29 => ?_) (fun h29 => ?_)
        · obtain ⟨q, hLq, hjq, rfl⟩ := qin_nJ (x := z) (L := 0) (N := 2) (by decide) (by decide) h29
          show V X (rmD 9 0 0) M 0 0 [(0, .ref md), (1, .int (nI i)), (2, .int (nI k)), (3, .int (nI q))] 35 []
          refine v_iconst C dX10_changed_35 (v := 0) rfl ?_
          refine v_istore (lv' := [(4, .int 0), (0, .ref md), (1, .int (nI i)), (2, .int (nI k)), (3, .int (nI q))]) C dX10_changed_36 hN (by decide) rfl ?_
          refine v_iconst C dX10_changed_38 (v := 0) rfl ?_
          refine v_istore (lv' := [(5, .int 0), (4, .int 0), (0, .ref md), (1, .int (nI i)), (2, .int (nI k)), (3, .int (nI q))]) C dX10_changed_39 hN (by decide) rfl ?_
          refine v_bipush C dX10_changed_41 (v := (-6)) rfl ?_
          refine v_istore (lv' := [(6, .int ((-6))), (5, .int 0), (4, .int 0), (0, .ref md), (1, .int (nI i)), (2, .int (nI k)), (3, .int (nI q))]) C dX10_changed_43 hN (by decide) rfl ?_
          refine v_iconst C dX10_changed_45 (v := 0) rfl ?_
          refine v_istore (lv' := [(7, .int 0), (6, .int ((-6))), (5, .int 0), (4, .int 0), (0, .ref md), (1, .int (nI i)), (2, .int (nI k)), (3, .int (nI q))]) C dX10_changed_46 hN (by decide) rfl ?_
          refine v_sub (lv' := [(0, .ref md), (1, .int (nI i)), (2, .int (nI k)), (3, .int (nI q)), (4, .int 0), (5, .int 0), (6, .int ((-6))), (7, .int 0)]) [4, 5, 6, 7, 3, 2, 1, 0] rfl ?_
          have lp48 : ∀ (mm : Nat) (j : Nat) (h1 : j ≤ 96), 96 - j < mm → V X (rmD 9 0 0) M 0 0 [(0, .ref md), (1, .int (nI i)), (2, .int (nI k)), (3, .int (nI q)), (4, .int (nI (cntB (unS m nT pf cB i k) j))), (5, .int (nI (cntB (fun c => (decide (seeI m nT (pf i) (cB i) c < 10) && decide (seeI m nT (pf k) (cB k) c < 10)) && unS m nT pf cB i k c) j))), (6, .int (oI (fstB (unS m nT pf cB i k) j))), (7, .int (nI j))] 48 [] := by
            intro mm
            induction mm with
            | zero => intro j h1 hmu; exact absurd hmu (Nat.not_lt_zero _)
            | succ mm ih48 =>
              intro j h1 hmu
              refine v_iload C dX10_changed_48 rfl ?_
              refine v_bipush C dX10_changed_50 (v := 96) rfl ?_
              refine v_icmp_ge (tgt := 135) C dX10_changed_52 (by decide) (fun h52 => ?_) (fun h52 => ?_)
              · refine v_iload_n C dX10_changed_135 rfl ?_
                refine v_if_ne (tgt := 144) C dX10_changed_136 (by decide) (fun h136 => ?_) (fun h136 => ?_)
                · refine v_iload_n C dX10_changed_144 rfl ?_
                  refine v_iconst C dX10_changed_145 (v := 1) rfl ?_
                  refine v_icmp_ne (tgt := 154) C dX10_changed_146 (by decide) (fun h146 => ?_) (fun h146 => ?_)
                  · refine v_iload C dX10_changed_154 rfl ?_
                    exact v_iret C E dX10_changed_156 (nle rfl) (nle rfl) ⟨by simp only [aChanged, hx, hx2, g18, if_false, h29, if_true]; rw [if_pos (show nI q = 2 from by rw [show q = 2 by have := nI_neN (b := 0) (by omega) (by decide) h136; have := nI_neN (b := 1) (by omega) (by decide) h146; omega]; rfl), show j = 96 from Nat.le_antisymm h1 (nI_leN (a := 96) (by decide) (by omega) h52)], rfl⟩
                  · refine v_iload C dX10_changed_149 rfl ?_
                    refine v_goto (tgt := 156) C dX10_changed_151 (by decide) ?_
                    exact v_iret C E dX10_changed_156 (nle rfl) (nle rfl) ⟨by simp only [aChanged, hx, hx2, g18, if_false, h29, if_true]; rw [if_neg (show ¬ nI q = 2 from by rw [h146]; decide), if_neg h136, show j = 96 from Nat.le_antisymm h1 (nI_leN (a := 96) (by decide) (by omega) h52)], rfl⟩
                · refine v_iload C dX10_changed_139 rfl ?_
                  refine v_goto (tgt := 156) C dX10_changed_141 (by decide) ?_
                  exact v_iret C E dX10_changed_156 (nle rfl) (nle rfl) ⟨by simp only [aChanged, hx, hx2, g18, if_false, h29, if_true]; rw [if_neg (show ¬ nI q = 2 from by rw [h136]; decide), if_pos h136, show j = 96 from Nat.le_antisymm h1 (nI_leN (a := 96) (by decide) (by omega) h52)], rfl⟩
              · have g52 := nI_nleN (a := 96) (by decide) (by omega) h52
                refine v_aload_n C dX10_changed_55 rfl ?_
                refine v_iload_n C dX10_changed_56 rfl ?_
                refine v_iload C dX10_changed_57 rfl ?_
                refine v_callV (As := [.int (nI i), .int (nI j)]) (rest := []) (b := md) C (c_X10_showsOf (xl X) (xg X) M md t1 t2 t3 t4 t5 t6 t7 t8 fT fD fP fC fS fU fX fF mo nT m dB nP pf cB nS sg ln tx fl hM i j (by omega) (by omega)) pm_X10_showsOf wI_X10_showsOf wS_X10_showsOf wM_X10_73 kX10 hO ⟨by decide, by decide⟩ ⟨by decide, by decide⟩ (nle rfl) dX10_changed_59 rfl (dt1 ?_)
                show V X (rmD 9 0 0) M 0 0 [(0, .ref md), (1, .int (nI i)), (2, .int (nI k)), (3, .int (nI q)), (4, .int (nI (cntB (unS m nT pf cB i k) j))), (5, .int (nI (cntB (fun c => (decide (seeI m nT (pf i) (cB i) c < 10) && decide (seeI m nT (pf k) (cB k) c < 10)) && unS m nT pf cB i k c) j))), (6, .int (oI (fstB (unS m nT pf cB i k) j))), (7, .int (nI j))] 62 [.int (seeI m nT (pf i) (cB i) j)]
                refine v_istore (lv' := [(8, .int (seeI m nT (pf i) (cB i) j)), (0, .ref md), (1, .int (nI i)), (2, .int (nI k)), (3, .int (nI q)), (4, .int (nI (cntB (unS m nT pf cB i k) j))), (5, .int (nI (cntB (fun c => (decide (seeI m nT (pf i) (cB i) c < 10) && decide (seeI m nT (pf k) (cB k) c < 10)) && unS m nT pf cB i k c) j))), (6, .int (oI (fstB (unS m nT pf cB i k) j))), (7, .int (nI j))]) C dX10_changed_62 hN (by decide) rfl ?_
                refine v_aload_n C dX10_changed_64 rfl ?_
                refine v_iload_n C dX10_changed_65 rfl ?_
                refine v_iload C dX10_changed_66 rfl ?_
                refine v_callV (As := [.int (nI k), .int (nI j)]) (rest := []) (b := md) C (c_X10_showsOf (xl X) (xg X) M md t1 t2 t3 t4 t5 t6 t7 t8 fT fD fP fC fS fU fX fF mo nT m dB nP pf cB nS sg ln tx fl hM k j (by omega) (by omega)) pm_X10_showsOf wI_X10_showsOf wS_X10_showsOf wM_X10_73 kX10 hO ⟨by decide, by decide⟩ ⟨by decide, by decide⟩ (nle rfl) dX10_changed_68 rfl (dt1 ?_)
                show V X (rmD 9 0 0) M 0 0 [(8, .int (seeI m nT (pf i) (cB i) j)), (0, .ref md), (1, .int (nI i)), (2, .int (nI k)), (3, .int (nI q)), (4, .int (nI (cntB (unS m nT pf cB i k) j))), (5, .int (nI (cntB (fun c => (decide (seeI m nT (pf i) (cB i) c < 10) && decide (seeI m nT (pf k) (cB k) c < 10)) && unS m nT pf cB i k c) j))), (6, .int (oI (fstB (unS m nT pf cB i k) j))), (7, .int (nI j))] 71 [.int (seeI m nT (pf k) (cB k) j)]
                refine v_istore (lv' := [(9, .int (seeI m nT (pf k) (cB k) j)), (8, .int (seeI m nT (pf i) (cB i) j)), (0, .ref md), (1, .int (nI i)), (2, .int (nI k)), (3, .int (nI q)), (4, .int (nI (cntB (unS m nT pf cB i k) j))), (5, .int (nI (cntB (fun c => (decide (seeI m nT (pf i) (cB i) c < 10) && decide (seeI m nT (pf k) (cB k) c < 10)) && unS m nT pf cB i k c) j))), (6, .int (oI (fstB (unS m nT pf cB i k) j))), (7, .int (nI j))]) C dX10_changed_71 hN (by decide) rfl ?_
                refine v_iload C dX10_changed_73 rfl ?_
                refine v_if_lt (tgt := 129) C dX10_changed_75 (by decide) (fun h75 => ?_) (fun h75 => ?_)
                · refine v_iinc (lv' := [(7, .int (nI (j + 1))), (9, .int (seeI m nT (pf k) (cB k) j)), (8, .int (seeI m nT (pf i) (cB i) j)), (0, .ref md), (1, .int (nI i)), (2, .int (nI k)), (3, .int (nI q)), (4, .int (nI (cntB (unS m nT pf cB i k) j))), (5, .int (nI (cntB (fun c => (decide (seeI m nT (pf i) (cB i) c < 10) && decide (seeI m nT (pf k) (cB k) c < 10)) && unS m nT pf cB i k c) j))), (6, .int (oI (fstB (unS m nT pf cB i k) j)))]) C dX10_changed_129 9 rfl (nI_1 _) hN (by decide) rfl ?_
                  refine v_goto (tgt := 48) C dX10_changed_132 (by decide) ?_
                  refine v_sub (lv' := [(0, .ref md), (1, .int (nI i)), (2, .int (nI k)), (3, .int (nI q)), (4, .int (nI (cntB (unS m nT pf cB i k) j))), (5, .int (nI (cntB (fun c => (decide (seeI m nT (pf i) (cB i) c < 10) && decide (seeI m nT (pf k) (cB k) c < 10)) && unS m nT pf cB i k c) j))), (6, .int (oI (fstB (unS m nT pf cB i k) j))), (7, .int (nI (j + 1)))]) [3, 4, 5, 6, 7, 8, 9, 0] rfl ?_
                  have hun : unS m nT pf cB i k j = false := by
                    unfold unS
                    first
                      | (rw [show covN (pf i) (cB i) j = false from Bool.eq_false_iff.mpr (fun z => (see_nn okT_).mpr z h75)]; rfl)
                      | (rw [show covN (pf k) (cB k) j = false from Bool.eq_false_iff.mpr (fun z => (see_nn okT_).mpr z h80), Bool.and_false]; rfl)
                      | (rw [decide_eq_true h87]; simp; done)
                  have k1 : cntB (unS m nT pf cB i k) (j + 1) = cntB (unS m nT pf cB i k) j := by rw [cntB_s, hun]; rfl
                  have k2 : cntB (fun c => (decide (seeI m nT (pf i) (cB i) c < 10) && decide (seeI m nT (pf k) (cB k) c < 10)) && unS m nT pf cB i k c) (j + 1) = cntB (fun c => (decide (seeI m nT (pf i) (cB i) c < 10) && decide (seeI m nT (pf k) (cB k) c < 10)) && unS m nT pf cB i k c) j := by rw [cntB_s, hun, Bool.and_false]; rfl
                  have k3 : fstB (unS m nT pf cB i k) (j + 1) = fstB (unS m nT pf cB i k) j := by rw [fstB_s, hun]; cases fstB (unS m nT pf cB i k) j <;> rfl
                  rw [← k1, ← k2, ← k3]
                  exact ih48 (j + 1) (by omega) (by omega)
                · refine v_iload C dX10_changed_78 rfl ?_
                  refine v_if_lt (tgt := 129) C dX10_changed_80 (by decide) (fun h80 => ?_) (fun h80 => ?_)
                  · refine v_iinc (lv' := [(7, .int (nI (j + 1))), (9, .int (seeI m nT (pf k) (cB k) j)), (8, .int (seeI m nT (pf i) (cB i) j)), (0, .ref md), (1, .int (nI i)), (2, .int (nI k)), (3, .int (nI q)), (4, .int (nI (cntB (unS m nT pf cB i k) j))), (5, .int (nI (cntB (fun c => (decide (seeI m nT (pf i) (cB i) c < 10) && decide (seeI m nT (pf k) (cB k) c < 10)) && unS m nT pf cB i k c) j))), (6, .int (oI (fstB (unS m nT pf cB i k) j)))]) C dX10_changed_129 9 rfl (nI_1 _) hN (by decide) rfl ?_
                    refine v_goto (tgt := 48) C dX10_changed_132 (by decide) ?_
                    refine v_sub (lv' := [(0, .ref md), (1, .int (nI i)), (2, .int (nI k)), (3, .int (nI q)), (4, .int (nI (cntB (unS m nT pf cB i k) j))), (5, .int (nI (cntB (fun c => (decide (seeI m nT (pf i) (cB i) c < 10) && decide (seeI m nT (pf k) (cB k) c < 10)) && unS m nT pf cB i k c) j))), (6, .int (oI (fstB (unS m nT pf cB i k) j))), (7, .int (nI (j + 1)))]) [3, 4, 5, 6, 7, 8, 9, 0] rfl ?_
                    have hun : unS m nT pf cB i k j = false := by
                      unfold unS
                      first
                        | (rw [show covN (pf i) (cB i) j = false from Bool.eq_false_iff.mpr (fun z => (see_nn okT_).mpr z h75)]; rfl)
                        | (rw [show covN (pf k) (cB k) j = false from Bool.eq_false_iff.mpr (fun z => (see_nn okT_).mpr z h80), Bool.and_false]; rfl)
                        | (rw [decide_eq_true h87]; simp; done)
                    have k1 : cntB (unS m nT pf cB i k) (j + 1) = cntB (unS m nT pf cB i k) j := by rw [cntB_s, hun]; rfl
                    have k2 : cntB (fun c => (decide (seeI m nT (pf i) (cB i) c < 10) && decide (seeI m nT (pf k) (cB k) c < 10)) && unS m nT pf cB i k c) (j + 1) = cntB (fun c => (decide (seeI m nT (pf i) (cB i) c < 10) && decide (seeI m nT (pf k) (cB k) c < 10)) && unS m nT pf cB i k c) j := by rw [cntB_s, hun, Bool.and_false]; rfl
                    have k3 : fstB (unS m nT pf cB i k) (j + 1) = fstB (unS m nT pf cB i k) j := by rw [fstB_s, hun]; cases fstB (unS m nT pf cB i k) j <;> rfl
                    rw [← k1, ← k2, ← k3]
                    exact ih48 (j + 1) (by omega) (by omega)
                  · refine v_iload C dX10_changed_83 rfl ?_
                    refine v_iload C dX10_changed_85 rfl ?_
                    refine v_icmp_eq (tgt := 129) C dX10_changed_87 (by decide) (fun h87 => ?_) (fun h87 => ?_)
                    · refine v_iinc (lv' := [(7, .int (nI (j + 1))), (9, .int (seeI m nT (pf k) (cB k) j)), (8, .int (seeI m nT (pf i) (cB i) j)), (0, .ref md), (1, .int (nI i)), (2, .int (nI k)), (3, .int (nI q)), (4, .int (nI (cntB (unS m nT pf cB i k) j))), (5, .int (nI (cntB (fun c => (decide (seeI m nT (pf i) (cB i) c < 10) && decide (seeI m nT (pf k) (cB k) c < 10)) && unS m nT pf cB i k c) j))), (6, .int (oI (fstB (unS m nT pf cB i k) j)))]) C dX10_changed_129 9 rfl (nI_1 _) hN (by decide) rfl ?_
                      refine v_goto (tgt := 48) C dX10_changed_132 (by decide) ?_
                      refine v_sub (lv' := [(0, .ref md), (1, .int (nI i)), (2, .int (nI k)), (3, .int (nI q)), (4, .int (nI (cntB (unS m nT pf cB i k) j))), (5, .int (nI (cntB (fun c => (decide (seeI m nT (pf i) (cB i) c < 10) && decide (seeI m nT (pf k) (cB k) c < 10)) && unS m nT pf cB i k c) j))), (6, .int (oI (fstB (unS m nT pf cB i k) j))), (7, .int (nI (j + 1)))]) [3, 4, 5, 6, 7, 8, 9, 0] rfl ?_
                      have hun : unS m nT pf cB i k j = false := by
                        unfold unS
                        first
                          | (rw [show covN (pf i) (cB i) j = false from Bool.eq_false_iff.mpr (fun z => (see_nn okT_).mpr z h75)]; rfl)
                          | (rw [show covN (pf k) (cB k) j = false from Bool.eq_false_iff.mpr (fun z => (see_nn okT_).mpr z h80), Bool.and_false]; rfl)
                          | (rw [decide_eq_true h87]; simp; done)
                      have k1 : cntB (unS m nT pf cB i k) (j + 1) = cntB (unS m nT pf cB i k) j := by rw [cntB_s, hun]; rfl
                      have k2 : cntB (fun c => (decide (seeI m nT (pf i) (cB i) c < 10) && decide (seeI m nT (pf k) (cB k) c < 10)) && unS m nT pf cB i k c) (j + 1) = cntB (fun c => (decide (seeI m nT (pf i) (cB i) c < 10) && decide (seeI m nT (pf k) (cB k) c < 10)) && unS m nT pf cB i k c) j := by rw [cntB_s, hun, Bool.and_false]; rfl
                      have k3 : fstB (unS m nT pf cB i k) (j + 1) = fstB (unS m nT pf cB i k) j := by rw [fstB_s, hun]; cases fstB (unS m nT pf cB i k) j <;> rfl
                      rw [← k1, ← k2, ← k3]
                      exact ih48 (j + 1) (by omega) (by omega)
                    · refine v_iinc (lv' := [(4, .int (nI ((cntB (unS m nT pf cB i k) j) + 1))), (9, .int (seeI m nT (pf k) (cB k) j)), (8, .int (seeI m nT (pf i) (cB i) j)), (0, .ref md), (1, .int (nI i)), (2, .int (nI k)), (3, .int (nI q)), (5, .int (nI (cntB (fun c => (decide (seeI m nT (pf i) (cB i) c < 10) && decide (seeI m nT (pf k) (cB k) c < 10)) && unS m nT pf cB i k c) j))), (6, .int (oI (fstB (unS m nT pf cB i k) j))), (7, .int (nI j))]) C dX10_changed_90 6 rfl (nI_1 _) hN (by decide) rfl ?_
                      refine v_iload C dX10_changed_93 rfl ?_
                      refine v_iload C dX10_changed_95 rfl ?_
                      refine v_iconst C dX10_changed_97 (v := 2) rfl ?_
                      refine v_icmp_ge (tgt := 111) C dX10_changed_98 (by decide) (fun h98 => ?_) (fun h98 => ?_)
                      · refine v_iconst C dX10_changed_111 (v := 0) rfl ?_
                        refine v_iadd C dX10_changed_112 ?_
                        refine v_istore (lv' := [(5, .int ((nI (cntB (fun c => (decide (seeI m nT (pf i) (cB i) c < 10) && decide (seeI m nT (pf k) (cB k) c < 10)) && unS m nT pf cB i k c) j)) + 0)), (4, .int (nI ((cntB (unS m nT pf cB i k) j) + 1))), (9, .int (seeI m nT (pf k) (cB k) j)), (8, .int (seeI m nT (pf i) (cB i) j)), (0, .ref md), (1, .int (nI i)), (2, .int (nI k)), (3, .int (nI q)), (6, .int (oI (fstB (unS m nT pf cB i k) j))), (7, .int (nI j))]) C dX10_changed_113 hN (by decide) rfl ?_
                        refine v_iload C dX10_changed_115 rfl ?_
                        refine v_if_ge (tgt := 125) C dX10_changed_117 (by decide) (fun h117 => ?_) (fun h117 => ?_)
                        · refine v_iload C dX10_changed_125 rfl ?_
                          refine v_istore (lv' := [(6, .int (oI (fstB (unS m nT pf cB i k) j))), (5, .int ((nI (cntB (fun c => (decide (seeI m nT (pf i) (cB i) c < 10) && decide (seeI m nT (pf k) (cB k) c < 10)) && unS m nT pf cB i k c) j)) + 0)), (4, .int (nI ((cntB (unS m nT pf cB i k) j) + 1))), (9, .int (seeI m nT (pf k) (cB k) j)), (8, .int (seeI m nT (pf i) (cB i) j)), (0, .ref md), (1, .int (nI i)), (2, .int (nI k)), (3, .int (nI q)), (7, .int (nI j))]) C dX10_changed_127 hN (by decide) rfl ?_
                          refine v_iinc (lv' := [(7, .int (nI (j + 1))), (6, .int (oI (fstB (unS m nT pf cB i k) j))), (5, .int ((nI (cntB (fun c => (decide (seeI m nT (pf i) (cB i) c < 10) && decide (seeI m nT (pf k) (cB k) c < 10)) && unS m nT pf cB i k c) j)) + 0)), (4, .int (nI ((cntB (unS m nT pf cB i k) j) + 1))), (9, .int (seeI m nT (pf k) (cB k) j)), (8, .int (seeI m nT (pf i) (cB i) j)), (0, .ref md), (1, .int (nI i)), (2, .int (nI k)), (3, .int (nI q))]) C dX10_changed_129 9 rfl (nI_1 _) hN (by decide) rfl ?_
                          refine v_goto (tgt := 48) C dX10_changed_132 (by decide) ?_
                          refine v_sub (lv' := [(0, .ref md), (1, .int (nI i)), (2, .int (nI k)), (3, .int (nI q)), (4, .int (nI ((cntB (unS m nT pf cB i k) j) + 1))), (5, .int ((nI (cntB (fun c => (decide (seeI m nT (pf i) (cB i) c < 10) && decide (seeI m nT (pf k) (cB k) c < 10)) && unS m nT pf cB i k c) j)) + 0)), (6, .int (oI (fstB (unS m nT pf cB i k) j))), (7, .int (nI (j + 1)))]) [6, 7, 8, 9, 3, 2, 1, 0] rfl ?_
                          have hun : unS m nT pf cB i k j = true := by unfold unS; rw [(see_nn okT_).mp h75, (see_nn okT_).mp h80, decide_eq_false h87]; rfl
                          have k1 : nI (cntB (unS m nT pf cB i k) j + 1) = nI (cntB (unS m nT pf cB i k) (j + 1)) := by rw [cntB_s, hun]; rfl
                          have k2 : nI (cntB (fun c => (decide (seeI m nT (pf i) (cB i) c < 10) && decide (seeI m nT (pf k) (cB k) c < 10)) && unS m nT pf cB i k c) j) + 0 = nI (cntB (fun c => (decide (seeI m nT (pf i) (cB i) c < 10) && decide (seeI m nT (pf k) (cB k) c < 10)) && unS m nT pf cB i k c) (j + 1)) := by rw [cntB_s]; first | (rw [show decide (seeI m nT (pf i) (cB i) j < 10) = false from decide_eq_false (fun z => absurd ((see_lt2 okT_).mp z) (Int32.not_lt.mpr h98))]; exact ix_ad (b := 0) rfl rfl) | (rw [show decide (seeI m nT (pf k) (cB k) j < 10) = false from decide_eq_false (fun z => absurd ((see_lt2 okT_).mp z) (Int32.not_lt.mpr h104)), Bool.and_false]; exact ix_ad (b := 0) rfl rfl)
                          have k3 : oI (fstB (unS m nT pf cB i k) j) = oI (fstB (unS m nT pf cB i k) (j + 1)) := by rw [fstB_s]; cases hf : fstB (unS m nT pf cB i k) j with | none => exact absurd ((oI_neg (fun z hz => by have := fstB_lt hz; omega)).mpr hf) (Int32.not_lt.mpr h117) | some z => rfl
                          rw [k1, k2, k3]
                          exact ih48 (j + 1) (by omega) (by omega)
                        · refine v_iload C dX10_changed_120 rfl ?_
                          refine v_goto (tgt := 127) C dX10_changed_122 (by decide) ?_
                          refine v_istore (lv' := [(6, .int (nI j)), (5, .int ((nI (cntB (fun c => (decide (seeI m nT (pf i) (cB i) c < 10) && decide (seeI m nT (pf k) (cB k) c < 10)) && unS m nT pf cB i k c) j)) + 0)), (4, .int (nI ((cntB (unS m nT pf cB i k) j) + 1))), (9, .int (seeI m nT (pf k) (cB k) j)), (8, .int (seeI m nT (pf i) (cB i) j)), (0, .ref md), (1, .int (nI i)), (2, .int (nI k)), (3, .int (nI q)), (7, .int (nI j))]) C dX10_changed_127 hN (by decide) rfl ?_
                          refine v_iinc (lv' := [(7, .int (nI (j + 1))), (6, .int (nI j)), (5, .int ((nI (cntB (fun c => (decide (seeI m nT (pf i) (cB i) c < 10) && decide (seeI m nT (pf k) (cB k) c < 10)) && unS m nT pf cB i k c) j)) + 0)), (4, .int (nI ((cntB (unS m nT pf cB i k) j) + 1))), (9, .int (seeI m nT (pf k) (cB k) j)), (8, .int (seeI m nT (pf i) (cB i) j)), (0, .ref md), (1, .int (nI i)), (2, .int (nI k)), (3, .int (nI q))]) C dX10_changed_129 9 rfl (nI_1 _) hN (by decide) rfl ?_
                          refine v_goto (tgt := 48) C dX10_changed_132 (by decide) ?_
                          refine v_sub (lv' := [(0, .ref md), (1, .int (nI i)), (2, .int (nI k)), (3, .int (nI q)), (4, .int (nI ((cntB (unS m nT pf cB i k) j) + 1))), (5, .int ((nI (cntB (fun c => (decide (seeI m nT (pf i) (cB i) c < 10) && decide (seeI m nT (pf k) (cB k) c < 10)) && unS m nT pf cB i k c) j)) + 0)), (6, .int (nI j)), (7, .int (nI (j + 1)))]) [6, 7, 8, 9, 3, 2, 1, 0] rfl ?_
                          have hun : unS m nT pf cB i k j = true := by unfold unS; rw [(see_nn okT_).mp h75, (see_nn okT_).mp h80, decide_eq_false h87]; rfl
                          have k1 : nI (cntB (unS m nT pf cB i k) j + 1) = nI (cntB (unS m nT pf cB i k) (j + 1)) := by rw [cntB_s, hun]; rfl
                          have k2 : nI (cntB (fun c => (decide (seeI m nT (pf i) (cB i) c < 10) && decide (seeI m nT (pf k) (cB k) c < 10)) && unS m nT pf cB i k c) j) + 0 = nI (cntB (fun c => (decide (seeI m nT (pf i) (cB i) c < 10) && decide (seeI m nT (pf k) (cB k) c < 10)) && unS m nT pf cB i k c) (j + 1)) := by rw [cntB_s]; first | (rw [show decide (seeI m nT (pf i) (cB i) j < 10) = false from decide_eq_false (fun z => absurd ((see_lt2 okT_).mp z) (Int32.not_lt.mpr h98))]; exact ix_ad (b := 0) rfl rfl) | (rw [show decide (seeI m nT (pf k) (cB k) j < 10) = false from decide_eq_false (fun z => absurd ((see_lt2 okT_).mp z) (Int32.not_lt.mpr h104)), Bool.and_false]; exact ix_ad (b := 0) rfl rfl)
                          have k3 : nI j = oI (fstB (unS m nT pf cB i k) (j + 1)) := by rw [fstB_s, (oI_neg (fun z hz => by have := fstB_lt hz; omega)).mp (Int32.not_le.mp h117), hun]; rfl
                          rw [k1, k2, k3]
                          exact ih48 (j + 1) (by omega) (by omega)
                      · refine v_iload C dX10_changed_101 rfl ?_
                        refine v_iconst C dX10_changed_103 (v := 2) rfl ?_
                        refine v_icmp_ge (tgt := 111) C dX10_changed_104 (by decide) (fun h104 => ?_) (fun h104 => ?_)
                        · refine v_iconst C dX10_changed_111 (v := 0) rfl ?_
                          refine v_iadd C dX10_changed_112 ?_
                          refine v_istore (lv' := [(5, .int ((nI (cntB (fun c => (decide (seeI m nT (pf i) (cB i) c < 10) && decide (seeI m nT (pf k) (cB k) c < 10)) && unS m nT pf cB i k c) j)) + 0)), (4, .int (nI ((cntB (unS m nT pf cB i k) j) + 1))), (9, .int (seeI m nT (pf k) (cB k) j)), (8, .int (seeI m nT (pf i) (cB i) j)), (0, .ref md), (1, .int (nI i)), (2, .int (nI k)), (3, .int (nI q)), (6, .int (oI (fstB (unS m nT pf cB i k) j))), (7, .int (nI j))]) C dX10_changed_113 hN (by decide) rfl ?_
                          refine v_iload C dX10_changed_115 rfl ?_
                          refine v_if_ge (tgt := 125) C dX10_changed_117 (by decide) (fun h117 => ?_) (fun h117 => ?_)
                          · refine v_iload C dX10_changed_125 rfl ?_
                            refine v_istore (lv' := [(6, .int (oI (fstB (unS m nT pf cB i k) j))), (5, .int ((nI (cntB (fun c => (decide (seeI m nT (pf i) (cB i) c < 10) && decide (seeI m nT (pf k) (cB k) c < 10)) && unS m nT pf cB i k c) j)) + 0)), (4, .int (nI ((cntB (unS m nT pf cB i k) j) + 1))), (9, .int (seeI m nT (pf k) (cB k) j)), (8, .int (seeI m nT (pf i) (cB i) j)), (0, .ref md), (1, .int (nI i)), (2, .int (nI k)), (3, .int (nI q)), (7, .int (nI j))]) C dX10_changed_127 hN (by decide) rfl ?_
                            refine v_iinc (lv' := [(7, .int (nI (j + 1))), (6, .int (oI (fstB (unS m nT pf cB i k) j))), (5, .int ((nI (cntB (fun c => (decide (seeI m nT (pf i) (cB i) c < 10) && decide (seeI m nT (pf k) (cB k) c < 10)) && unS m nT pf cB i k c) j)) + 0)), (4, .int (nI ((cntB (unS m nT pf cB i k) j) + 1))), (9, .int (seeI m nT (pf k) (cB k) j)), (8, .int (seeI m nT (pf i) (cB i) j)), (0, .ref md), (1, .int (nI i)), (2, .int (nI k)), (3, .int (nI q))]) C dX10_changed_129 9 rfl (nI_1 _) hN (by decide) rfl ?_
                            refine v_goto (tgt := 48) C dX10_changed_132 (by decide) ?_
                            refine v_sub (lv' := [(0, .ref md), (1, .int (nI i)), (2, .int (nI k)), (3, .int (nI q)), (4, .int (nI ((cntB (unS m nT pf cB i k) j) + 1))), (5, .int ((nI (cntB (fun c => (decide (seeI m nT (pf i) (cB i) c < 10) && decide (seeI m nT (pf k) (cB k) c < 10)) && unS m nT pf cB i k c) j)) + 0)), (6, .int (oI (fstB (unS m nT pf cB i k) j))), (7, .int (nI (j + 1)))]) [6, 7, 8, 9, 3, 2, 1, 0] rfl ?_
                            have hun : unS m nT pf cB i k j = true := by unfold unS; rw [(see_nn okT_).mp h75, (see_nn okT_).mp h80, decide_eq_false h87]; rfl
                            have k1 : nI (cntB (unS m nT pf cB i k) j + 1) = nI (cntB (unS m nT pf cB i k) (j + 1)) := by rw [cntB_s, hun]; rfl
                            have k2 : nI (cntB (fun c => (decide (seeI m nT (pf i) (cB i) c < 10) && decide (seeI m nT (pf k) (cB k) c < 10)) && unS m nT pf cB i k c) j) + 0 = nI (cntB (fun c => (decide (seeI m nT (pf i) (cB i) c < 10) && decide (seeI m nT (pf k) (cB k) c < 10)) && unS m nT pf cB i k c) (j + 1)) := by rw [cntB_s]; first | (rw [show decide (seeI m nT (pf i) (cB i) j < 10) = false from decide_eq_false (fun z => absurd ((see_lt2 okT_).mp z) (Int32.not_lt.mpr h98))]; exact ix_ad (b := 0) rfl rfl) | (rw [show decide (seeI m nT (pf k) (cB k) j < 10) = false from decide_eq_false (fun z => absurd ((see_lt2 okT_).mp z) (Int32.not_lt.mpr h104)), Bool.and_false]; exact ix_ad (b := 0) rfl rfl)
                            have k3 : oI (fstB (unS m nT pf cB i k) j) = oI (fstB (unS m nT pf cB i k) (j + 1)) := by rw [fstB_s]; cases hf : fstB (unS m nT pf cB i k) j with | none => exact absurd ((oI_neg (fun z hz => by have := fstB_lt hz; omega)).mpr hf) (Int32.not_lt.mpr h117) | some z => rfl
                            rw [k1, k2, k3]
                            exact ih48 (j + 1) (by omega) (by omega)
                          · refine v_iload C dX10_changed_120 rfl ?_
                            refine v_goto (tgt := 127) C dX10_changed_122 (by decide) ?_
                            refine v_istore (lv' := [(6, .int (nI j)), (5, .int ((nI (cntB (fun c => (decide (seeI m nT (pf i) (cB i) c < 10) && decide (seeI m nT (pf k) (cB k) c < 10)) && unS m nT pf cB i k c) j)) + 0)), (4, .int (nI ((cntB (unS m nT pf cB i k) j) + 1))), (9, .int (seeI m nT (pf k) (cB k) j)), (8, .int (seeI m nT (pf i) (cB i) j)), (0, .ref md), (1, .int (nI i)), (2, .int (nI k)), (3, .int (nI q)), (7, .int (nI j))]) C dX10_changed_127 hN (by decide) rfl ?_
                            refine v_iinc (lv' := [(7, .int (nI (j + 1))), (6, .int (nI j)), (5, .int ((nI (cntB (fun c => (decide (seeI m nT (pf i) (cB i) c < 10) && decide (seeI m nT (pf k) (cB k) c < 10)) && unS m nT pf cB i k c) j)) + 0)), (4, .int (nI ((cntB (unS m nT pf cB i k) j) + 1))), (9, .int (seeI m nT (pf k) (cB k) j)), (8, .int (seeI m nT (pf i) (cB i) j)), (0, .ref md), (1, .int (nI i)), (2, .int (nI k)), (3, .int (nI q))]) C dX10_changed_129 9 rfl (nI_1 _) hN (by decide) rfl ?_
                            refine v_goto (tgt := 48) C dX10_changed_132 (by decide) ?_
                            refine v_sub (lv' := [(0, .ref md), (1, .int (nI i)), (2, .int (nI k)), (3, .int (nI q)), (4, .int (nI ((cntB (unS m nT pf cB i k) j) + 1))), (5, .int ((nI (cntB (fun c => (decide (seeI m nT (pf i) (cB i) c < 10) && decide (seeI m nT (pf k) (cB k) c < 10)) && unS m nT pf cB i k c) j)) + 0)), (6, .int (nI j)), (7, .int (nI (j + 1)))]) [6, 7, 8, 9, 3, 2, 1, 0] rfl ?_
                            have hun : unS m nT pf cB i k j = true := by unfold unS; rw [(see_nn okT_).mp h75, (see_nn okT_).mp h80, decide_eq_false h87]; rfl
                            have k1 : nI (cntB (unS m nT pf cB i k) j + 1) = nI (cntB (unS m nT pf cB i k) (j + 1)) := by rw [cntB_s, hun]; rfl
                            have k2 : nI (cntB (fun c => (decide (seeI m nT (pf i) (cB i) c < 10) && decide (seeI m nT (pf k) (cB k) c < 10)) && unS m nT pf cB i k c) j) + 0 = nI (cntB (fun c => (decide (seeI m nT (pf i) (cB i) c < 10) && decide (seeI m nT (pf k) (cB k) c < 10)) && unS m nT pf cB i k c) (j + 1)) := by rw [cntB_s]; first | (rw [show decide (seeI m nT (pf i) (cB i) j < 10) = false from decide_eq_false (fun z => absurd ((see_lt2 okT_).mp z) (Int32.not_lt.mpr h98))]; exact ix_ad (b := 0) rfl rfl) | (rw [show decide (seeI m nT (pf k) (cB k) j < 10) = false from decide_eq_false (fun z => absurd ((see_lt2 okT_).mp z) (Int32.not_lt.mpr h104)), Bool.and_false]; exact ix_ad (b := 0) rfl rfl)
                            have k3 : nI j = oI (fstB (unS m nT pf cB i k) (j + 1)) := by rw [fstB_s, (oI_neg (fun z hz => by have := fstB_lt hz; omega)).mp (Int32.not_le.mp h117), hun]; rfl
                            rw [k1, k2, k3]
                            exact ih48 (j + 1) (by omega) (by omega)
                        · refine v_iconst C dX10_changed_107 (v := 1) rfl ?_
                          refine v_goto (tgt := 112) C dX10_changed_108 (by decide) ?_
                          refine v_iadd C dX10_changed_112 ?_
                          refine v_istore (lv' := [(5, .int ((nI (cntB (fun c => (decide (seeI m nT (pf i) (cB i) c < 10) && decide (seeI m nT (pf k) (cB k) c < 10)) && unS m nT pf cB i k c) j)) + 1)), (4, .int (nI ((cntB (unS m nT pf cB i k) j) + 1))), (9, .int (seeI m nT (pf k) (cB k) j)), (8, .int (seeI m nT (pf i) (cB i) j)), (0, .ref md), (1, .int (nI i)), (2, .int (nI k)), (3, .int (nI q)), (6, .int (oI (fstB (unS m nT pf cB i k) j))), (7, .int (nI j))]) C dX10_changed_113 hN (by decide) rfl ?_
                          refine v_iload C dX10_changed_115 rfl ?_
                          refine v_if_ge (tgt := 125) C dX10_changed_117 (by decide) (fun h117 => ?_) (fun h117 => ?_)
                          · refine v_iload C dX10_changed_125 rfl ?_
                            refine v_istore (lv' := [(6, .int (oI (fstB (unS m nT pf cB i k) j))), (5, .int ((nI (cntB (fun c => (decide (seeI m nT (pf i) (cB i) c < 10) && decide (seeI m nT (pf k) (cB k) c < 10)) && unS m nT pf cB i k c) j)) + 1)), (4, .int (nI ((cntB (unS m nT pf cB i k) j) + 1))), (9, .int (seeI m nT (pf k) (cB k) j)), (8, .int (seeI m nT (pf i) (cB i) j)), (0, .ref md), (1, .int (nI i)), (2, .int (nI k)), (3, .int (nI q)), (7, .int (nI j))]) C dX10_changed_127 hN (by decide) rfl ?_
                            refine v_iinc (lv' := [(7, .int (nI (j + 1))), (6, .int (oI (fstB (unS m nT pf cB i k) j))), (5, .int ((nI (cntB (fun c => (decide (seeI m nT (pf i) (cB i) c < 10) && decide (seeI m nT (pf k) (cB k) c < 10)) && unS m nT pf cB i k c) j)) + 1)), (4, .int (nI ((cntB (unS m nT pf cB i k) j) + 1))), (9, .int (seeI m nT (pf k) (cB k) j)), (8, .int (seeI m nT (pf i) (cB i) j)), (0, .ref md), (1, .int (nI i)), (2, .int (nI k)), (3, .int (nI q))]) C dX10_changed_129 9 rfl (nI_1 _) hN (by decide) rfl ?_
                            refine v_goto (tgt := 48) C dX10_changed_132 (by decide) ?_
                            refine v_sub (lv' := [(0, .ref md), (1, .int (nI i)), (2, .int (nI k)), (3, .int (nI q)), (4, .int (nI ((cntB (unS m nT pf cB i k) j) + 1))), (5, .int ((nI (cntB (fun c => (decide (seeI m nT (pf i) (cB i) c < 10) && decide (seeI m nT (pf k) (cB k) c < 10)) && unS m nT pf cB i k c) j)) + 1)), (6, .int (oI (fstB (unS m nT pf cB i k) j))), (7, .int (nI (j + 1)))]) [6, 7, 8, 9, 3, 2, 1, 0] rfl ?_
                            have hun : unS m nT pf cB i k j = true := by unfold unS; rw [(see_nn okT_).mp h75, (see_nn okT_).mp h80, decide_eq_false h87]; rfl
                            have k1 : nI (cntB (unS m nT pf cB i k) j + 1) = nI (cntB (unS m nT pf cB i k) (j + 1)) := by rw [cntB_s, hun]; rfl
                            have k2 : nI (cntB (fun c => (decide (seeI m nT (pf i) (cB i) c < 10) && decide (seeI m nT (pf k) (cB k) c < 10)) && unS m nT pf cB i k c) j) + 1 = nI (cntB (fun c => (decide (seeI m nT (pf i) (cB i) c < 10) && decide (seeI m nT (pf k) (cB k) c < 10)) && unS m nT pf cB i k c) (j + 1)) := by rw [cntB_s, hun, decide_eq_true ((see_lt2 okT_).mpr (Int32.not_le.mp h98)), decide_eq_true ((see_lt2 okT_).mpr (Int32.not_le.mp h104))]; exact nI_1 _
                            have k3 : oI (fstB (unS m nT pf cB i k) j) = oI (fstB (unS m nT pf cB i k) (j + 1)) := by rw [fstB_s]; cases hf : fstB (unS m nT pf cB i k) j with | none => exact absurd ((oI_neg (fun z hz => by have := fstB_lt hz; omega)).mpr hf) (Int32.not_lt.mpr h117) | some z => rfl
                            rw [k1, k2, k3]
                            exact ih48 (j + 1) (by omega) (by omega)
                          · refine v_iload C dX10_changed_120 rfl ?_
                            refine v_goto (tgt := 127) C dX10_changed_122 (by decide) ?_
                            refine v_istore (lv' := [(6, .int (nI j)), (5, .int ((nI (cntB (fun c => (decide (seeI m nT (pf i) (cB i) c < 10) && decide (seeI m nT (pf k) (cB k) c < 10)) && unS m nT pf cB i k c) j)) + 1)), (4, .int (nI ((cntB (unS m nT pf cB i k) j) + 1))), (9, .int (seeI m nT (pf k) (cB k) j)), (8, .int (seeI m nT (pf i) (cB i) j)), (0, .ref md), (1, .int (nI i)), (2, .int (nI k)), (3, .int (nI q)), (7, .int (nI j))]) C dX10_changed_127 hN (by decide) rfl ?_
                            refine v_iinc (lv' := [(7, .int (nI (j + 1))), (6, .int (nI j)), (5, .int ((nI (cntB (fun c => (decide (seeI m nT (pf i) (cB i) c < 10) && decide (seeI m nT (pf k) (cB k) c < 10)) && unS m nT pf cB i k c) j)) + 1)), (4, .int (nI ((cntB (unS m nT pf cB i k) j) + 1))), (9, .int (seeI m nT (pf k) (cB k) j)), (8, .int (seeI m nT (pf i) (cB i) j)), (0, .ref md), (1, .int (nI i)), (2, .int (nI k)), (3, .int (nI q))]) C dX10_changed_129 9 rfl (nI_1 _) hN (by decide) rfl ?_
                            refine v_goto (tgt := 48) C dX10_changed_132 (by decide) ?_
                            refine v_sub (lv' := [(0, .ref md), (1, .int (nI i)), (2, .int (nI k)), (3, .int (nI q)), (4, .int (nI ((cntB (unS m nT pf cB i k) j) + 1))), (5, .int ((nI (cntB (fun c => (decide (seeI m nT (pf i) (cB i) c < 10) && decide (seeI m nT (pf k) (cB k) c < 10)) && unS m nT pf cB i k c) j)) + 1)), (6, .int (nI j)), (7, .int (nI (j + 1)))]) [6, 7, 8, 9, 3, 2, 1, 0] rfl ?_
                            have hun : unS m nT pf cB i k j = true := by unfold unS; rw [(see_nn okT_).mp h75, (see_nn okT_).mp h80, decide_eq_false h87]; rfl
                            have k1 : nI (cntB (unS m nT pf cB i k) j + 1) = nI (cntB (unS m nT pf cB i k) (j + 1)) := by rw [cntB_s, hun]; rfl
                            have k2 : nI (cntB (fun c => (decide (seeI m nT (pf i) (cB i) c < 10) && decide (seeI m nT (pf k) (cB k) c < 10)) && unS m nT pf cB i k c) j) + 1 = nI (cntB (fun c => (decide (seeI m nT (pf i) (cB i) c < 10) && decide (seeI m nT (pf k) (cB k) c < 10)) && unS m nT pf cB i k c) (j + 1)) := by rw [cntB_s, hun, decide_eq_true ((see_lt2 okT_).mpr (Int32.not_le.mp h98)), decide_eq_true ((see_lt2 okT_).mpr (Int32.not_le.mp h104))]; exact nI_1 _
                            have k3 : nI j = oI (fstB (unS m nT pf cB i k) (j + 1)) := by rw [fstB_s, (oI_neg (fun z hz => by have := fstB_lt hz; omega)).mp (Int32.not_le.mp h117), hun]; rfl
                            rw [k1, k2, k3]
                            exact ih48 (j + 1) (by omega) (by omega)
          exact lp48 (_ + 1) 0 (Nat.zero_le _) (Nat.lt_succ_self _)
        · refine v_bipush C dX10_changed_32 (v := (-2)) rfl ?_
          exact v_iret C E dX10_changed_34 (nle rfl) (nle rfl) ⟨by simp [aChanged, hx, hx2, g18, h29], rfl⟩
      · refine v_iconst C dX10_changed_21 (v := (-1)) rfl ?_
        exact v_iret C E dX10_changed_22 (nle rfl) (nle rfl) ⟨by first | (simp [aChanged, hx, hx2]; done) | simp [aChanged, hx, hx2, nI_eqN (a := i) (b := k) (by omega) (by omega) h18], rfl⟩
    · have hzk := trivial
      show V X (rmD 9 0 0) M 0 0 [(0, .ref md), (1, .int (nI i)), (2, .int b), (3, .int z)] 1 [.ref md]
      refine v_iload_n C dX10_changed_1 rfl ?_
      refine v_callV (As := [.int (nI i)]) (rest := []) (b := md) C (c_X10_isPicture (xl X) (xg X) M md t1 t2 t3 t4 t5 t6 t7 t8 fT fD fP fC fS fU fX fF mo nT m dB nP pf cB nS sg ln tx fl hM (nI i)) pm_X10_isPicture wI_X10_isPicture wS_X10_isPicture wM_X10_67 kX10 hO ⟨by decide, by decide⟩ ⟨by decide, by decide⟩ (nle rfl) dX10_changed_2 rfl (dt1 ?_)
      show V X (rmD 9 0 0) M 0 0 [(0, .ref md), (1, .int (nI i)), (2, .int b), (3, .int z)] 5 [.int (bI ((idx nP (nI i)).isSome))]
      refine v_ifb_eq (tgt := 21) C dX10_changed_5 (by decide) (fun hbad => absurd hbad (by rw [hx]; simp)) (fun h5 => ?_)
      refine v_aload_n C dX10_changed_8 rfl ?_
      refine v_iload_n C dX10_changed_9 rfl ?_
      refine v_callV (As := [.int b]) (rest := []) (b := md) C (c_X10_isPicture (xl X) (xg X) M md t1 t2 t3 t4 t5 t6 t7 t8 fT fD fP fC fS fU fX fF mo nT m dB nP pf cB nS sg ln tx fl hM b) pm_X10_isPicture wI_X10_isPicture wS_X10_isPicture wM_X10_67 kX10 hO ⟨by decide, by decide⟩ ⟨by decide, by decide⟩ (nle rfl) dX10_changed_10 rfl (dt1 ?_)
      show V X (rmD 9 0 0) M 0 0 [(0, .ref md), (1, .int (nI i)), (2, .int b), (3, .int z)] 13 [.int (bI ((idx nP b).isSome))]
      refine v_ifb_eq (tgt := 21) C dX10_changed_13 (by decide) (fun h13 => ?_) (fun hbad => absurd hbad (by rw [hx2]; simp))
      refine v_iconst C dX10_changed_21 (v := (-1)) rfl ?_
      exact v_iret C E dX10_changed_22 (nle rfl) (nle rfl) ⟨by first | (simp [aChanged, hx, hx2]; done) | simp [aChanged, hx, hx2, nI_eqN (a := i) (b := k) (by omega) (by omega) h18], rfl⟩
  · have hzi := trivial
    show V X (rmD 9 0 0) M 0 0 [(0, .ref md), (1, .int a), (2, .int b), (3, .int z)] 0 []
    refine v_aload_n C dX10_changed_0 rfl ?_
    rcases idx_cases nP (by omega) b with ⟨k, lt2, rfl, hx2⟩ | ⟨hn2, hx2⟩
    · have hzk := trivial
      show V X (rmD 9 0 0) M 0 0 [(0, .ref md), (1, .int a), (2, .int (nI k)), (3, .int z)] 1 [.ref md]
      refine v_iload_n C dX10_changed_1 rfl ?_
      refine v_callV (As := [.int a]) (rest := []) (b := md) C (c_X10_isPicture (xl X) (xg X) M md t1 t2 t3 t4 t5 t6 t7 t8 fT fD fP fC fS fU fX fF mo nT m dB nP pf cB nS sg ln tx fl hM a) pm_X10_isPicture wI_X10_isPicture wS_X10_isPicture wM_X10_67 kX10 hO ⟨by decide, by decide⟩ ⟨by decide, by decide⟩ (nle rfl) dX10_changed_2 rfl (dt1 ?_)
      show V X (rmD 9 0 0) M 0 0 [(0, .ref md), (1, .int a), (2, .int (nI k)), (3, .int z)] 5 [.int (bI ((idx nP a).isSome))]
      refine v_ifb_eq (tgt := 21) C dX10_changed_5 (by decide) (fun h5 => ?_) (fun hbad => absurd hbad (by rw [hx]; simp))
      refine v_iconst C dX10_changed_21 (v := (-1)) rfl ?_
      exact v_iret C E dX10_changed_22 (nle rfl) (nle rfl) ⟨by first | (simp [aChanged, hx, hx2]; done) | simp [aChanged, hx, hx2, nI_eqN (a := i) (b := k) (by omega) (by omega) h18], rfl⟩
    · have hzk := trivial
      show V X (rmD 9 0 0) M 0 0 [(0, .ref md), (1, .int a), (2, .int b), (3, .int z)] 1 [.ref md]
      refine v_iload_n C dX10_changed_1 rfl ?_
      refine v_callV (As := [.int a]) (rest := []) (b := md) C (c_X10_isPicture (xl X) (xg X) M md t1 t2 t3 t4 t5 t6 t7 t8 fT fD fP fC fS fU fX fF mo nT m dB nP pf cB nS sg ln tx fl hM a) pm_X10_isPicture wI_X10_isPicture wS_X10_isPicture wM_X10_67 kX10 hO ⟨by decide, by decide⟩ ⟨by decide, by decide⟩ (nle rfl) dX10_changed_2 rfl (dt1 ?_)
      show V X (rmD 9 0 0) M 0 0 [(0, .ref md), (1, .int a), (2, .int b), (3, .int z)] 5 [.int (bI ((idx nP a).isSome))]
      refine v_ifb_eq (tgt := 21) C dX10_changed_5 (by decide) (fun h5 => ?_) (fun hbad => absurd hbad (by rw [hx]; simp))
      refine v_iconst C dX10_changed_21 (v := (-1)) rfl ?_
      exact v_iret C E dX10_changed_22 (nle rfl) (nle rfl) ⟨by first | (simp [aChanged, hx, hx2]; done) | simp [aChanged, hx, hx2, nI_eqN (a := i) (b := k) (by omega) (by omega) h18], rfl⟩


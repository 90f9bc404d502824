/-! Flights. -/
theorem qin_f {i : Nat} (hi : i < 8) : qin (nI i) 0 7 = true := by
  rw [show qin (nI i) 0 7 = qin (nI i) (nI 0) (nI 7) from rfl, qin_N (by omega) (by decide) (by decide)]
  simp
  omega
theorem lN_subT {a b : Nat} (h : b ≤ a) : lN a - lN b = lN (a - b) := lN_sub h
set_option maxHeartbeats 4000000 in
set_option maxRecDepth 100000 in
theorem c_X2_tenthsMissing (l : Launch) (g : Gm) (M : Mem) (fy f0 f1 f2 f3 ja jb : Nat) (fl : Nat → Nat → Nat) (ga gb : Nat → Int64) (i x : Nat) (hi : i < 8) (hx : x < 12) (hY : FlyW g M fy f0 f1 f2 f3 ja jb fl ga gb) : Ct l g yX2_tenthsMissing cX2_tenthsMissing 3 (some .int) 1 0 0 [.ref fy, .int (nI i), .int (nI x)] M (fun v N => v = some (.int (nI (tmN fl i x))) ∧ N = M) := by
  refine Ct.of (by decide) (Nat.le_of_ble_eq_true rfl) ?_
  intro X hXl hXg hN C E
  subst hXl; subst hXg
  show V X (rmD 1 0 0) M 0 0 [(0, .ref fy), (1, .int (nI i)), (2, .int (nI x))] 0 []
  have hfl := hY.2.2.2.2.2.2.2.1 i hi
  refine v_iload_n C dX2_tenthsMissing_0 rfl ?_
  refine v_iconst C dX2_tenthsMissing_1 (v := 0) rfl ?_
  refine v_bipush C dX2_tenthsMissing_2 (v := 7) rfl ?_
  refine v_callSN (As := [.int (nI i), .int 0, .int 7]) (rest := []) C (c_X9_isWithin (xl X) (xg X) (nI i) 0 7 M) pm_X9_isWithin wT_X9_isWithin wMN_X2_31 ⟨by decide, by decide⟩ ⟨by decide, by decide⟩ (nle rfl) dX2_tenthsMissing_4 rfl (dt1 ?_)
  show V X (rmD 1 0 0) M 0 0 [(0, .ref fy), (1, .int (nI i)), (2, .int (nI x))] 7 [.int (bI (qin (nI i) 0 7))]
  refine v_ifb_eq (tgt := 29) C dX2_tenthsMissing_7 (by decide) (fun hbad => absurd hbad (by rw [qin_f hi]; decide)) (fun h7 => ?_)
  refine v_iload_n C dX2_tenthsMissing_10 rfl ?_
  refine v_aload_n C dX2_tenthsMissing_11 rfl ?_
  refine v_get C kX2 hY.1 0 (by decide) wF_X2_11 rfl dX2_tenthsMissing_12 ?_
  refine v_iload_n C dX2_tenthsMissing_15 rfl ?_
  refine v_iald C hY.2.1 (vp_in_nI hi (by decide)) dX2_tenthsMissing_16 ?_
  refine v_aload_n C dX2_tenthsMissing_17 rfl ?_
  refine v_get C kX2 hY.1 1 (by decide) wF_X2_15 rfl dX2_tenthsMissing_18 ?_
  refine v_iload_n C dX2_tenthsMissing_21 rfl ?_
  refine v_iald C hY.2.2.1 (vp_in_nI hi (by decide)) dX2_tenthsMissing_22 ?_
  refine v_callSN (As := [.int (nI x), .int ((fun i => nI (fl i 0)) (nI i : Int32).toNatClampNeg), .int ((fun i => nI (fl i 1)) (nI i : Int32).toNatClampNeg)]) (rest := []) C (c_X9_isWithin (xl X) (xg X) (nI x) ((fun i => nI (fl i 0)) (nI i : Int32).toNatClampNeg) ((fun i => nI (fl i 1)) (nI i : Int32).toNatClampNeg) M) pm_X9_isWithin wT_X9_isWithin wMN_X2_31 ⟨by decide, by decide⟩ ⟨by decide, by decide⟩ (nle rfl) dX2_tenthsMissing_23 rfl (dt1 ?_)
  show V X (rmD 1 0 0) M 0 0 [(0, .ref fy), (1, .int (nI i)), (2, .int (nI x))] 26 [.int (bI (qin (nI x) ((fun i => nI (fl i 0)) (nI i : Int32).toNatClampNeg) ((fun i => nI (fl i 1)) (nI i : Int32).toNatClampNeg)))]
  rw [nI_clamp (by omega), qin_N (by omega) (by omega) (by omega)]
  show V X (rmD 1 0 0) M 0 0 [(0, .ref fy), (1, .int (nI i)), (2, .int (nI x))] 26 [.int (bI (decide (fl i 0 ≤ x) && decide (x ≤ fl i 1)))]
  refine v_ifb_ne (tgt := 32) C dX2_tenthsMissing_26 (by decide) (fun h26 => ?_) (fun h26 => ?_)
  · refine v_bipush C dX2_tenthsMissing_32 (v := 10) rfl ?_
    refine v_aload_n C dX2_tenthsMissing_34 rfl ?_
    refine v_get C kX2 hY.1 2 (by decide) wF_X2_18 rfl dX2_tenthsMissing_35 ?_
    refine v_iload_n C dX2_tenthsMissing_38 rfl ?_
    refine v_iald C hY.2.2.2.1 (vp_in_nI hi (by decide)) dX2_tenthsMissing_39 ?_
    refine v_isub C dX2_tenthsMissing_40 ?_
    exact v_iret C E dX2_tenthsMissing_41 (nle rfl) (nle rfl) ⟨by rw [tmN, if_pos (by simpa using h26), nI_clamp (by omega), show (10 : Int32) = nI 10 from rfl, pk_sub (by omega)], rfl⟩
  · refine v_bipush C dX2_tenthsMissing_29 (v := 10) rfl ?_
    exact v_iret C E dX2_tenthsMissing_31 (nle rfl) (nle rfl) ⟨by rw [tmN, if_neg (by simpa using h26)]; rfl, rfl⟩

set_option maxHeartbeats 4000000 in
set_option maxRecDepth 100000 in
theorem c_X2_riskOf (l : Launch) (g : Gm) (M : Mem) (fy f0 f1 f2 f3 ja jb : Nat) (fl : Nat → Nat → Nat) (ga gb : Nat → Int64) (s : Nat) (hs : s < 256) (hY : FlyW g M fy f0 f1 f2 f3 ja jb fl ga gb) : Ct l g yX2_riskOf cX2_riskOf 4 (some .int) 0 0 0 [.ref fy, .int (nI s)] M (fun v N => v = some (.int (nI (rskN fl s 8))) ∧ N = M) := by
  refine Ct.of (by decide) (Nat.le_of_ble_eq_true rfl) ?_
  intro X hXl hXg hN C E
  subst hXl; subst hXg
  show V X (rmD 0 0 0) M 0 0 [(0, .ref fy), (1, .int (nI s))] 0 []
  refine v_iconst C dX2_riskOf_0 (v := 0) rfl ?_
  refine v_istore_n (lv' := [(2, .int 0), (0, .ref fy), (1, .int (nI s))]) C dX2_riskOf_1 hN (by decide) rfl ?_
  refine v_iconst C dX2_riskOf_2 (v := 0) rfl ?_
  refine v_istore_n (lv' := [(3, .int 0), (2, .int 0), (0, .ref fy), (1, .int (nI s))]) C dX2_riskOf_3 hN (by decide) rfl ?_
  refine v_sub (lv' := [(0, .ref fy), (1, .int (nI s)), (2, .int 0), (3, .int 0)]) [2, 3, 1, 0] rfl ?_
  have lp4 : ∀ (mm : Nat) (i : Nat) (h1 : i ≤ 8), 8 - i < mm → V X (rmD 0 0 0) M 0 0 [(0, .ref fy), (1, .int (nI s)), (2, .int (nI (rskN fl s i))), (3, .int (nI i))] 4 [] := by
    intro mm
    induction mm with
    | zero => intro i h1 hmu; exact absurd hmu (Nat.not_lt_zero _)
    | succ mm ih4 =>
      intro i h1 hmu
      refine v_iload_n C dX2_riskOf_4 rfl ?_
      refine v_bipush C dX2_riskOf_5 (v := 8) rfl ?_
      refine v_icmp_ge (tgt := 34) C dX2_riskOf_7 (by decide) (fun h7 => ?_) (fun h7 => ?_)
      · have g7 : i = 8 := Nat.le_antisymm h1 (nI_leN (a := 8) (by decide) (by omega) h7)
        refine v_iload_n C dX2_riskOf_34 rfl ?_
        exact v_iret C E dX2_riskOf_35 (nle rfl) (nle rfl) ⟨by rw [g7], rfl⟩
      · have g7 := nI_nleN (a := 8) (by decide) (by omega) h7
        have hm2 : s / 2 ^ i % 2 < 2 := Nat.mod_lt _ (by decide)
        refine v_iload_n C dX2_riskOf_10 rfl ?_
        refine v_iload_n C dX2_riskOf_11 rfl ?_
        refine v_ishr C dX2_riskOf_12 ?_
        refine v_iconst C dX2_riskOf_13 (v := 1) rfl ?_
        refine v_iand C dX2_riskOf_14 ?_
        rw [bitI hs g7]
        show V X (rmD 0 0 0) M 0 0 [(0, .ref fy), (1, .int (nI s)), (2, .int (nI (rskN fl s i))), (3, .int (nI i))] 15 [.int (nI (s / 2 ^ i % 2))]
        refine v_iconst C dX2_riskOf_15 (v := 1) rfl ?_
        refine v_icmp_ne (tgt := 28) C dX2_riskOf_16 (by decide) (fun h16 => ?_) (fun h16 => ?_)
        · have g16 := nI_neN (b := 1) (by omega) (by decide) h16
          refine v_iinc (lv' := [(3, .int (nI (i + 1))), (0, .ref fy), (1, .int (nI s)), (2, .int (nI (rskN fl s i)))]) C dX2_riskOf_28 3 rfl (nI_1 _) hN (by decide) rfl ?_
          refine v_goto (tgt := 4) C dX2_riskOf_31 (by decide) ?_
          refine v_sub (lv' := [(0, .ref fy), (1, .int (nI s)), (2, .int (nI (rskN fl s i))), (3, .int (nI (i + 1)))]) [1, 2, 3, 0] rfl ?_
          rw [show nI (rskN fl s i) = nI (rskN fl s (i + 1)) by rw [rskN, show s / 2 ^ i % 2 = 0 by omega, Nat.zero_mul, Nat.add_zero]]
          exact ih4 (i + 1) (by omega) (by omega)
        · have g16 := nI_eqN (b := 1) (by omega) (by decide) h16
          refine v_iload_n C dX2_riskOf_19 rfl ?_
          refine v_aload_n C dX2_riskOf_20 rfl ?_
          refine v_get C kX2 hY.1 3 (by decide) wF_X2_21 rfl dX2_riskOf_21 ?_
          refine v_iload_n C dX2_riskOf_24 rfl ?_
          refine v_iald C hY.2.2.2.2.1 (vp_in_nI g7 (by decide)) dX2_riskOf_25 ?_
          rw [nI_clamp (by omega)]
          show V X (rmD 0 0 0) M 0 0 [(0, .ref fy), (1, .int (nI s)), (2, .int (nI (rskN fl s i))), (3, .int (nI i))] 26 [.int (nI (fl i 3)), .int (nI (rskN fl s i))]
          refine v_iadd C dX2_riskOf_26 ?_
          refine v_istore_n (lv' := [(2, .int ((nI (rskN fl s i)) + (nI (fl i 3)))), (0, .ref fy), (1, .int (nI s)), (3, .int (nI i))]) C dX2_riskOf_27 hN (by decide) rfl ?_
          refine v_iinc (lv' := [(3, .int (nI (i + 1))), (2, .int ((nI (rskN fl s i)) + (nI (fl i 3)))), (0, .ref fy), (1, .int (nI s))]) C dX2_riskOf_28 3 rfl (nI_1 _) hN (by decide) rfl ?_
          refine v_goto (tgt := 4) C dX2_riskOf_31 (by decide) ?_
          refine v_sub (lv' := [(0, .ref fy), (1, .int (nI s)), (2, .int ((nI (rskN fl s i)) + (nI (fl i 3)))), (3, .int (nI (i + 1)))]) [2, 3, 1, 0] rfl ?_
          rw [show (nI (rskN fl s i)) + (nI (fl i 3)) = nI (rskN fl s (i + 1)) by rw [rskN, g16, Nat.one_mul, nI_add]]
          exact ih4 (i + 1) (by omega) (by omega)
  exact lp4 (_ + 1) 0 (Nat.zero_le _) (Nat.lt_succ_self _)

set_option maxHeartbeats 4000000 in
set_option maxRecDepth 100000 in
theorem c_X2_weighColumn (l : Launch) (g : Gm) (M : Mem) (fy f0 f1 f2 f3 ja jb : Nat) (fl : Nat → Nat → Nat) (ga gb : Nat → Int64) (hY : FlyW g M fy f0 f1 f2 f3 ja jb fl ga gb) (x : Nat) (hx : x < 12) (w0 : Nat → Nat) (hw : ∀ s, s < 256 → gb s = lN (w0 s)) : Ct l g yX2_weighColumn cX2_weighColumn 6 none 2 0 0 [.ref fy, .int (nI x)] M (fun v N => v = none ∧ ∃ a b, N = mset (mset M ja (aJ g 256 a)) jb (aJ g 256 b) ∧ ∀ s, s < 256 → b s = lN (w0 s + (100000000 - misN fl x s 8))) := by
  refine Ct.of (by decide) (Nat.le_of_ble_eq_true rfl) ?_
  intro X hXl hXg hN C E
  subst hXl; subst hXg
  show V X (rmD 2 0 0) M 0 0 [(0, .ref fy), (1, .int (nI x))] 0 []
  have hpow : ∀ n, n < 8 → 2 ^ n ≤ 128 := by decide
  refine v_aload_n C dX2_weighColumn_0 rfl ?_
  refine v_get C kX2 hY.1 4 (by decide) wF_X2_24 rfl dX2_weighColumn_1 ?_
  refine v_iconst C dX2_weighColumn_4 (v := 0) rfl ?_
  refine v_ldc2 C dX2_weighColumn_5 wJ_X2_55 ?_
  refine v_last C hY.2.2.2.2.2.1 (vp_in_nI (n := 0) (by decide) (by decide)) dX2_weighColumn_8 ?_
  show V X (rmD 2 0 0) (mset M ja (aJ (xg X) 256 (vp_updL ga (0 : Int32).toNatClampNeg 100000000))) 0 0 [(0, .ref fy), (1, .int (nI x))] 9 []
  refine v_iconst C dX2_weighColumn_9 (v := 0) rfl ?_
  refine v_istore_n (lv' := [(2, .int 0), (0, .ref fy), (1, .int (nI x))]) C dX2_weighColumn_10 hN (by decide) rfl ?_
  refine v_sub (lv' := [(0, .ref fy), (1, .int (nI x)), (2, .int 0)]) [1, 2, 0] rfl ?_
  have lp11 : ∀ (mm : Nat) (n : Nat) (a : Nat → Int64) (b : Nat → Int64) (h1 : n ≤ 8) (h2 : ∀ s, s < 2 ^ n → a s = lN (misN fl x s 8)) (h3 : ∀ s, s < 256 → b s = lN (w0 s + if s < 2 ^ n then 100000000 - misN fl x s 8 else 0)), 8 - n < mm → V X (rmD 2 0 0) (mset (mset M ja (aJ (xg X) 256 a)) jb (aJ (xg X) 256 b)) 0 0 [(0, .ref fy), (1, .int (nI x)), (2, .int (nI n))] 11 [] := by
    intro mm
    induction mm with
    | zero => intro n a b h1 h2 h3 hmu; exact absurd hmu (Nat.not_lt_zero _)
    | succ mm ih11 =>
      intro n a b h1 h2 h3 hmu
      have hY2 := hY.setJ a b
      refine v_iload_n C dX2_weighColumn_11 rfl ?_
      refine v_bipush C dX2_weighColumn_12 (v := 8) rfl ?_
      refine v_icmp_ge (tgt := 99) C dX2_weighColumn_14 (by decide) (fun h14 => ?_) (fun h14 => ?_)
      · have g14 : n = 8 := Nat.le_antisymm h1 (nI_leN (a := 8) (by decide) (by omega) h14)
        exact v_vret C E dX2_weighColumn_99 (nle rfl) (nle rfl) ⟨rfl, a, b, rfl, fun s hs => by rw [h3 s hs, g14, if_pos hs]⟩
      · have g14 := nI_nleN (a := 8) (by decide) (by omega) h14
        have hp := hpow n g14
        refine v_iconst C dX2_weighColumn_17 (v := 1) rfl ?_
        refine v_iload_n C dX2_weighColumn_18 rfl ?_
        refine v_ishl C dX2_weighColumn_19 ?_
        rw [shl1 n (by omega)]
        show V X (rmD 2 0 0) (mset (mset M ja (aJ (xg X) 256 a)) jb (aJ (xg X) 256 b)) 0 0 [(0, .ref fy), (1, .int (nI x)), (2, .int (nI n))] 20 [.int (nI (2 ^ n))]
        refine v_istore_n (lv' := [(3, .int (nI (2 ^ n))), (0, .ref fy), (1, .int (nI x)), (2, .int (nI n))]) C dX2_weighColumn_20 hN (by decide) rfl ?_
        refine v_aload_n C dX2_weighColumn_21 rfl ?_
        refine v_iload_n C dX2_weighColumn_22 rfl ?_
        refine v_iload_n C dX2_weighColumn_23 rfl ?_
        refine v_callV (As := [.int (nI n), .int (nI x)]) (rest := []) (b := fy) C (c_X2_tenthsMissing (xl X) (xg X) (mset (mset M ja (aJ (xg X) 256 a)) jb (aJ (xg X) 256 b)) fy f0 f1 f2 f3 ja jb fl a b n x g14 hx hY2) pm_X2_tenthsMissing wI_X2_tenthsMissing wS_X2_tenthsMissing wM_X2_57 kX2 hY2.1 ⟨by decide, by decide⟩ ⟨by decide, by decide⟩ (nle rfl) dX2_weighColumn_24 rfl (dt1 ?_)
        show V X (rmD 2 0 0) (mset (mset M ja (aJ (xg X) 256 a)) jb (aJ (xg X) 256 b)) 0 0 [(3, .int (nI (2 ^ n))), (0, .ref fy), (1, .int (nI x)), (2, .int (nI n))] 27 [.int (nI (tmN fl n x))]
        refine v_istore (lv' := [(4, .int (nI (tmN fl n x))), (3, .int (nI (2 ^ n))), (0, .ref fy), (1, .int (nI x)), (2, .int (nI n))]) C dX2_weighColumn_27 hN (by decide) rfl ?_
        refine v_iconst C dX2_weighColumn_29 (v := 0) rfl ?_
        refine v_istore (lv' := [(5, .int 0), (4, .int (nI (tmN fl n x))), (3, .int (nI (2 ^ n))), (0, .ref fy), (1, .int (nI x)), (2, .int (nI n))]) C dX2_weighColumn_30 hN (by decide) rfl ?_
        refine v_sub (lv' := [(0, .ref fy), (1, .int (nI x)), (2, .int (nI n)), (3, .int (nI (2 ^ n))), (4, .int (nI (tmN fl n x))), (5, .int 0)]) [3, 4, 5, 2, 1, 0] rfl ?_
        have lp32 : ∀ (mm : Nat) (r : Nat) (a : Nat → Int64) (b : Nat → Int64) (h4 : r ≤ 2 ^ n) (h5 : ∀ s, s < 2 ^ n + r → a s = lN (misN fl x s 8)) (h6 : ∀ s, s < 256 → b s = lN (w0 s + if s < 2 ^ n + r then 100000000 - misN fl x s 8 else 0)), 2 ^ n - r < mm → V X (rmD 2 0 0) (mset (mset M ja (aJ (xg X) 256 a)) jb (aJ (xg X) 256 b)) 0 0 [(0, .ref fy), (1, .int (nI x)), (2, .int (nI n)), (3, .int (nI (2 ^ n))), (4, .int (nI (tmN fl n x))), (5, .int (nI r))] 32 [] := by
          intro mm
          induction mm with
          | zero => intro r a b h4 h5 h6 hmu; exact absurd hmu (Nat.not_lt_zero _)
          | succ mm ih32 =>
            intro r a b h4 h5 h6 hmu
            have hY2 := hY.setJ a b
            refine v_iload C dX2_weighColumn_32 rfl ?_
            refine v_iload_n C dX2_weighColumn_34 rfl ?_
            refine v_icmp_ge (tgt := 93) C dX2_weighColumn_35 (by decide) (fun h35 => ?_) (fun h35 => ?_)
            · have g35 : r = 2 ^ n := Nat.le_antisymm h4 (nI_leN (by omega) (by omega) h35)
              refine v_iinc (lv' := [(2, .int (nI (n + 1))), (0, .ref fy), (1, .int (nI x)), (3, .int (nI (2 ^ n))), (4, .int (nI (tmN fl n x))), (5, .int (nI r))]) C dX2_weighColumn_93 2 rfl (nI_1 _) hN (by decide) rfl ?_
              refine v_goto (tgt := 11) C dX2_weighColumn_96 (by decide) ?_
              refine v_sub (lv' := [(0, .ref fy), (1, .int (nI x)), (2, .int (nI (n + 1)))]) [1, 2, 0] rfl ?_
              exact ih11 (n + 1) a b (by omega) (fun s hs => h5 s (by rw [Nat.pow_succ] at hs; omega)) (fun s hs => by rw [h6 s hs, show 2 ^ n + r = 2 ^ (n + 1) by rw [Nat.pow_succ]; omega]) (by omega)
            · have g35 := nI_nleN (by omega) (by omega) h35
              have hml : misN fl x (2 ^ n + r) 8 ≤ 100000000 := misN_le fl x _ 8
              refine v_aload_n C dX2_weighColumn_38 rfl ?_
              refine v_get C kX2 hY2.1 4 (by decide) wF_X2_24 rfl dX2_weighColumn_39 ?_
              refine v_iload_n C dX2_weighColumn_42 rfl ?_
              refine v_iload C dX2_weighColumn_43 rfl ?_
              refine v_iadd C dX2_weighColumn_45 ?_
              rw [nI_add]
              show V X (rmD 2 0 0) (mset (mset M ja (aJ (xg X) 256 a)) jb (aJ (xg X) 256 b)) 0 0 [(0, .ref fy), (1, .int (nI x)), (2, .int (nI n)), (3, .int (nI (2 ^ n))), (4, .int (nI (tmN fl n x))), (5, .int (nI r))] 46 [.int (nI (2 ^ n + r)), .ref ja]
              refine v_aload_n C dX2_weighColumn_46 rfl ?_
              refine v_get C kX2 hY2.1 4 (by decide) wF_X2_24 rfl dX2_weighColumn_47 ?_
              refine v_iload C dX2_weighColumn_50 rfl ?_
              refine v_lald C hY2.2.2.2.2.2.1 (vp_in_nI (by omega) (by decide)) dX2_weighColumn_52 ?_
              refine v_ldc2 C dX2_weighColumn_53 wJ_X2_61 ?_
              refine v_ldiv C dX2_weighColumn_56 (by decide) ?_
              refine v_iload C dX2_weighColumn_57 rfl ?_
              refine v_i2l C dX2_weighColumn_59 ?_
              refine v_lmul C dX2_weighColumn_60 ?_
              obtain ⟨new, enew0⟩ : ∃ z, z = a (nI r : Int32).toNatClampNeg / 10 * (nI (tmN fl n x) : Int32).toInt64 := ⟨_, rfl⟩
              rw [← enew0]
              have enew : new = lN (misN fl x (2 ^ n + r) 8) := by rw [enew0, nI_clamp (by omega), h5 r (by omega), nI_l (by have := tmN_le fl n x; omega), show (10 : Int64) = lN 10 from rfl, pk_lDiv (by have := misN_le fl x r 8; omega) (by decide) (by decide), lN_mul, misN_new g14 g35]
              show V X (rmD 2 0 0) (mset (mset M ja (aJ (xg X) 256 a)) jb (aJ (xg X) 256 b)) 0 0 [(0, .ref fy), (1, .int (nI x)), (2, .int (nI n)), (3, .int (nI (2 ^ n))), (4, .int (nI (tmN fl n x))), (5, .int (nI r))] 61 [.long new, .int (nI (2 ^ n + r)), .ref ja]
              refine v_last C hY2.2.2.2.2.2.1 (vp_in_nI (by omega) (by decide)) dX2_weighColumn_61 ?_
              show V X (rmD 2 0 0) (mset (mset (mset M ja (aJ (xg X) 256 a)) jb (aJ (xg X) 256 b)) ja (aJ (xg X) 256 (vp_updL a (nI (2 ^ n + r) : Int32).toNatClampNeg new))) 0 0 [(0, .ref fy), (1, .int (nI x)), (2, .int (nI n)), (3, .int (nI (2 ^ n))), (4, .int (nI (tmN fl n x))), (5, .int (nI r))] 62 []
              refine v_aload_n C dX2_weighColumn_62 rfl ?_
              refine v_get C kX2 ((mset_ne (cell_ne hY.1 hY.2.2.2.2.2.1 (by simp))).trans hY2.1) 5 (by decide) wF_X2_28 rfl dX2_weighColumn_63 ?_
              refine v_iload_n C dX2_weighColumn_66 rfl ?_
              refine v_iload C dX2_weighColumn_67 rfl ?_
              refine v_iadd C dX2_weighColumn_69 ?_
              rw [nI_add]
              show V X (rmD 2 0 0) (mset (mset (mset M ja (aJ (xg X) 256 a)) jb (aJ (xg X) 256 b)) ja (aJ (xg X) 256 (vp_updL a (nI (2 ^ n + r) : Int32).toNatClampNeg new))) 0 0 [(0, .ref fy), (1, .int (nI x)), (2, .int (nI n)), (3, .int (nI (2 ^ n))), (4, .int (nI (tmN fl n x))), (5, .int (nI r))] 70 [.int (nI (2 ^ n + r)), .ref jb]
              refine v_dup2 C dX2_weighColumn_70 rfl rfl ?_
              refine v_lald C ((mset_ne ((Ne.symm hY.2.2.2.2.2.2.2.2.2.2.2.2.2.2))).trans hY2.2.2.2.2.2.2.1) (vp_in_nI (by omega) (by decide)) dX2_weighColumn_71 ?_
              refine v_ldc2 C dX2_weighColumn_72 wJ_X2_55 ?_
              refine v_aload_n C dX2_weighColumn_75 rfl ?_
              refine v_get C kX2 ((mset_ne (cell_ne hY.1 hY.2.2.2.2.2.1 (by simp))).trans hY2.1) 4 (by decide) wF_X2_24 rfl dX2_weighColumn_76 ?_
              refine v_iload_n C dX2_weighColumn_79 rfl ?_
              refine v_iload C dX2_weighColumn_80 rfl ?_
              refine v_iadd C dX2_weighColumn_82 ?_
              rw [nI_add]
              show V X (rmD 2 0 0) (mset (mset (mset M ja (aJ (xg X) 256 a)) jb (aJ (xg X) 256 b)) ja (aJ (xg X) 256 (vp_updL a (nI (2 ^ n + r) : Int32).toNatClampNeg new))) 0 0 [(0, .ref fy), (1, .int (nI x)), (2, .int (nI n)), (3, .int (nI (2 ^ n))), (4, .int (nI (tmN fl n x))), (5, .int (nI r))] 83 [.int (nI (2 ^ n + r)), .ref ja, .long 100000000, .long (b (nI (2 ^ n + r) : Int32).toNatClampNeg), .int (nI (2 ^ n + r)), .ref jb]
              refine v_lald C (mset_same _ _ _) (vp_in_nI (by omega) (by decide)) dX2_weighColumn_83 ?_
              rw [show vp_updL a (nI (2 ^ n + r) : Int32).toNatClampNeg new (nI (2 ^ n + r) : Int32).toNatClampNeg = new by simp [vp_updL]]
              show V X (rmD 2 0 0) (mset (mset (mset M ja (aJ (xg X) 256 a)) jb (aJ (xg X) 256 b)) ja (aJ (xg X) 256 (vp_updL a (nI (2 ^ n + r) : Int32).toNatClampNeg new))) 0 0 [(0, .ref fy), (1, .int (nI x)), (2, .int (nI n)), (3, .int (nI (2 ^ n))), (4, .int (nI (tmN fl n x))), (5, .int (nI r))] 84 [.long new, .long 100000000, .long (b (nI (2 ^ n + r) : Int32).toNatClampNeg), .int (nI (2 ^ n + r)), .ref jb]
              refine v_lsub C dX2_weighColumn_84 ?_
              refine v_ladd C dX2_weighColumn_85 ?_
              refine v_last C ((mset_ne ((Ne.symm hY.2.2.2.2.2.2.2.2.2.2.2.2.2.2))).trans hY2.2.2.2.2.2.2.1) (vp_in_nI (by omega) (by decide)) dX2_weighColumn_86 ?_
              show V X (rmD 2 0 0) (mset (mset (mset (mset M ja (aJ (xg X) 256 a)) jb (aJ (xg X) 256 b)) ja (aJ (xg X) 256 (vp_updL a (nI (2 ^ n + r) : Int32).toNatClampNeg new))) jb (aJ (xg X) 256 (vp_updL b (nI (2 ^ n + r) : Int32).toNatClampNeg ((b (nI (2 ^ n + r) : Int32).toNatClampNeg) + (100000000 - new))))) 0 0 [(0, .ref fy), (1, .int (nI x)), (2, .int (nI n)), (3, .int (nI (2 ^ n))), (4, .int (nI (tmN fl n x))), (5, .int (nI r))] 87 []
              refine v_iinc (lv' := [(5, .int (nI (r + 1))), (0, .ref fy), (1, .int (nI x)), (2, .int (nI n)), (3, .int (nI (2 ^ n))), (4, .int (nI (tmN fl n x)))]) C dX2_weighColumn_87 5 rfl (nI_1 _) hN (by decide) rfl ?_
              refine v_goto (tgt := 32) C dX2_weighColumn_90 (by decide) ?_
              refine v_sub (lv' := [(0, .ref fy), (1, .int (nI x)), (2, .int (nI n)), (3, .int (nI (2 ^ n))), (4, .int (nI (tmN fl n x))), (5, .int (nI (r + 1)))]) [1, 2, 3, 4, 5, 0] rfl ?_
              rw [mset_4 hY.2.2.2.2.2.2.2.2.2.2.2.2.2.2]
              refine ih32 (r + 1) _ _ (by omega) (fun s hs => ?_) (fun s hs => ?_) (by omega)
              · by_cases q : s = 2 ^ n + r
                · rw [q, nI_clamp (by omega), enew]; simp [vp_updL]
                · rw [nI_clamp (by omega), show ∀ z, vp_updL a (2 ^ n + r) z s = a s from fun z => by simp [vp_updL, q]]; exact h5 s (by omega)
              · by_cases q : s = 2 ^ n + r
                · rw [q, nI_clamp (by omega), if_pos (by omega)]; simp only [vp_updL, if_true]; rw [enew, h6 _ (by omega), if_neg (by omega), Nat.add_zero, show (100000000 : Int64) = lN 100000000 from rfl, lN_sub hml, lN_add]
                · rw [nI_clamp (by omega), show ∀ z, vp_updL b (2 ^ n + r) z s = b s from fun z => by simp [vp_updL, q], h6 s hs]; simp only [show (s < 2 ^ n + (r + 1)) ↔ (s < 2 ^ n + r) from by omega]
        exact lp32 (_ + 1) 0 a b (Nat.zero_le _) (fun s hs => h2 s (by omega)) (fun s hs => h3 s hs) (Nat.lt_succ_self _)
  have qa : ∀ s, s < 2 ^ 0 → (vp_updL ga 0 100000000) s = lN (misN fl x s 8) := fun s hs => by rw [show s = 0 by omega, misN_0]; simp [vp_updL]; rfl
  have qb : ∀ s, s < 256 → gb s = lN (w0 s + if s < 2 ^ 0 then 100000000 - misN fl x s 8 else 0) := fun s hs => by
    rw [hw s hs]
    by_cases z : s < 2 ^ 0
    · rw [if_pos z, show s = 0 by omega, misN_0, Nat.sub_self, Nat.add_zero]
    · rw [if_neg z, Nat.add_zero]
  have q := lp11 (_ + 1) 0 _ gb (Nat.zero_le _) qa qb (Nat.lt_succ_self _)
  rw [mset_id ((mset_ne (Ne.symm hY.2.2.2.2.2.2.2.2.2.2.2.2.2.2)).trans hY.2.2.2.2.2.2.1)] at q
  exact q

set_option maxHeartbeats 4000000 in
set_option maxRecDepth 100000 in
theorem c_X2_weigh (l : Launch) (g : Gm) (M : Mem) (fy f0 f1 f2 f3 ja jb : Nat) (fl : Nat → Nat → Nat) (ga gb : Nat → Int64) (hY : FlyW g M fy f0 f1 f2 f3 ja jb fl ga gb) (la ta : Nat) (th mk dn : Nat → Nat) (nT : Nat) (m : Nat → Nat → Nat) (lo hi : Nat → Int64) (hL : LandW g M la ta th mk dn nT m lo hi) : Ct l g yX2_weigh cX2_weigh 4 none 3 0 0 [.ref fy, .ref la] M (fun v N => v = none ∧ ∃ a b, N = mset (mset M ja (aJ g 256 a)) jb (aJ g 256 b) ∧ ∀ s, s < 256 → b s = lN (worN fl m s nT)) := by
  refine Ct.of (by decide) (Nat.le_of_ble_eq_true rfl) ?_
  intro X hXl hXg hN C E
  subst hXl; subst hXg
  show V X (rmD 3 0 0) M 0 0 [(0, .ref fy), (1, .ref la)] 0 []
  have h12 := hL.1
  refine v_iconst C dX2_weigh_0 (v := 0) rfl ?_
  refine v_istore_n (lv' := [(2, .int 0), (0, .ref fy), (1, .ref la)]) C dX2_weigh_1 hN (by decide) rfl ?_
  refine v_sub (lv' := [(0, .ref fy), (1, .ref la), (2, .int 0)]) [1, 2, 0] rfl ?_
  have lp2 : ∀ (mm : Nat) (k : Nat) (a : Nat → Int64) (b : Nat → Int64) (h1 : k ≤ 256) (h2 : ∀ s, s < k → b s = 0), 256 - k < mm → V X (rmD 3 0 0) (mset (mset M ja (aJ (xg X) 256 a)) jb (aJ (xg X) 256 b)) 0 0 [(0, .ref fy), (1, .ref la), (2, .int (nI k))] 2 [] := by
    intro mm
    induction mm with
    | zero => intro k a b h1 h2 hmu; exact absurd hmu (Nat.not_lt_zero _)
    | succ mm ih2 =>
      intro k a b h1 h2 hmu
      have hY2 := hY.setJ a b
      have hL2 := (hL.setJ hY.2.2.2.2.2.1 (aJ (xg X) 256 a)).setJ ((mset_ne (Ne.symm hY.2.2.2.2.2.2.2.2.2.2.2.2.2.2)).trans hY.2.2.2.2.2.2.1) (aJ (xg X) 256 b)
      refine v_iload_n C dX2_weigh_2 rfl ?_
      refine v_sipush C dX2_weigh_3 (v := 256) rfl ?_
      refine v_icmp_ge (tgt := 22) C dX2_weigh_6 (by decide) (fun h6 => ?_) (fun h6 => ?_)
      · have g6 : k = 256 := Nat.le_antisymm h1 (nI_leN (a := 256) (by decide) (by omega) h6)
        refine v_iconst C dX2_weigh_22 (v := 0) rfl ?_
        refine v_istore_n (lv' := [(2, .int 0), (0, .ref fy), (1, .ref la)]) C dX2_weigh_23 hN (by decide) rfl ?_
        refine v_sub (lv' := [(0, .ref fy), (1, .ref la), (2, .int 0)]) [1, 2, 0] rfl ?_
        have lp24 : ∀ (mm : Nat) (i : Nat) (a : Nat → Int64) (b : Nat → Int64) (h3 : i ≤ nT) (h4 : ∀ s, s < 256 → b s = lN (worN fl m s i)), nT - i < mm → V X (rmD 3 0 0) (mset (mset M ja (aJ (xg X) 256 a)) jb (aJ (xg X) 256 b)) 0 0 [(0, .ref fy), (1, .ref la), (2, .int (nI i))] 24 [] := by
          intro mm
          induction mm with
          | zero => intro i a b h3 h4 hmu; exact absurd hmu (Nat.not_lt_zero _)
          | succ mm ih24 =>
            intro i a b h3 h4 hmu
            have hY2 := hY.setJ a b
            have hL2 := (hL.setJ hY.2.2.2.2.2.1 (aJ (xg X) 256 a)).setJ ((mset_ne (Ne.symm hY.2.2.2.2.2.2.2.2.2.2.2.2.2.2)).trans hY.2.2.2.2.2.2.1) (aJ (xg X) 256 b)
            refine v_iload_n C dX2_weigh_24 rfl ?_
            refine v_aload_n C dX2_weigh_25 rfl ?_
            refine v_callV (As := []) (rest := [.int (nI i)]) (b := la) C (c_X3_size (xl X) (xg X) (mset (mset M ja (aJ (xg X) 256 a)) jb (aJ (xg X) 256 b)) la ta th mk dn nT m lo hi hL2) pm_X3_size wI_X3_size wS_X3_size wM_X2_35 kX3 hL2.2.1 ⟨by decide, by decide⟩ ⟨by decide, by decide⟩ (nle rfl) dX2_weigh_26 rfl (dt1 ?_)
            show V X (rmD 3 0 0) (mset (mset M ja (aJ (xg X) 256 a)) jb (aJ (xg X) 256 b)) 0 0 [(0, .ref fy), (1, .ref la), (2, .int (nI i))] 29 [.int (nI nT), .int (nI i)]
            refine v_icmp_ge (tgt := 67) C dX2_weigh_29 (by decide) (fun h29 => ?_) (fun h29 => ?_)
            · have g29 : i = nT := Nat.le_antisymm h3 (nI_leN (by omega) (by omega) h29)
              exact v_vret C E dX2_weigh_67 (nle rfl) (nle rfl) ⟨rfl, a, b, rfl, fun s hs => by rw [h4 s hs, g29]⟩
            · have g29 := nI_nleN (by omega) (by omega) h29
              have hok := (hL.2.2.2 i g29).2.2.2
              unfold okM at hok
              refine v_aload_n C dX2_weigh_32 rfl ?_
              refine v_iload_n C dX2_weigh_33 rfl ?_
              refine v_callV (As := [.int (nI i)]) (rest := []) (b := la) C (c_X3_find (xl X) (xg X) (mset (mset M ja (aJ (xg X) 256 a)) jb (aJ (xg X) 256 b)) la ta th mk dn nT m lo hi i g29 hL2) pm_X3_find wI_X3_find wS_X3_find wM_X2_41 kX3 hL2.2.1 ⟨by decide, by decide⟩ ⟨by decide, by decide⟩ (nle rfl) dX2_weigh_34 rfl (dt1 ?_)
              show V X (rmD 3 0 0) (mset (mset M ja (aJ (xg X) 256 a)) jb (aJ (xg X) 256 b)) 0 0 [(0, .ref fy), (1, .ref la), (2, .int (nI i))] 37 [.ref (th i)]
              refine v_astore_n (lv' := [(3, .ref (th i)), (0, .ref fy), (1, .ref la), (2, .int (nI i))]) C dX2_weigh_37 hN (by decide) rfl ?_
              refine v_aload_n C dX2_weigh_38 rfl ?_
              refine v_ifnull C dX2_weigh_39 ?_
              refine v_aload_n C dX2_weigh_42 rfl ?_
              refine v_bipush C dX2_weigh_43 (v := 10) rfl ?_
              refine v_callV (As := [.int 10]) (rest := []) (b := th i) C (c_X6_mark (xl X) (xg X) (mset (mset M ja (aJ (xg X) 256 a)) jb (aJ (xg X) 256 b)) (th i) (mk i) (dn i) (nI i) (fun w => nI (m i w)) 10 (by decide) ((hL2.2.2.2 i g29).1) ((hL2.2.2.2 i g29).2.1)) pm_X6_mark wI_X6_mark wS_X6_mark wM_X2_45 kX6 ((hL2.2.2.2 i g29).1) ⟨by decide, by decide⟩ ⟨by decide, by decide⟩ (nle rfl) dX2_weigh_45 rfl (dt1 ?_)
              show V X (rmD 3 0 0) (mset (mset M ja (aJ (xg X) 256 a)) jb (aJ (xg X) 256 b)) 0 0 [(3, .ref (th i)), (0, .ref fy), (1, .ref la), (2, .int (nI i))] 48 [.int (nI (m i 10))]
              refine v_iconst C dX2_weigh_48 (v := 1) rfl ?_
              refine v_icmp_ne (tgt := 61) C dX2_weigh_49 (by decide) (fun h49 => ?_) (fun h49 => ?_)
              · have g49 := nI_neN (b := 1) (by omega) (by decide) h49
                refine v_iinc (lv' := [(2, .int (nI (i + 1))), (3, .ref (th i)), (0, .ref fy), (1, .ref la)]) C dX2_weigh_61 3 rfl (nI_1 _) hN (by decide) rfl ?_
                refine v_goto (tgt := 24) C dX2_weigh_64 (by decide) ?_
                refine v_sub (lv' := [(0, .ref fy), (1, .ref la), (2, .int (nI (i + 1)))]) [2, 3, 0] rfl ?_
                exact ih24 (i + 1) a b (by omega) (fun s hs => by rw [h4 s hs, worN, if_neg g49, Nat.add_zero]) (by omega)
              · have g49 := nI_eqN (b := 1) (by omega) (by decide) h49
                refine v_aload_n C dX2_weigh_52 rfl ?_
                refine v_aload_n C dX2_weigh_53 rfl ?_
                refine v_iconst C dX2_weigh_54 (v := 0) rfl ?_
                refine v_callV (As := [.int 0]) (rest := [.ref fy]) (b := th i) C (c_X6_mark (xl X) (xg X) (mset (mset M ja (aJ (xg X) 256 a)) jb (aJ (xg X) 256 b)) (th i) (mk i) (dn i) (nI i) (fun w => nI (m i w)) 0 (by decide) ((hL2.2.2.2 i g29).1) ((hL2.2.2.2 i g29).2.1)) pm_X6_mark wI_X6_mark wS_X6_mark wM_X2_45 kX6 ((hL2.2.2.2 i g29).1) ⟨by decide, by decide⟩ ⟨by decide, by decide⟩ (nle rfl) dX2_weigh_55 rfl (dt1 ?_)
                show V X (rmD 3 0 0) (mset (mset M ja (aJ (xg X) 256 a)) jb (aJ (xg X) 256 b)) 0 0 [(3, .ref (th i)), (0, .ref fy), (1, .ref la), (2, .int (nI i))] 58 [.int (nI (m i 0)), .ref fy]
                refine v_callV (As := [.int (nI (m i 0))]) (rest := []) (b := fy) C (c_X2_weighColumn (xl X) (xg X) (mset (mset M ja (aJ (xg X) 256 a)) jb (aJ (xg X) 256 b)) fy f0 f1 f2 f3 ja jb fl a b hY2 (m i 0) (by omega) (fun s => worN fl m s i) h4) pm_X2_weighColumn wI_X2_weighColumn wS_X2_weighColumn wM_X2_51 kX2 hY2.1 ⟨by decide, by decide⟩ ⟨by decide, by decide⟩ (nle rfl) dX2_weigh_58 rfl ?_
                rintro _ _ ⟨rfl, a', b', rfl, hb'⟩
                show V X (rmD 3 0 0) (mset (mset (mset (mset M ja (aJ (xg X) 256 a)) jb (aJ (xg X) 256 b)) ja (aJ (xg X) 256 a')) jb (aJ (xg X) 256 b')) 0 0 [(3, .ref (th i)), (0, .ref fy), (1, .ref la), (2, .int (nI i))] 61 []
                refine v_iinc (lv' := [(2, .int (nI (i + 1))), (3, .ref (th i)), (0, .ref fy), (1, .ref la)]) C dX2_weigh_61 3 rfl (nI_1 _) hN (by decide) rfl ?_
                refine v_goto (tgt := 24) C dX2_weigh_64 (by decide) ?_
                refine v_sub (lv' := [(0, .ref fy), (1, .ref la), (2, .int (nI (i + 1)))]) [2, 3, 0] rfl ?_
                rw [mset_4 hY.2.2.2.2.2.2.2.2.2.2.2.2.2.2]
                exact ih24 (i + 1) a' b' (by omega) (fun s hs => by rw [hb' s hs, worN, if_pos g49]) (by omega)
        exact lp24 (_ + 1) 0 a b (Nat.zero_le _) (fun s hs => by rw [h2 s (by omega)]; rfl) (Nat.lt_succ_self _)
      · have g6 := nI_nleN (a := 256) (by decide) (by omega) h6
        refine v_aload_n C dX2_weigh_9 rfl ?_
        refine v_get C kX2 hY2.1 5 (by decide) wF_X2_28 rfl dX2_weigh_10 ?_
        refine v_iload_n C dX2_weigh_13 rfl ?_
        refine v_lconst C dX2_weigh_14 (v := 0) rfl ?_
        refine v_last C hY2.2.2.2.2.2.2.1 (vp_in_nI g6 (by decide)) dX2_weigh_15 ?_
        show V X (rmD 3 0 0) (mset (mset (mset M ja (aJ (xg X) 256 a)) jb (aJ (xg X) 256 b)) jb (aJ (xg X) 256 (vp_updL b (nI k : Int32).toNatClampNeg 0))) 0 0 [(0, .ref fy), (1, .ref la), (2, .int (nI k))] 16 []
        refine v_iinc (lv' := [(2, .int (nI (k + 1))), (0, .ref fy), (1, .ref la)]) C dX2_weigh_16 2 rfl (nI_1 _) hN (by decide) rfl ?_
        refine v_goto (tgt := 2) C dX2_weigh_19 (by decide) ?_
        refine v_sub (lv' := [(0, .ref fy), (1, .ref la), (2, .int (nI (k + 1)))]) [1, 2, 0] rfl ?_
        rw [mset_mset, nI_clamp (by omega)]
        exact ih2 (k + 1) a _ (by omega) (fun j hj => by by_cases q : j = k <;> simp [vp_updL, q]; exact h2 j (by omega)) (by omega)
  have q := lp2 (_ + 1) 0 ga gb (Nat.zero_le _) (fun j hj => absurd hj (Nat.not_lt_zero _)) (Nat.lt_succ_self _)
  rw [mset_id hY.2.2.2.2.2.1, mset_id hY.2.2.2.2.2.2.1] at q
  exact q

set_option maxHeartbeats 4000000 in
set_option maxRecDepth 100000 in
theorem c_X2_weight (l : Launch) (g : Gm) (M : Mem) (fy f0 f1 f2 f3 ja jb : Nat) (fl : Nat → Nat → Nat) (ga gb : Nat → Int64) (s : Nat) (hs : s < 256) (hY : FlyW g M fy f0 f1 f2 f3 ja jb fl ga gb) : Ct l g yX2_weight cX2_weight 2 (some .long) 1 0 0 [.ref fy, .int (nI s)] M (fun v N => v = some (.long (gb s)) ∧ N = M) := by
  refine Ct.of (by decide) (Nat.le_of_ble_eq_true rfl) ?_
  intro X hXl hXg hN C E
  subst hXl; subst hXg
  show V X (rmD 1 0 0) M 0 0 [(0, .ref fy), (1, .int (nI s))] 0 []
  have hq : qin (nI s) 0 255 = true := by rw [show qin (nI s) 0 255 = qin (nI s) (nI 0) (nI 255) from rfl, qin_N (by omega) (by decide) (by decide)]; simp; omega
  refine v_iload_n C dX2_weight_0 rfl ?_
  refine v_iconst C dX2_weight_1 (v := 0) rfl ?_
  refine v_sipush C dX2_weight_2 (v := 255) rfl ?_
  refine v_callSN (As := [.int (nI s), .int 0, .int 255]) (rest := []) C (c_X9_isWithin (xl X) (xg X) (nI s) 0 255 M) pm_X9_isWithin wT_X9_isWithin wMN_X2_31 ⟨by decide, by decide⟩ ⟨by decide, by decide⟩ (nle rfl) dX2_weight_5 rfl (dt1 ?_)
  show V X (rmD 1 0 0) M 0 0 [(0, .ref fy), (1, .int (nI s))] 8 [.int (bI (qin (nI s) 0 255))]
  refine v_ifb_eq (tgt := 20) C dX2_weight_8 (by decide) (fun hbad => absurd hbad (by rw [hq]; decide)) (fun h8 => ?_)
  refine v_aload_n C dX2_weight_11 rfl ?_
  refine v_get C kX2 hY.1 5 (by decide) wF_X2_28 rfl dX2_weight_12 ?_
  refine v_iload_n C dX2_weight_15 rfl ?_
  refine v_lald C hY.2.2.2.2.2.2.1 (vp_in_nI hs (by decide)) dX2_weight_16 ?_
  refine v_goto (tgt := 21) C dX2_weight_17 (by decide) ?_
  exact v_lret C E dX2_weight_21 (nle rfl) (nle rfl) ⟨by rw [nI_clamp (by omega)], rfl⟩

theorem rsk_0 (fl : Nat → Nat → Nat) : rskN fl 0 8 = 0 := by simp [rskN]
theorem lN_gain {a b : Nat} (ha : a < 2 ^ 40) (hb : b < 2 ^ 40) : ((0 : Int64) < lN a - lN b ↔ b < a) ∧ (lN a - lN b = 0 ↔ a = b) := by
  rcases Nat.lt_or_ge a b with q | q
  · have e : lN a - lN b = - lN (b - a) := by
      rw [← lN_sub (Nat.le_of_lt q), Int64.neg_sub]
    have t : (lN (b - a)).toInt = ((b - a : Nat) : Int) := pk_lT (by omega)
    have t2 : (- lN (b - a)).toInt = -((b - a : Nat) : Int) := by
      rw [Int64.toInt_neg, t]
      exact Int.bmod_eq_of_le (by omega) (by omega)
    rw [e]
    constructor
    · rw [Int64.lt_iff_toInt_lt, t2, show (0 : Int64).toInt = 0 from rfl]
      omega
    · rw [← Int64.toInt_inj, t2, show (0 : Int64).toInt = 0 from rfl]
      omega
  · rw [lN_sub q]
    have t : (lN (a - b)).toInt = ((a - b : Nat) : Int) := pk_lT (by omega)
    constructor
    · rw [Int64.lt_iff_toInt_lt, t, show (0 : Int64).toInt = 0 from rfl]
      omega
    · rw [← Int64.toInt_inj, t, show (0 : Int64).toInt = 0 from rfl]
      omega
set_option maxHeartbeats 4000000 in
set_option maxRecDepth 100000 in
theorem c_X2_choose (l : Launch) (g : Gm) (M : Mem) (fy f0 f1 f2 f3 ja jb : Nat) (fl : Nat → Nat → Nat) (ga gb : Nat → Int64) (p : Nat) (hp : p ≤ 800) (W : Nat → Nat) (hb : ∀ s, s < 256 → gb s = lN (W s)) (hB : ∀ s, W s ≤ 1200000000) (hY : FlyW g M fy f0 f1 f2 f3 ja jb fl ga gb) : Ct l g yX2_choose cX2_choose 8 (some .int) 1 0 0 [.ref fy, .int (nI p)] M (fun v N => v = some (.int (nI (chsN W (fun s => rskN fl s 8) p 255))) ∧ N = M) := by
  refine Ct.of (by decide) (Nat.le_of_ble_eq_true rfl) ?_
  intro X hXl hXg hN C E
  subst hXl; subst hXg
  show V X (rmD 1 0 0) M 0 0 [(0, .ref fy), (1, .int (nI p))] 0 []
  have hfl := hY.2.2.2.2.2.2.2.1
  refine v_iconst C dX2_choose_0 (v := 0) rfl ?_
  refine v_istore_n (lv' := [(2, .int 0), (0, .ref fy), (1, .int (nI p))]) C dX2_choose_1 hN (by decide) rfl ?_
  refine v_iconst C dX2_choose_2 (v := 0) rfl ?_
  refine v_istore_n (lv' := [(3, .int 0), (2, .int 0), (0, .ref fy), (1, .int (nI p))]) C dX2_choose_3 hN (by decide) rfl ?_
  refine v_iconst C dX2_choose_4 (v := 1) rfl ?_
  refine v_istore (lv' := [(4, .int 1), (3, .int 0), (2, .int 0), (0, .ref fy), (1, .int (nI p))]) C dX2_choose_5 hN (by decide) rfl ?_
  refine v_sub (lv' := [(0, .ref fy), (1, .int (nI p)), (2, .int 0), (3, .int 0), (4, .int 1)]) [3, 4, 2, 1, 0] rfl ?_
  have lp7 : ∀ (mm : Nat) (n : Nat) (h1 : n ≤ 255), 255 - n < mm → V X (rmD 1 0 0) M 0 0 [(0, .ref fy), (1, .int (nI p)), (2, .int (nI (chsN W (fun s => rskN fl s 8) p n))), (3, .int (nI (rskN fl (chsN W (fun s => rskN fl s 8) p n) 8))), (4, .int (nI (n + 1)))] 7 [] := by
    intro mm
    induction mm with
    | zero => intro n h1 hmu; exact absurd hmu (Nat.not_lt_zero _)
    | succ mm ih7 =>
      intro n h1 hmu
      refine v_iload C dX2_choose_7 rfl ?_
      refine v_sipush C dX2_choose_9 (v := 256) rfl ?_
      refine v_icmp_ge (tgt := 80) C dX2_choose_12 (by decide) (fun h12 => ?_) (fun h12 => ?_)
      · have g12 : n = 255 := by have := nI_leN (a := 256) (by decide) (by omega) h12; omega
        refine v_iload_n C dX2_choose_80 rfl ?_
        exact v_iret C E dX2_choose_81 (nle rfl) (nle rfl) ⟨by rw [g12], rfl⟩
      · have g12 := nI_nleN (a := 256) (by decide) (by omega) h12
        have hcl := chsN_le W (fun s => rskN fl s 8) p n
        have hr1 := rskN_le hfl (s := n + 1) (Nat.le_refl 8)
        have hr2 := rskN_le hfl (s := chsN W (fun s => rskN fl s 8) p n) (Nat.le_refl 8)
        have hB1 := hB (n + 1)
        have hB2 := hB (chsN W (fun s => rskN fl s 8) p n)
        refine v_aload_n C dX2_choose_15 rfl ?_
        refine v_iload C dX2_choose_16 rfl ?_
        refine v_callV (As := [.int (nI (n + 1))]) (rest := []) (b := fy) C (c_X2_riskOf (xl X) (xg X) M fy f0 f1 f2 f3 ja jb fl ga gb ((n + 1)) (by omega) hY) pm_X2_riskOf wI_X2_riskOf wS_X2_riskOf wM_X2_63 kX2 hY.1 ⟨by decide, by decide⟩ ⟨by decide, by decide⟩ (nle rfl) dX2_choose_18 rfl (dt1 ?_)
        show V X (rmD 1 0 0) M 0 0 [(0, .ref fy), (1, .int (nI p)), (2, .int (nI (chsN W (fun s => rskN fl s 8) p n))), (3, .int (nI (rskN fl (chsN W (fun s => rskN fl s 8) p n) 8))), (4, .int (nI (n + 1)))] 21 [.int (nI (rskN fl ((n + 1)) 8))]
        refine v_istore (lv' := [(5, .int (nI (rskN fl ((n + 1)) 8))), (0, .ref fy), (1, .int (nI p)), (2, .int (nI (chsN W (fun s => rskN fl s 8) p n))), (3, .int (nI (rskN fl (chsN W (fun s => rskN fl s 8) p n) 8))), (4, .int (nI (n + 1)))]) C dX2_choose_21 hN (by decide) rfl ?_
        refine v_iload C dX2_choose_23 rfl ?_
        refine v_iload_n C dX2_choose_25 rfl ?_
        refine v_icmp_le (tgt := 32) C dX2_choose_26 (by decide) (fun h26 => ?_) (fun h26 => ?_)
        · have g26 := nI_leN (by omega) (by omega) h26
          refine v_aload_n C dX2_choose_32 rfl ?_
          refine v_get C kX2 hY.1 5 (by decide) wF_X2_28 rfl dX2_choose_33 ?_
          refine v_iload C dX2_choose_36 rfl ?_
          refine v_lald C hY.2.2.2.2.2.2.1 (vp_in_nI (by omega) (by decide)) dX2_choose_38 ?_
          rw [nI_clamp (n := n + 1) (by omega), hb _ (by omega)]
          show V X (rmD 1 0 0) M 0 0 [(5, .int (nI (rskN fl ((n + 1)) 8))), (0, .ref fy), (1, .int (nI p)), (2, .int (nI (chsN W (fun s => rskN fl s 8) p n))), (3, .int (nI (rskN fl (chsN W (fun s => rskN fl s 8) p n) 8))), (4, .int (nI (n + 1)))] 39 [.long (lN (W (n + 1)))]
          refine v_aload_n C dX2_choose_39 rfl ?_
          refine v_get C kX2 hY.1 5 (by decide) wF_X2_28 rfl dX2_choose_40 ?_
          refine v_iload_n C dX2_choose_43 rfl ?_
          refine v_lald C hY.2.2.2.2.2.2.1 (vp_in_nI (by omega) (by decide)) dX2_choose_44 ?_
          rw [nI_clamp (n := chsN W (fun s => rskN fl s 8) p n) (by omega), hb _ (by omega)]
          show V X (rmD 1 0 0) M 0 0 [(5, .int (nI (rskN fl ((n + 1)) 8))), (0, .ref fy), (1, .int (nI p)), (2, .int (nI (chsN W (fun s => rskN fl s 8) p n))), (3, .int (nI (rskN fl (chsN W (fun s => rskN fl s 8) p n) 8))), (4, .int (nI (n + 1)))] 45 [.long (lN (W (chsN W (fun s => rskN fl s 8) p n))), .long (lN (W (n + 1)))]
          refine v_lsub C dX2_choose_45 ?_
          refine v_lstore (lv' := [(6, .long ((lN (W (n + 1))) - (lN (W (chsN W (fun s => rskN fl s 8) p n))))), (5, .int (nI (rskN fl ((n + 1)) 8))), (0, .ref fy), (1, .int (nI p)), (2, .int (nI (chsN W (fun s => rskN fl s 8) p n))), (3, .int (nI (rskN fl (chsN W (fun s => rskN fl s 8) p n) 8))), (4, .int (nI (n + 1)))]) C dX2_choose_46 hN (by decide) rfl ?_
          refine v_lload C dX2_choose_48 rfl ?_
          refine v_lconst C dX2_choose_50 (v := 0) rfl ?_
          refine v_lcmp C dX2_choose_51 ?_
          refine v_if_gt (tgt := 68) C dX2_choose_52 (by decide) (fun h52 => ?_) (fun h52 => ?_)
          · have g52 : W (chsN W (fun s => rskN fl s 8) p n) < W (n + 1) := (lN_gain (by omega) (by omega)).1.mp ((lg_cmp_gt _ _).mp h52)
            refine v_iload C dX2_choose_68 rfl ?_
            refine v_istore_n (lv' := [(2, .int (nI (n + 1))), (6, .long ((lN (W (n + 1))) - (lN (W (chsN W (fun s => rskN fl s 8) p n))))), (5, .int (nI (rskN fl ((n + 1)) 8))), (0, .ref fy), (1, .int (nI p)), (3, .int (nI (rskN fl (chsN W (fun s => rskN fl s 8) p n) 8))), (4, .int (nI (n + 1)))]) C dX2_choose_70 hN (by decide) rfl ?_
            refine v_iload C dX2_choose_71 rfl ?_
            refine v_istore_n (lv' := [(3, .int (nI (rskN fl ((n + 1)) 8))), (2, .int (nI (n + 1))), (6, .long ((lN (W (n + 1))) - (lN (W (chsN W (fun s => rskN fl s 8) p n))))), (5, .int (nI (rskN fl ((n + 1)) 8))), (0, .ref fy), (1, .int (nI p)), (4, .int (nI (n + 1)))]) C dX2_choose_73 hN (by decide) rfl ?_
            refine v_iinc (lv' := [(4, .int (nI ((n + 1) + 1))), (3, .int (nI (rskN fl ((n + 1)) 8))), (2, .int (nI (n + 1))), (6, .long ((lN (W (n + 1))) - (lN (W (chsN W (fun s => rskN fl s 8) p n))))), (5, .int (nI (rskN fl ((n + 1)) 8))), (0, .ref fy), (1, .int (nI p))]) C dX2_choose_74 6 rfl (nI_1 _) hN (by decide) rfl ?_
            refine v_goto (tgt := 7) C dX2_choose_77 (by decide) ?_
            refine v_sub (lv' := [(0, .ref fy), (1, .int (nI p)), (2, .int (nI (n + 1))), (3, .int (nI (rskN fl ((n + 1)) 8))), (4, .int (nI ((n + 1) + 1)))]) [5, 6, 2, 1, 0] rfl ?_
            have hcl := chsN_le W (fun s => rskN fl s 8) p n
            have e1 : chsN W (fun s => rskN fl s 8) p (n + 1) = n + 1 := if_pos ⟨g26, Or.inl g52⟩
            have q := ih7 (n + 1) (by omega) (by omega)
            rw [e1] at q
            exact q
          · have g52 : ¬ W (chsN W (fun s => rskN fl s 8) p n) < W (n + 1) := fun q => h52 ((lg_cmp_gt _ _).mpr ((lN_gain (by omega) (by omega)).1.mpr q))
            refine v_lload C dX2_choose_55 rfl ?_
            refine v_lconst C dX2_choose_57 (v := 0) rfl ?_
            refine v_lcmp C dX2_choose_58 ?_
            refine v_if_ne (tgt := 74) C dX2_choose_59 (by decide) (fun h59 => ?_) (fun h59 => ?_)
            · have g59 : ¬ W (n + 1) = W (chsN W (fun s => rskN fl s 8) p n) := fun q => h59 ((lg_cmp_eq _ _).mpr ((lN_gain (by omega) (by omega)).2.mpr q))
              refine v_iinc (lv' := [(4, .int (nI ((n + 1) + 1))), (6, .long ((lN (W (n + 1))) - (lN (W (chsN W (fun s => rskN fl s 8) p n))))), (5, .int (nI (rskN fl ((n + 1)) 8))), (0, .ref fy), (1, .int (nI p)), (2, .int (nI (chsN W (fun s => rskN fl s 8) p n))), (3, .int (nI (rskN fl (chsN W (fun s => rskN fl s 8) p n) 8)))]) C dX2_choose_74 6 rfl (nI_1 _) hN (by decide) rfl ?_
              refine v_goto (tgt := 7) C dX2_choose_77 (by decide) ?_
              refine v_sub (lv' := [(0, .ref fy), (1, .int (nI p)), (2, .int (nI (chsN W (fun s => rskN fl s 8) p n))), (3, .int (nI (rskN fl (chsN W (fun s => rskN fl s 8) p n) 8))), (4, .int (nI ((n + 1) + 1)))]) [3, 4, 5, 6, 0] rfl ?_
              have hcl := chsN_le W (fun s => rskN fl s 8) p n
              have e1 : chsN W (fun s => rskN fl s 8) p (n + 1) = chsN W (fun s => rskN fl s 8) p n := if_neg (fun z => Or.elim z.2 (fun q => g52 q) (fun q => g59 q.1))
              have q := ih7 (n + 1) (by omega) (by omega)
              rw [e1] at q
              exact q
            · have g59 : W (n + 1) = W (chsN W (fun s => rskN fl s 8) p n) := (lN_gain (by omega) (by omega)).2.mp ((lg_cmp_eq _ _).mp h59)
              refine v_iload C dX2_choose_62 rfl ?_
              refine v_iload_n C dX2_choose_64 rfl ?_
              refine v_icmp_ge (tgt := 74) C dX2_choose_65 (by decide) (fun h65 => ?_) (fun h65 => ?_)
              · have g65 := nI_leN (by omega) (by omega) h65
                refine v_iinc (lv' := [(4, .int (nI ((n + 1) + 1))), (6, .long ((lN (W (n + 1))) - (lN (W (chsN W (fun s => rskN fl s 8) p n))))), (5, .int (nI (rskN fl ((n + 1)) 8))), (0, .ref fy), (1, .int (nI p)), (2, .int (nI (chsN W (fun s => rskN fl s 8) p n))), (3, .int (nI (rskN fl (chsN W (fun s => rskN fl s 8) p n) 8)))]) C dX2_choose_74 6 rfl (nI_1 _) hN (by decide) rfl ?_
                refine v_goto (tgt := 7) C dX2_choose_77 (by decide) ?_
                refine v_sub (lv' := [(0, .ref fy), (1, .int (nI p)), (2, .int (nI (chsN W (fun s => rskN fl s 8) p n))), (3, .int (nI (rskN fl (chsN W (fun s => rskN fl s 8) p n) 8))), (4, .int (nI ((n + 1) + 1)))]) [3, 4, 5, 6, 0] rfl ?_
                have hcl := chsN_le W (fun s => rskN fl s 8) p n
                have e1 : chsN W (fun s => rskN fl s 8) p (n + 1) = chsN W (fun s => rskN fl s 8) p n := if_neg (fun z => Or.elim z.2 (fun q => g52 q) (fun q => absurd q.2 (Nat.not_lt.mpr g65)))
                have q := ih7 (n + 1) (by omega) (by omega)
                rw [e1] at q
                exact q
              · have g65 := nI_nleN (by omega) (by omega) h65
                refine v_iload C dX2_choose_68 rfl ?_
                refine v_istore_n (lv' := [(2, .int (nI (n + 1))), (6, .long ((lN (W (n + 1))) - (lN (W (chsN W (fun s => rskN fl s 8) p n))))), (5, .int (nI (rskN fl ((n + 1)) 8))), (0, .ref fy), (1, .int (nI p)), (3, .int (nI (rskN fl (chsN W (fun s => rskN fl s 8) p n) 8))), (4, .int (nI (n + 1)))]) C dX2_choose_70 hN (by decide) rfl ?_
                refine v_iload C dX2_choose_71 rfl ?_
                refine v_istore_n (lv' := [(3, .int (nI (rskN fl ((n + 1)) 8))), (2, .int (nI (n + 1))), (6, .long ((lN (W (n + 1))) - (lN (W (chsN W (fun s => rskN fl s 8) p n))))), (5, .int (nI (rskN fl ((n + 1)) 8))), (0, .ref fy), (1, .int (nI p)), (4, .int (nI (n + 1)))]) C dX2_choose_73 hN (by decide) rfl ?_
                refine v_iinc (lv' := [(4, .int (nI ((n + 1) + 1))), (3, .int (nI (rskN fl ((n + 1)) 8))), (2, .int (nI (n + 1))), (6, .long ((lN (W (n + 1))) - (lN (W (chsN W (fun s => rskN fl s 8) p n))))), (5, .int (nI (rskN fl ((n + 1)) 8))), (0, .ref fy), (1, .int (nI p))]) C dX2_choose_74 6 rfl (nI_1 _) hN (by decide) rfl ?_
                refine v_goto (tgt := 7) C dX2_choose_77 (by decide) ?_
                refine v_sub (lv' := [(0, .ref fy), (1, .int (nI p)), (2, .int (nI (n + 1))), (3, .int (nI (rskN fl ((n + 1)) 8))), (4, .int (nI ((n + 1) + 1)))]) [5, 6, 2, 1, 0] rfl ?_
                have hcl := chsN_le W (fun s => rskN fl s 8) p n
                have e1 : chsN W (fun s => rskN fl s 8) p (n + 1) = n + 1 := if_pos ⟨g26, Or.inr ⟨g59, g65⟩⟩
                have q := ih7 (n + 1) (by omega) (by omega)
                rw [e1] at q
                exact q
        · have g26 := nI_nleN (by omega) (by omega) h26
          refine v_goto (tgt := 74) C dX2_choose_29 (by decide) ?_
          refine v_iinc (lv' := [(4, .int (nI ((n + 1) + 1))), (5, .int (nI (rskN fl ((n + 1)) 8))), (0, .ref fy), (1, .int (nI p)), (2, .int (nI (chsN W (fun s => rskN fl s 8) p n))), (3, .int (nI (rskN fl (chsN W (fun s => rskN fl s 8) p n) 8)))]) C dX2_choose_74 5 rfl (nI_1 _) hN (by decide) rfl ?_
          refine v_goto (tgt := 7) C dX2_choose_77 (by decide) ?_
          refine v_sub (lv' := [(0, .ref fy), (1, .int (nI p)), (2, .int (nI (chsN W (fun s => rskN fl s 8) p n))), (3, .int (nI (rskN fl (chsN W (fun s => rskN fl s 8) p n) 8))), (4, .int (nI ((n + 1) + 1)))]) [2, 3, 4, 5, 0] rfl ?_
          have hcl := chsN_le W (fun s => rskN fl s 8) p n
          have e1 : chsN W (fun s => rskN fl s 8) p (n + 1) = chsN W (fun s => rskN fl s 8) p n := if_neg (fun z => absurd z.1 (Nat.not_le.mpr g26))
          have q := ih7 (n + 1) (by omega) (by omega)
          rw [e1] at q
          exact q
  have q := lp7 (_ + 1) 0 (Nat.zero_le _) (Nat.lt_succ_self _)
  rw [show chsN W (fun s => rskN fl s 8) p 0 = 0 from rfl, rsk_0] at q
  exact q

set_option maxHeartbeats 4000000 in
set_option maxRecDepth 100000 in
theorem c_X2_plan (l : Launch) (g : Gm) (M : Mem) (fy f0 f1 f2 f3 ja jb : Nat) (fl : Nat → Nat → Nat) (ga gb : Nat → Int64) (i z0 z1 z2 z3 : Nat) (hi : i < 8) (hz : z0 ≤ z1 ∧ z1 ≤ 11 ∧ z2 ≤ 10 ∧ z3 ≤ 100) (hY : FlyW g M fy f0 f1 f2 f3 ja jb fl ga gb) : Ct l g yX2_plan cX2_plan 6 none 1 0 0 [.ref fy, .int (nI i), .int (nI z0), .int (nI z1), .int (nI z2), .int (nI z3)] M (fun v N => v = none ∧ N = mset (mset (mset (mset M f0 (aI g 8 (upd (fun j => nI (fl j 0)) i (nI z0)))) f1 (aI g 8 (upd (fun j => nI (fl j 1)) i (nI z1)))) f2 (aI g 8 (upd (fun j => nI (fl j 2)) i (nI z2)))) f3 (aI g 8 (upd (fun j => nI (fl j 3)) i (nI z3)))) := by
  refine Ct.of (by decide) (Nat.le_of_ble_eq_true rfl) ?_
  intro X hXl hXg hN C E
  subst hXl; subst hXg
  show V X (rmD 1 0 0) M 0 0 [(0, .ref fy), (1, .int (nI i)), (2, .int (nI z0)), (3, .int (nI z1)), (4, .int (nI z2)), (5, .int (nI z3))] 0 []
  refine v_iload_n C dX2_plan_0 rfl ?_
  refine v_iconst C dX2_plan_1 (v := 0) rfl ?_
  refine v_bipush C dX2_plan_2 (v := 7) rfl ?_
  refine v_callSN (As := [.int (nI i), .int 0, .int 7]) (rest := []) C (c_X9_isWithin (xl X) (xg X) (nI i) 0 7 M) pm_X9_isWithin wT_X9_isWithin wMN_X2_31 ⟨by decide, by decide⟩ ⟨by decide, by decide⟩ (nle rfl) dX2_plan_4 rfl (dt1 ?_)
  show V X (rmD 1 0 0) M 0 0 [(0, .ref fy), (1, .int (nI i)), (2, .int (nI z0)), (3, .int (nI z1)), (4, .int (nI z2)), (5, .int (nI z3))] 7 [.int (bI (qin (nI i) 0 7))]
  refine v_ifb_ne (tgt := 11) C dX2_plan_7 (by decide) (fun h7 => ?_) (fun hbad => absurd hbad (by rw [qin_f hi]; decide))
  refine v_aload_n C dX2_plan_11 rfl ?_
  refine v_get C kX2 hY.1 0 (by decide) wF_X2_11 rfl dX2_plan_12 ?_
  refine v_iload_n C dX2_plan_15 rfl ?_
  refine v_iload_n C dX2_plan_16 rfl ?_
  refine v_iast C hY.2.1 (vp_in_nI hi (by decide)) dX2_plan_17 ?_
  show V X (rmD 1 0 0) (mset M f0 (aI (xg X) 8 (upd (fun i => nI (fl i 0)) (nI i : Int32).toNatClampNeg (nI z0)))) 0 0 [(0, .ref fy), (1, .int (nI i)), (2, .int (nI z0)), (3, .int (nI z1)), (4, .int (nI z2)), (5, .int (nI z3))] 18 []
  refine v_aload_n C dX2_plan_18 rfl ?_
  refine v_get C kX2 ((mset_ne (cell_ne hY.1 hY.2.1 (by simp))).trans hY.1) 1 (by decide) wF_X2_15 rfl dX2_plan_19 ?_
  refine v_iload_n C dX2_plan_22 rfl ?_
  refine v_iload_n C dX2_plan_23 rfl ?_
  refine v_iast C ((mset_ne ((Ne.symm hY.2.2.2.2.2.2.2.2.1))).trans hY.2.2.1) (vp_in_nI hi (by decide)) dX2_plan_24 ?_
  show V X (rmD 1 0 0) (mset (mset M f0 (aI (xg X) 8 (upd (fun i => nI (fl i 0)) (nI i : Int32).toNatClampNeg (nI z0)))) f1 (aI (xg X) 8 (upd (fun i => nI (fl i 1)) (nI i : Int32).toNatClampNeg (nI z1)))) 0 0 [(0, .ref fy), (1, .int (nI i)), (2, .int (nI z0)), (3, .int (nI z1)), (4, .int (nI z2)), (5, .int (nI z3))] 25 []
  refine v_aload_n C dX2_plan_25 rfl ?_
  refine v_get C kX2 ((mset_ne (cell_ne hY.1 hY.2.2.1 (by simp))).trans ((mset_ne (cell_ne hY.1 hY.2.1 (by simp))).trans hY.1)) 2 (by decide) wF_X2_18 rfl dX2_plan_26 ?_
  refine v_iload_n C dX2_plan_29 rfl ?_
  refine v_iload C dX2_plan_30 rfl ?_
  refine v_iast C ((mset_ne ((Ne.symm hY.2.2.2.2.2.2.2.2.2.2.2.1))).trans ((mset_ne ((Ne.symm hY.2.2.2.2.2.2.2.2.2.1))).trans hY.2.2.2.1)) (vp_in_nI hi (by decide)) dX2_plan_32 ?_
  show V X (rmD 1 0 0) (mset (mset (mset M f0 (aI (xg X) 8 (upd (fun i => nI (fl i 0)) (nI i : Int32).toNatClampNeg (nI z0)))) f1 (aI (xg X) 8 (upd (fun i => nI (fl i 1)) (nI i : Int32).toNatClampNeg (nI z1)))) f2 (aI (xg X) 8 (upd (fun i => nI (fl i 2)) (nI i : Int32).toNatClampNeg (nI z2)))) 0 0 [(0, .ref fy), (1, .int (nI i)), (2, .int (nI z0)), (3, .int (nI z1)), (4, .int (nI z2)), (5, .int (nI z3))] 33 []
  refine v_aload_n C dX2_plan_33 rfl ?_
  refine v_get C kX2 ((mset_ne (cell_ne hY.1 hY.2.2.2.1 (by simp))).trans ((mset_ne (cell_ne hY.1 hY.2.2.1 (by simp))).trans ((mset_ne (cell_ne hY.1 hY.2.1 (by simp))).trans hY.1))) 3 (by decide) wF_X2_21 rfl dX2_plan_34 ?_
  refine v_iload_n C dX2_plan_37 rfl ?_
  refine v_iload C dX2_plan_38 rfl ?_
  refine v_iast C ((mset_ne ((Ne.symm hY.2.2.2.2.2.2.2.2.2.2.2.2.2.1))).trans ((mset_ne ((Ne.symm hY.2.2.2.2.2.2.2.2.2.2.2.2.1))).trans ((mset_ne ((Ne.symm hY.2.2.2.2.2.2.2.2.2.2.1))).trans hY.2.2.2.2.1))) (vp_in_nI hi (by decide)) dX2_plan_40 ?_
  show V X (rmD 1 0 0) (mset (mset (mset (mset M f0 (aI (xg X) 8 (upd (fun i => nI (fl i 0)) (nI i : Int32).toNatClampNeg (nI z0)))) f1 (aI (xg X) 8 (upd (fun i => nI (fl i 1)) (nI i : Int32).toNatClampNeg (nI z1)))) f2 (aI (xg X) 8 (upd (fun i => nI (fl i 2)) (nI i : Int32).toNatClampNeg (nI z2)))) f3 (aI (xg X) 8 (upd (fun i => nI (fl i 3)) (nI i : Int32).toNatClampNeg (nI z3)))) 0 0 [(0, .ref fy), (1, .int (nI i)), (2, .int (nI z0)), (3, .int (nI z1)), (4, .int (nI z2)), (5, .int (nI z3))] 41 []
  exact v_vret C E dX2_plan_41 (nle rfl) (nle rfl) ⟨rfl, by rw [nI_clamp (by omega)]⟩

def flU (fl : Nat → Nat → Nat) (i z0 z1 z2 z3 : Nat) : Nat → Nat → Nat := fun j q => if j = i then (if q = 0 then z0 else if q = 1 then z1 else if q = 2 then z2 else z3) else fl j q
theorem upd_row {fl : Nat → Nat → Nat} {i z0 z1 z2 z3 q z : Nat} (h : flU fl i z0 z1 z2 z3 i q = z) : upd (fun j => nI (fl j q)) i (nI z) = fun j => nI (flU fl i z0 z1 z2 z3 j q) := by
  funext j
  by_cases e : j = i
  · subst e; simp [upd, h]
  · simp [upd, flU, e]
theorem FlyW.plan {g : Gm} {M : Mem} {fy f0 f1 f2 f3 ja jb : Nat} {fl : Nat → Nat → Nat} {ga gb : Nat → Int64} (h : FlyW g M fy f0 f1 f2 f3 ja jb fl ga gb) {i z0 z1 z2 z3 : Nat} (hi : i < 8) (hz : z0 ≤ z1 ∧ z1 ≤ 11 ∧ z2 ≤ 10 ∧ z3 ≤ 100) : FlyW g (mset (mset (mset (mset M f0 (aI g 8 (upd (fun j => nI (fl j 0)) i (nI z0)))) f1 (aI g 8 (upd (fun j => nI (fl j 1)) i (nI z1)))) f2 (aI g 8 (upd (fun j => nI (fl j 2)) i (nI z2)))) f3 (aI g 8 (upd (fun j => nI (fl j 3)) i (nI z3)))) fy f0 f1 f2 f3 ja jb (flU fl i z0 z1 z2 z3) ga gb := by
  obtain ⟨h1, h2, h3, h4, h5, h6, h7, h8, n1, n2, n3, n4, n5, n6, n7⟩ := h
  rw [upd_row (fl := fl) (i := i) (z0 := z0) (z1 := z1) (z2 := z2) (z3 := z3) (q := 0) (by simp [flU]), upd_row (fl := fl) (i := i) (z0 := z0) (z1 := z1) (z2 := z2) (z3 := z3) (q := 1) (by simp [flU]), upd_row (fl := fl) (i := i) (z0 := z0) (z1 := z1) (z2 := z2) (z3 := z3) (q := 2) (by simp [flU]), upd_row (fl := fl) (i := i) (z0 := z0) (z1 := z1) (z2 := z2) (z3 := z3) (q := 3) (by simp [flU])]
  refine ⟨?_, ?_, ?_, ?_, ?_, ?_, ?_, ?_, n1, n2, n3, n4, n5, n6, n7⟩
  · rw [mset_ne (cell_ne h1 h5 (by simp)), mset_ne (cell_ne h1 h4 (by simp)), mset_ne (cell_ne h1 h3 (by simp)), mset_ne (cell_ne h1 h2 (by simp))]; exact h1
  · rw [mset_ne n3, mset_ne n2, mset_ne n1, mset_same]
  · rw [mset_ne n5, mset_ne n4, mset_same]
  · rw [mset_ne n6, mset_same]
  · rw [mset_same]
  · rw [mset_ne (cell_ne h6 h5 (by simp)), mset_ne (cell_ne h6 h4 (by simp)), mset_ne (cell_ne h6 h3 (by simp)), mset_ne (cell_ne h6 h2 (by simp))]; exact h6
  · rw [mset_ne (cell_ne h7 h5 (by simp)), mset_ne (cell_ne h7 h4 (by simp)), mset_ne (cell_ne h7 h3 (by simp)), mset_ne (cell_ne h7 h2 (by simp))]; exact h7
  · intro j hj
    by_cases e : j = i
    · subst e; simp [flU]; exact hz
    · have := h8 j hj; simp [flU, e]; exact this

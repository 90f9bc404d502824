/-! Fractions, choices: the methods. -/
set_option maxHeartbeats 4000000 in
set_option maxRecDepth 100000 in
theorem c_X9_power (l : Launch) (g : Gm) (b : Int64) (n : Nat) (hn : n < 1000) (M : Mem)  : Ct l g yX9_power cX9_power 6 (some .long) 0 0 0 [.long b, .int (nI n)] M (fun v N => v = some (.long (pwL b n)) ∧ N = M) := by
  refine Ct.of (by decide) (Nat.le_of_ble_eq_true rfl) ?_
  intro X hXl hXg hN C E
  subst hXl; subst hXg
  show V X (rmD 0 0 0) M 0 0 [(0, .long b), (2, .int (nI n))] 0 []
  refine v_lconst C dX9_power_0 (v := 1) rfl ?_
  refine v_lstore_n (lv' := [(3, .long 1), (0, .long b), (2, .int (nI n))]) C dX9_power_1 hN (by decide) rfl ?_
  refine v_iconst C dX9_power_2 (v := 0) rfl ?_
  refine v_istore (lv' := [(5, .int 0), (3, .long 1), (0, .long b), (2, .int (nI n))]) C dX9_power_3 hN (by decide) rfl ?_
  refine v_sub (lv' := [(0, .long b), (2, .int (nI n)), (3, .long 1), (5, .int 0)]) [2, 3, 1, 0] rfl ?_
  have lp5 : ∀ (mm : Nat) (i : Nat) (h1 : i ≤ n), n - i < mm → V X (rmD 0 0 0) M 0 0 [(0, .long b), (2, .int (nI n)), (3, .long (pwL b i)), (5, .int (nI i))] 5 [] := by
    intro mm
    induction mm with
    | zero => intro i h1 hmu; exact absurd hmu (Nat.not_lt_zero _)
    | succ mm ih5 =>
      intro i h1 hmu
      refine v_iload C dX9_power_5 rfl ?_
      refine v_iload_n C dX9_power_7 rfl ?_
      refine v_icmp_ge (tgt := 21) C dX9_power_8 (by decide) (fun h8 => ?_) (fun h8 => ?_)
      · have g8 : i = n := Nat.le_antisymm h1 (nI_leN (by omega) (by omega) h8)
        refine v_lload_n C dX9_power_21 rfl ?_
        exact v_lret C E dX9_power_22 (nle rfl) (nle rfl) ⟨by rw [g8], rfl⟩
      · have g8 := nI_nleN (by omega) (by omega) h8
        refine v_lload_n C dX9_power_11 rfl ?_
        refine v_lload_n C dX9_power_12 rfl ?_
        refine v_lmul C dX9_power_13 ?_
        refine v_lstore_n (lv' := [(3, .long ((pwL b i) * b)), (0, .long b), (2, .int (nI n)), (5, .int (nI i))]) C dX9_power_14 hN (by decide) rfl ?_
        refine v_iinc (lv' := [(5, .int (nI (i + 1))), (3, .long ((pwL b i) * b)), (0, .long b), (2, .int (nI n))]) C dX9_power_15 3 rfl (nI_1 _) hN (by decide) rfl ?_
        refine v_goto (tgt := 5) C dX9_power_18 (by decide) ?_
        refine v_sub (lv' := [(0, .long b), (2, .int (nI n)), (3, .long ((pwL b i) * b)), (5, .int (nI (i + 1)))]) [2, 3, 1, 0] rfl ?_
        exact ih5 (i + 1) (by omega) (by omega)
  exact lp5 (_ + 1) 0 (Nat.zero_le _) (Nat.lt_succ_self _)

set_option maxHeartbeats 4000000 in
set_option maxRecDepth 100000 in
theorem c_X9_choices (l : Launch) (g : Gm) (n k : Nat) (hn : n < 41) (hk : k < 41) (M : Mem)  : Ct l g yX9_choices cX9_choices 5 (some .long) 0 0 0 [.int (nI n), .int (nI k)] M (fun v N => v = some (.long (lN (choN n k))) ∧ N = M) := by
  refine Ct.of (by decide) (Nat.le_of_ble_eq_true rfl) ?_
  intro X hXl hXg hN C E
  subst hXl; subst hXg
  show V X (rmD 0 0 0) M 0 0 [(0, .int (nI n)), (1, .int (nI k))] 0 []
  refine v_iload_n C dX9_choices_0 rfl ?_
  refine v_if_lt (tgt := 9) C dX9_choices_1 (by decide) (fun hbad => absurd hbad (nI_pos (by omega))) (fun h1 => ?_)
  refine v_iload_n C dX9_choices_4 rfl ?_
  refine v_iload_n C dX9_choices_5 rfl ?_
  refine v_icmp_le (tgt := 11) C dX9_choices_6 (by decide) (fun h6 => ?_) (fun h6 => ?_)
  · have g6 := nI_leN (by omega) (by omega) h6
    refine v_lconst C dX9_choices_11 (v := 1) rfl ?_
    refine v_lstore_n (lv' := [(2, .long 1), (0, .int (nI n)), (1, .int (nI k))]) C dX9_choices_12 hN (by decide) rfl ?_
    refine v_iconst C dX9_choices_13 (v := 1) rfl ?_
    refine v_istore (lv' := [(4, .int 1), (2, .long 1), (0, .int (nI n)), (1, .int (nI k))]) C dX9_choices_14 hN (by decide) rfl ?_
    refine v_sub (lv' := [(0, .int (nI n)), (1, .int (nI k)), (2, .long 1), (4, .int 1)]) [2, 3, 1, 0] rfl ?_
    have lp16 : ∀ (mm : Nat) (i : Nat) (h1 : i ≤ k), k - i < mm → V X (rmD 0 0 0) M 0 0 [(0, .int (nI n)), (1, .int (nI k)), (2, .long (lN (chA n k i))), (4, .int (nI (i + 1)))] 16 [] := by
      intro mm
      induction mm with
      | zero => intro i h1 hmu; exact absurd hmu (Nat.not_lt_zero _)
      | succ mm ih16 =>
        intro i h1 hmu
        refine v_iload C dX9_choices_16 rfl ?_
        refine v_iload_n C dX9_choices_18 rfl ?_
        refine v_icmp_gt (tgt := 42) C dX9_choices_19 (by decide) (fun h19 => ?_) (fun h19 => ?_)
        · have g19 : i = k := by have := nI_ltN (by omega) (by omega) h19; omega
          refine v_lload_n C dX9_choices_42 rfl ?_
          exact v_lret C E dX9_choices_43 (nle rfl) (nle rfl) ⟨by rw [choN, if_pos g6, ← (ch_ok n hn k g6).1, g19], rfl⟩
        · have g19 := nI_nltN (by omega) (by omega) h19
          have hb := (ch_ok n hn k g6).2.2.2 i (by omega)
          refine v_lload_n C dX9_choices_22 rfl ?_
          refine v_iload_n C dX9_choices_23 rfl ?_
          refine v_iload_n C dX9_choices_24 rfl ?_
          refine v_isub C dX9_choices_25 ?_
          refine v_iload C dX9_choices_26 rfl ?_
          refine v_iadd C dX9_choices_28 ?_
          refine v_i2l C dX9_choices_29 ?_
          refine v_lmul C dX9_choices_30 ?_
          refine v_iload C dX9_choices_31 rfl ?_
          refine v_i2l C dX9_choices_33 ?_
          refine v_ldiv C dX9_choices_34 (by exact fun q => absurd (nI_l (n := i + 1) (by omega) ▸ q) (fun z => absurd ((lN_eq (a := i + 1) (b := 0) (by omega) (by decide)).mp z) (by omega))) ?_
          rw [pk_sub g6, nI_add, nI_l (by omega), nI_l (by omega), lN_mul, pk_lDiv (by have : chA n k i * (n - k + (i + 1)) ≤ 1000000000000 * 100 := Nat.mul_le_mul (by omega) (by omega); omega) (by omega) (by omega)]
          rw [show chA n k i * (n - k + (i + 1)) / (i + 1) = chA n k (i + 1) from rfl]
          show V X (rmD 0 0 0) M 0 0 [(0, .int (nI n)), (1, .int (nI k)), (2, .long (lN (chA n k i))), (4, .int (nI (i + 1)))] 35 [.long (lN (chA n k (i + 1)))]
          refine v_lstore_n (lv' := [(2, .long (lN (chA n k (i + 1)))), (0, .int (nI n)), (1, .int (nI k)), (4, .int (nI (i + 1)))]) C dX9_choices_35 hN (by decide) rfl ?_
          refine v_iinc (lv' := [(4, .int (nI ((i + 1) + 1))), (2, .long (lN (chA n k (i + 1)))), (0, .int (nI n)), (1, .int (nI k))]) C dX9_choices_36 3 rfl (nI_1 _) hN (by decide) rfl ?_
          refine v_goto (tgt := 16) C dX9_choices_39 (by decide) ?_
          refine v_sub (lv' := [(0, .int (nI n)), (1, .int (nI k)), (2, .long (lN (chA n k (i + 1)))), (4, .int (nI ((i + 1) + 1)))]) [2, 3, 1, 0] rfl ?_
          exact ih16 (i + 1) (by omega) (by omega)
    exact lp16 (_ + 1) 0 (Nat.zero_le _) (Nat.lt_succ_self _)
  · refine v_lconst C dX9_choices_9 (v := 0) rfl ?_
    exact v_lret C E dX9_choices_10 (nle rfl) (nle rfl) ⟨by rw [choN, if_neg (fun q => h6 (nI_le q (by omega)))]; rfl, rfl⟩

theorem fb_lN_inj0 {b : Nat} (h : b < 2 ^ 63) : lN b = 0 ↔ b = 0 := pk_lEQ (b := 0) h (by decide)
set_option maxHeartbeats 4000000 in
set_option maxRecDepth 100000 in
theorem c_X9_commonDivisor (l : Launch) (g : Gm) (p q : Nat) (hp : p < 2 ^ 63) (hq : q < 2 ^ 63) (M : Mem)  : Ct l g yX9_commonDivisor cX9_commonDivisor 11 (some .long) 0 0 0 [.long (lN p), .long (lN q)] M (fun v N => v = some (.long (lN (Nat.gcd p q))) ∧ N = M) := by
  refine Ct.of (by decide) (Nat.le_of_ble_eq_true rfl) ?_
  intro X hXl hXg hN C E
  subst hXl; subst hXg
  show V X (rmD 0 0 0) M 0 0 [(0, .long (lN p)), (2, .long (lN q))] 0 []
  refine v_lload_n C dX9_commonDivisor_0 rfl ?_
  refine v_lstore (lv' := [(4, .long (lN p)), (0, .long (lN p)), (2, .long (lN q))]) C dX9_commonDivisor_1 hN (by decide) rfl ?_
  refine v_lload_n C dX9_commonDivisor_3 rfl ?_
  refine v_lstore (lv' := [(6, .long (lN q)), (4, .long (lN p)), (0, .long (lN p)), (2, .long (lN q))]) C dX9_commonDivisor_4 hN (by decide) rfl ?_
  refine v_iconst C dX9_commonDivisor_6 (v := 0) rfl ?_
  refine v_istore (lv' := [(8, .int 0), (6, .long (lN q)), (4, .long (lN p)), (0, .long (lN p)), (2, .long (lN q))]) C dX9_commonDivisor_7 hN (by decide) rfl ?_
  refine v_sub (lv' := [(4, .long (lN p)), (6, .long (lN q)), (8, .int 0)]) [2, 1, 0] rfl ?_
  have lp9 : ∀ (mm : Nat) (i : Nat) (a : Nat) (b : Nat) (h1 : i ≤ 100) (h2 : euI p q i a b), 100 - i < mm → V X (rmD 0 0 0) M 0 0 [(4, .long (lN a)), (6, .long (lN b)), (8, .int (nI i))] 9 [] := by
    intro mm
    induction mm with
    | zero => intro i a b h1 h2 hmu; exact absurd hmu (Nat.not_lt_zero _)
    | succ mm ih9 =>
      intro i a b h1 h2 hmu
      refine v_iload C dX9_commonDivisor_9 rfl ?_
      refine v_bipush C dX9_commonDivisor_11 (v := 100) rfl ?_
      refine v_icmp_ge (tgt := 44) C dX9_commonDivisor_13 (by decide) (fun h13 => ?_) (fun h13 => ?_)
      · refine v_lload C dX9_commonDivisor_44 rfl ?_
        exact v_lret C E dX9_commonDivisor_46 (nle rfl) (nle rfl) ⟨by rw [← euI_done (i := i) (a := a) (by have z : b = 0 := (by first | exact (fb_lN_inj0 h2.2.2.2).mp ((lg_cmp_eq _ _).mp h20) | exact euI_end hq (by rw [← show i = 100 by have := nI_leN (a := 100) (by decide) (by omega) h13; omega]; exact h2)); rw [z] at h2; exact h2)], rfl⟩
      · refine v_lload C dX9_commonDivisor_16 rfl ?_
        refine v_lconst C dX9_commonDivisor_18 (v := 0) rfl ?_
        refine v_lcmp C dX9_commonDivisor_19 ?_
        refine v_if_eq (tgt := 44) C dX9_commonDivisor_20 (by decide) (fun h20 => ?_) (fun h20 => ?_)
        · refine v_lload C dX9_commonDivisor_44 rfl ?_
          exact v_lret C E dX9_commonDivisor_46 (nle rfl) (nle rfl) ⟨by rw [← euI_done (i := i) (a := a) (by have z : b = 0 := (by first | exact (fb_lN_inj0 h2.2.2.2).mp ((lg_cmp_eq _ _).mp h20) | exact euI_end hq (by rw [← show i = 100 by have := nI_leN (a := 100) (by decide) (by omega) h13; omega]; exact h2)); rw [z] at h2; exact h2)], rfl⟩
        · have g20 : b ≠ 0 := fun z => h20 ((lg_cmp_eq _ _).mpr ((fb_lN_inj0 h2.2.2.2).mpr z))
          have g13 := nI_nleN (a := 100) (by decide) (by omega) h13
          refine v_lload C dX9_commonDivisor_23 rfl ?_
          refine v_lload C dX9_commonDivisor_25 rfl ?_
          refine v_lrem C dX9_commonDivisor_27 (by exact fun z => g20 ((fb_lN_inj0 h2.2.2.2).mp z)) ?_
          rw [pk_lRem h2.2.2.1 (by omega) h2.2.2.2]
          show V X (rmD 0 0 0) M 0 0 [(4, .long (lN a)), (6, .long (lN b)), (8, .int (nI i))] 28 [.long (lN (a % b))]
          refine v_lstore (lv' := [(9, .long (lN (a % b))), (4, .long (lN a)), (6, .long (lN b)), (8, .int (nI i))]) C dX9_commonDivisor_28 hN (by decide) rfl ?_
          refine v_lload C dX9_commonDivisor_30 rfl ?_
          refine v_lstore (lv' := [(4, .long (lN b)), (9, .long (lN (a % b))), (6, .long (lN b)), (8, .int (nI i))]) C dX9_commonDivisor_32 hN (by decide) rfl ?_
          refine v_lload C dX9_commonDivisor_34 rfl ?_
          refine v_lstore (lv' := [(6, .long (lN (a % b))), (4, .long (lN b)), (9, .long (lN (a % b))), (8, .int (nI i))]) C dX9_commonDivisor_36 hN (by decide) rfl ?_
          refine v_iinc (lv' := [(8, .int (nI (i + 1))), (6, .long (lN (a % b))), (4, .long (lN b)), (9, .long (lN (a % b)))]) C dX9_commonDivisor_38 3 rfl (nI_1 _) hN (by decide) rfl ?_
          refine v_goto (tgt := 9) C dX9_commonDivisor_41 (by decide) ?_
          refine v_sub (lv' := [(4, .long (lN b)), (6, .long (lN (a % b))), (8, .int (nI (i + 1)))]) [2, 1, 0] rfl ?_
          exact ih9 (i + 1) b (a % b) (by omega) (euI_step h2 g20) (by omega)
  exact lp9 (_ + 1) 0 p q (Nat.zero_le _) (euI_0 hp hq) (Nat.lt_succ_self _)

set_option maxHeartbeats 4000000 in
set_option maxRecDepth 100000 in
theorem c_X9_partOf (l : Launch) (g : Gm) (p q pt : Nat) (hp : p < 2 ^ 63) (hq : q < 2 ^ 63) (h0 : 0 < q) (hpt : pt ≤ 1) (M : Mem) : Ct l g yX9_partOf cX9_partOf 7 (some .long) 1 0 0 [.long (lN p), .long (lN q), .int (nI pt)] M (fun v N => v = some (.long (lN (frN p q pt))) ∧ N = M) := by
  refine Ct.of (by decide) (Nat.le_of_ble_eq_true rfl) ?_
  intro X hXl hXg hN C E
  subst hXl; subst hXg
  show V X (rmD 1 0 0) M 0 0 [(0, .long (lN p)), (2, .long (lN q)), (4, .int (nI pt))] 0 []
  have hg : 0 < Nat.gcd p q := Nat.gcd_pos_of_pos_right _ h0
  have hg2 : Nat.gcd p q < 2 ^ 63 := Nat.lt_of_le_of_lt (Nat.gcd_le_right _ h0) hq
  have hgn : ¬ lN (Nat.gcd p q) = 0 := fun z => by have := (fb_lN_inj0 hg2).mp z; omega
  refine v_lload_n C dX9_partOf_0 rfl ?_
  refine v_lload_n C dX9_partOf_1 rfl ?_
  refine v_callS (As := [.long (lN p), .long (lN q)]) (rest := []) C (c_X9_commonDivisor (xl X) (xg X) p q hp hq M) pm_X9_commonDivisor wT_X9_commonDivisor wM_X9_251 ⟨by decide, by decide⟩ ⟨by decide, by decide⟩ (nle rfl) dX9_partOf_2 rfl (dt1 ?_)
  show V X (rmD 1 0 0) M 0 0 [(0, .long (lN p)), (2, .long (lN q)), (4, .int (nI pt))] 5 [.long (lN (Nat.gcd p q))]
  refine v_lstore (lv' := [(5, .long (lN (Nat.gcd p q))), (0, .long (lN p)), (2, .long (lN q)), (4, .int (nI pt))]) C dX9_partOf_5 hN (by decide) rfl ?_
  refine v_lload C dX9_partOf_7 rfl ?_
  refine v_lconst C dX9_partOf_9 (v := 0) rfl ?_
  refine v_lcmp C dX9_partOf_10 ?_
  refine v_if_ne (tgt := 18) C dX9_partOf_11 (by decide) (fun h11 => ?_) (fun hbad => absurd hbad (fun z => hgn ((lg_cmp_eq _ _).mp z)))
  refine v_iload C dX9_partOf_18 rfl ?_
  refine v_if_ne (tgt := 27) C dX9_partOf_20 (by decide) (fun h20 => ?_) (fun h20 => ?_)
  · refine v_lload_n C dX9_partOf_27 rfl ?_
    refine v_lload C dX9_partOf_28 rfl ?_
    refine v_ldiv C dX9_partOf_30 (by exact hgn) ?_
    exact v_lret C E dX9_partOf_31 (nle rfl) (nle rfl) ⟨by rw [frN, if_neg (nI_neN (b := 0) (by omega) (by decide) h20), pk_lDiv hq hg hg2], rfl⟩
  · refine v_lload_n C dX9_partOf_23 rfl ?_
    refine v_goto (tgt := 28) C dX9_partOf_24 (by decide) ?_
    refine v_lload C dX9_partOf_28 rfl ?_
    refine v_ldiv C dX9_partOf_30 (by exact hgn) ?_
    exact v_lret C E dX9_partOf_31 (nle rfl) (nle rfl) ⟨by rw [frN, if_pos (nI_eqN (b := 0) (by omega) (by decide) h20), pk_lDiv hp hg hg2], rfl⟩

set_option maxHeartbeats 4000000 in
set_option maxRecDepth 100000 in
theorem c_X10_term (l : Launch) (g : Gm) (p q pt : Nat) (hp : p < 2 ^ 63) (hq : q < 2 ^ 63) (h0 : 0 < q) (hpt : pt ≤ 1) (M : Mem) : Ct l g yX10_term cX10_term 11 (some .long) 0 0 0 [.long (lN p), .long (lN q), .int (nI pt)] M (fun v N => v = some (.long (lN (frN p q pt))) ∧ N = M) := by
  refine Ct.of (by decide) (Nat.le_of_ble_eq_true rfl) ?_
  intro X hXl hXg hN C E
  subst hXl; subst hXg
  show V X (rmD 0 0 0) M 0 0 [(0, .long (lN p)), (2, .long (lN q)), (4, .int (nI pt))] 0 []
  have hg : 0 < Nat.gcd p q := Nat.gcd_pos_of_pos_right _ h0
  have hg2 : Nat.gcd p q < 2 ^ 63 := Nat.lt_of_le_of_lt (Nat.gcd_le_right _ h0) hq
  have hgn : ¬ lN (Nat.gcd p q) = 0 := fun z => by have := (fb_lN_inj0 hg2).mp z; omega
  refine v_lload_n C dX10_term_0 rfl ?_
  refine v_lstore (lv' := [(5, .long (lN p)), (0, .long (lN p)), (2, .long (lN q)), (4, .int (nI pt))]) C dX10_term_1 hN (by decide) rfl ?_
  refine v_lload_n C dX10_term_3 rfl ?_
  refine v_lstore (lv' := [(7, .long (lN q)), (5, .long (lN p)), (0, .long (lN p)), (2, .long (lN q)), (4, .int (nI pt))]) C dX10_term_4 hN (by decide) rfl ?_
  refine v_sub (lv' := [(0, .long (lN p)), (2, .long (lN q)), (4, .int (nI pt)), (5, .long (lN p)), (7, .long (lN q))]) [2, 3, 4, 1, 0] rfl ?_
  have lp6 : ∀ (mm : Nat) (i : Nat) (a : Nat) (b : Nat) (h2 : euI p q i a b), b + (if i = 0 then 1 else 0) < mm → V X (rmD 0 0 0) M 0 0 [(0, .long (lN p)), (2, .long (lN q)), (4, .int (nI pt)), (5, .long (lN a)), (7, .long (lN b))] 6 [] := by
    intro mm
    induction mm with
    | zero => intro i a b h2 hmu; exact absurd hmu (Nat.not_lt_zero _)
    | succ mm ih6 =>
      intro i a b h2 hmu
      refine v_lload C dX10_term_6 rfl ?_
      refine v_lconst C dX10_term_8 (v := 0) rfl ?_
      refine v_lcmp C dX10_term_9 ?_
      refine v_if_eq (tgt := 31) C dX10_term_10 (by decide) (fun h10 => ?_) (fun h10 => ?_)
      · have ga : a = Nat.gcd p q := euI_done (i := i) (by have z := (fb_lN_inj0 h2.2.2.2).mp ((lg_cmp_eq _ _).mp h10); rw [z] at h2; exact h2)
        rw [ga]
        show V X (rmD 0 0 0) M 0 0 [(0, .long (lN p)), (2, .long (lN q)), (4, .int (nI pt)), (5, .long (lN (Nat.gcd p q))), (7, .long (lN b))] 31 []
        refine v_iload C dX10_term_31 rfl ?_
        refine v_if_ne (tgt := 43) C dX10_term_33 (by decide) (fun h33 => ?_) (fun h33 => ?_)
        · refine v_lload_n C dX10_term_43 rfl ?_
          refine v_lload C dX10_term_44 rfl ?_
          refine v_ldiv C dX10_term_46 (by exact hgn) ?_
          exact v_lret C E dX10_term_47 (nle rfl) (nle rfl) ⟨by rw [frN, if_neg (nI_neN (b := 0) (by omega) (by decide) h33), pk_lDiv hq hg hg2], rfl⟩
        · refine v_lload_n C dX10_term_36 rfl ?_
          refine v_lload C dX10_term_37 rfl ?_
          refine v_ldiv C dX10_term_39 (by exact hgn) ?_
          refine v_goto (tgt := 47) C dX10_term_40 (by decide) ?_
          exact v_lret C E dX10_term_47 (nle rfl) (nle rfl) ⟨by rw [frN, if_pos (nI_eqN (b := 0) (by omega) (by decide) h33), pk_lDiv hp hg hg2], rfl⟩
      · have g10 : b ≠ 0 := fun z => h10 ((lg_cmp_eq _ _).mpr ((fb_lN_inj0 h2.2.2.2).mpr z))
        refine v_lload C dX10_term_13 rfl ?_
        refine v_lload C dX10_term_15 rfl ?_
        refine v_lrem C dX10_term_17 (by exact fun z => g10 ((fb_lN_inj0 h2.2.2.2).mp z)) ?_
        rw [pk_lRem h2.2.2.1 (by omega) h2.2.2.2]
        show V X (rmD 0 0 0) M 0 0 [(0, .long (lN p)), (2, .long (lN q)), (4, .int (nI pt)), (5, .long (lN a)), (7, .long (lN b))] 18 [.long (lN (a % b))]
        refine v_lstore (lv' := [(9, .long (lN (a % b))), (0, .long (lN p)), (2, .long (lN q)), (4, .int (nI pt)), (5, .long (lN a)), (7, .long (lN b))]) C dX10_term_18 hN (by decide) rfl ?_
        refine v_lload C dX10_term_20 rfl ?_
        refine v_lstore (lv' := [(5, .long (lN b)), (9, .long (lN (a % b))), (0, .long (lN p)), (2, .long (lN q)), (4, .int (nI pt)), (7, .long (lN b))]) C dX10_term_22 hN (by decide) rfl ?_
        refine v_lload C dX10_term_24 rfl ?_
        refine v_lstore (lv' := [(7, .long (lN (a % b))), (5, .long (lN b)), (9, .long (lN (a % b))), (0, .long (lN p)), (2, .long (lN q)), (4, .int (nI pt))]) C dX10_term_26 hN (by decide) rfl ?_
        refine v_goto (tgt := 6) C dX10_term_28 (by decide) ?_
        refine v_sub (lv' := [(0, .long (lN p)), (2, .long (lN q)), (4, .int (nI pt)), (5, .long (lN b)), (7, .long (lN (a % b)))]) [3, 4, 5, 1, 0] rfl ?_
        exact ih6 (i + 1) b (a % b) (euI_step h2 g10) (by have := Nat.mod_lt a (show 0 < b by omega); rw [if_neg (Nat.succ_ne_zero i)]; omega)
  exact lp6 (_ + 1) 0 p q (euI_0 hp hq) (Nat.lt_succ_self _)

set_option maxHeartbeats 4000000 in
set_option maxRecDepth 100000 in
theorem c_X10_chooseY (l : Launch) (g : Gm) (n k : Nat) (hn : n < 41) (hk : k ≤ n) (M : Mem)  : Ct l g yX10_choose cX10_choose 5 (some .long) 0 0 0 [.int (nI n), .int (nI k)] M (fun v N => v = some (.long (lN (chB n k))) ∧ N = M) := by
  refine Ct.of (by decide) (Nat.le_of_ble_eq_true rfl) ?_
  intro X hXl hXg hN C E
  subst hXl; subst hXg
  show V X (rmD 0 0 0) M 0 0 [(0, .int (nI n)), (1, .int (nI k))] 0 []
  refine v_iload_n C dX10_choose_0 rfl ?_
  refine v_if_lt (tgt := 9) C dX10_choose_1 (by decide) (fun hbad => absurd hbad (nI_pos (by omega))) (fun h1 => ?_)
  refine v_iload_n C dX10_choose_4 rfl ?_
  refine v_iload_n C dX10_choose_5 rfl ?_
  refine v_icmp_le (tgt := 13) C dX10_choose_6 (by decide) (fun h6 => ?_) (fun hbad => absurd hbad (not_not_intro (nI_le hk (by omega))))
  refine v_lconst C dX10_choose_13 (v := 1) rfl ?_
  refine v_lstore_n (lv' := [(2, .long 1), (0, .int (nI n)), (1, .int (nI k))]) C dX10_choose_14 hN (by decide) rfl ?_
  refine v_iconst C dX10_choose_15 (v := 0) rfl ?_
  refine v_istore (lv' := [(4, .int 0), (2, .long 1), (0, .int (nI n)), (1, .int (nI k))]) C dX10_choose_16 hN (by decide) rfl ?_
  refine v_sub (lv' := [(0, .int (nI n)), (1, .int (nI k)), (2, .long 1), (4, .int 0)]) [2, 3, 1, 0] rfl ?_
  have lp18 : ∀ (mm : Nat) (i : Nat) (h1 : i ≤ k), k - i < mm → V X (rmD 0 0 0) M 0 0 [(0, .int (nI n)), (1, .int (nI k)), (2, .long (lN (chB n i))), (4, .int (nI i))] 18 [] := by
    intro mm
    induction mm with
    | zero => intro i h1 hmu; exact absurd hmu (Nat.not_lt_zero _)
    | succ mm ih18 =>
      intro i h1 hmu
      refine v_iload C dX10_choose_18 rfl ?_
      refine v_iload_n C dX10_choose_20 rfl ?_
      refine v_icmp_ge (tgt := 50) C dX10_choose_21 (by decide) (fun h21 => ?_) (fun h21 => ?_)
      · have g21 : i = k := Nat.le_antisymm h1 (nI_leN (by omega) (by omega) h21)
        refine v_lload_n C dX10_choose_50 rfl ?_
        exact v_lret C E dX10_choose_51 (nle rfl) (nle rfl) ⟨by rw [g21], rfl⟩
      · have g21 := nI_nleN (by omega) (by omega) h21
        have hb := (ch_ok n hn i (by omega)).2
        refine v_lload_n C dX10_choose_24 rfl ?_
        refine v_lconst C dX10_choose_25 (v := 0) rfl ?_
        refine v_lcmp C dX10_choose_26 ?_
        refine v_if_le (tgt := 50) C dX10_choose_27 (by decide) (fun hbad => absurd hbad (fun z => absurd ((lg_cmp_le _ _).mp z) (by rw [show (0 : Int64) = lN 0 from rfl, pk_lLE (by omega) (by decide)]; omega))) (fun h27 => ?_)
        refine v_lload_n C dX10_choose_30 rfl ?_
        refine v_iload_n C dX10_choose_31 rfl ?_
        refine v_iload C dX10_choose_32 rfl ?_
        refine v_isub C dX10_choose_34 ?_
        refine v_i2l C dX10_choose_35 ?_
        refine v_lmul C dX10_choose_36 ?_
        refine v_iload C dX10_choose_37 rfl ?_
        refine v_iconst C dX10_choose_39 (v := 1) rfl ?_
        refine v_iadd C dX10_choose_40 ?_
        refine v_i2l C dX10_choose_41 ?_
        refine v_ldiv C dX10_choose_42 (by exact fun q => absurd (show lN (i + 1) = lN 0 by rw [← nI_l (n := i + 1) (by omega), ← nI_1]; exact q) (fun z => absurd ((lN_eq (a := i + 1) (b := 0) (by omega) (by decide)).mp z) (by omega))) ?_
        rw [nI_1, pk_sub (by omega), nI_l (by omega), nI_l (by omega), lN_mul, pk_lDiv (by have : chB n i * (n - i) ≤ 1000000000000 * 100 := Nat.mul_le_mul (by omega) (by omega); omega) (by omega) (by omega)]
        rw [show chB n i * (n - i) / (i + 1) = chB n (i + 1) from rfl]
        show V X (rmD 0 0 0) M 0 0 [(0, .int (nI n)), (1, .int (nI k)), (2, .long (lN (chB n i))), (4, .int (nI i))] 43 [.long (lN (chB n (i + 1)))]
        refine v_lstore_n (lv' := [(2, .long (lN (chB n (i + 1)))), (0, .int (nI n)), (1, .int (nI k)), (4, .int (nI i))]) C dX10_choose_43 hN (by decide) rfl ?_
        refine v_iinc (lv' := [(4, .int (nI (i + 1))), (2, .long (lN (chB n (i + 1)))), (0, .int (nI n)), (1, .int (nI k))]) C dX10_choose_44 3 rfl (nI_1 _) hN (by decide) rfl ?_
        refine v_goto (tgt := 18) C dX10_choose_47 (by decide) ?_
        refine v_sub (lv' := [(0, .int (nI n)), (1, .int (nI k)), (2, .long (lN (chB n (i + 1)))), (4, .int (nI (i + 1)))]) [2, 3, 1, 0] rfl ?_
        exact ih18 (i + 1) (by omega) (by omega)
  exact lp18 (_ + 1) 0 (Nat.zero_le _) (Nat.lt_succ_self _)

set_option maxHeartbeats 4000000 in
set_option maxRecDepth 100000 in
theorem c_X10_chooseN (l : Launch) (g : Gm) (n : Nat) (x : Int32) (hn : n < 41) (hx : x < 0) (M : Mem)  : Ct l g yX10_choose cX10_choose 5 (some .long) 0 0 0 [.int (nI n), .int x] M (fun v N => v = some (.long 0) ∧ N = M) := by
  refine Ct.of (by decide) (Nat.le_of_ble_eq_true rfl) ?_
  intro X hXl hXg hN C E
  subst hXl; subst hXg
  show V X (rmD 0 0 0) M 0 0 [(0, .int (nI n)), (1, .int x)] 0 []
  refine v_iload_n C dX10_choose_0 rfl ?_
  refine v_if_lt (tgt := 9) C dX10_choose_1 (by decide) (fun h1 => ?_) (fun hbad => absurd hbad (not_not_intro hx))
  refine v_lconst C dX10_choose_9 (v := 0) rfl ?_
  refine v_goto (tgt := 14) C dX10_choose_10 (by decide) ?_
  refine v_lstore_n (lv' := [(2, .long 0), (0, .int (nI n)), (1, .int x)]) C dX10_choose_14 hN (by decide) rfl ?_
  refine v_iconst C dX10_choose_15 (v := 0) rfl ?_
  refine v_istore (lv' := [(4, .int 0), (2, .long 0), (0, .int (nI n)), (1, .int x)]) C dX10_choose_16 hN (by decide) rfl ?_
  refine v_iload C dX10_choose_18 rfl ?_
  refine v_iload_n C dX10_choose_20 rfl ?_
  refine v_icmp_ge (tgt := 50) C dX10_choose_21 (by decide) (fun h21 => ?_) (fun hbad => absurd hbad (not_not_intro (Int32.le_of_lt (Int32.lt_of_lt_of_le hx (Int32.le_refl 0)))))
  refine v_lload_n C dX10_choose_50 rfl ?_
  exact v_lret C E dX10_choose_51 (nle rfl) (nle rfl) ⟨rfl, rfl⟩

set_option maxHeartbeats 4000000 in
set_option maxRecDepth 100000 in
theorem c_X10_chooseB (l : Launch) (g : Gm) (n k : Nat) (hn : n < 41) (hk : n < k) (hk2 : k < 1000) (M : Mem)  : Ct l g yX10_choose cX10_choose 5 (some .long) 0 0 0 [.int (nI n), .int (nI k)] M (fun v N => v = some (.long 0) ∧ N = M) := by
  refine Ct.of (by decide) (Nat.le_of_ble_eq_true rfl) ?_
  intro X hXl hXg hN C E
  subst hXl; subst hXg
  show V X (rmD 0 0 0) M 0 0 [(0, .int (nI n)), (1, .int (nI k))] 0 []
  refine v_iload_n C dX10_choose_0 rfl ?_
  refine v_if_lt (tgt := 9) C dX10_choose_1 (by decide) (fun hbad => absurd hbad (nI_pos (by omega))) (fun h1 => ?_)
  refine v_iload_n C dX10_choose_4 rfl ?_
  refine v_iload_n C dX10_choose_5 rfl ?_
  refine v_icmp_le (tgt := 13) C dX10_choose_6 (by decide) (fun hbad => absurd hbad (nI_ge hk (by omega))) (fun h6 => ?_)
  refine v_lconst C dX10_choose_9 (v := 0) rfl ?_
  refine v_goto (tgt := 14) C dX10_choose_10 (by decide) ?_
  refine v_lstore_n (lv' := [(2, .long 0), (0, .int (nI n)), (1, .int (nI k))]) C dX10_choose_14 hN (by decide) rfl ?_
  refine v_iconst C dX10_choose_15 (v := 0) rfl ?_
  refine v_istore (lv' := [(4, .int 0), (2, .long 0), (0, .int (nI n)), (1, .int (nI k))]) C dX10_choose_16 hN (by decide) rfl ?_
  refine v_iload C dX10_choose_18 rfl ?_
  refine v_iload_n C dX10_choose_20 rfl ?_
  refine v_icmp_ge (tgt := 50) C dX10_choose_21 (by decide) (fun hbad => absurd hbad (nI_ge (a := 0) (by omega) (by omega))) (fun h21 => ?_)
  refine v_lload_n C dX10_choose_24 rfl ?_
  refine v_lconst C dX10_choose_25 (v := 0) rfl ?_
  refine v_lcmp C dX10_choose_26 ?_
  refine v_if_le (tgt := 50) C dX10_choose_27 (by decide) (fun h27 => ?_) (fun hbad => absurd hbad (not_not_intro (by decide)))
  refine v_lload_n C dX10_choose_50 rfl ?_
  exact v_lret C E dX10_choose_51 (nle rfl) (nle rfl) ⟨rfl, rfl⟩


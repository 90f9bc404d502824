/-! A new desk. -/
set_option maxHeartbeats 4000000 in
set_option maxRecDepth 100000 in
theorem c_X9_init (l : Launch) (g : Gm) (M : Mem) (dk : Nat) (m pf : Nat → Nat → Nat) (dB cB : Nat → Nat → Bool) (z : Nat → Nat) (lo : Nat → Int64) (cn : Nat → Nat → Int32) (hm : M dk = some (.inr (9, [.null, .null, .null, .null, .null, .null]))) : Ct l g yX9_init cX9_init 1 none 2 24 941 [.ref dk] M (fun v N => v = none ∧ DeskW g N dk 0 m dB 0 pf cB 0 (fun _ => 0) (fun _ => 0) (fun _ _ => 0) (fun _ _ => 0)) := by
  refine Ct.of (by decide) (Nat.le_of_ble_eq_true rfl) ?_
  intro X hXl hXg hN C E
  subst hXl; subst hXg
  show V X (rmD 2 24 941) M 0 0 [(0, .ref dk)] 0 []
  refine v_aload_n C dX9_init_0 rfl ?_
  refine v_obj C wM_X9_1 wI_java_lang_Object__init____V wC_java_lang_Object__init____V (by decide) (nle rfl) dX9_init_1 ?_
  refine v_aload_n C dX9_init_4 rfl ?_
  refine v_new (fs := [.null, .int 0]) C kX3 wL_X9_7 wB_X3 wN_X3 (by decide +kernel) (by decide) (by decide) dX9_init_5 (fun q5 hq5 => ?_)
  show V X (rmD 2 24 941) (mset M q5 (.inr (3, [.null, .int 0]))) 1 2 [(0, .ref dk)] 8 [.ref q5, .ref dk]
  refine v_dup C dX9_init_8 rfl ?_
  refine v_callIN (As := []) (rest := [.ref q5, .ref dk]) (b := q5) C (c_X3_initW (xl X) (xg X) (mset M q5 (.inr (3, [.null, .int 0]))) q5 m z lo (mset_same _ _ _)) pm_X3_init wI_X3_init rfl wMN_X9_9 ⟨by decide, by decide⟩ ⟨by decide, by decide⟩ (nle rfl) dX9_init_9 rfl ?_
  rintro _ N0 ⟨rfl, hO0, ⟨ta, hw0⟩⟩
  have hn0 := hO0 _ _ ((mset_ne (fresh_ne hm hq5)).trans hm) (fresh_ne hm hq5)
  show V X (rmD 2 24 941) N0 2 14 [(0, .ref dk)] 12 [.ref q5, .ref dk]
  refine v_putF C E rfl kX9 hn0 0 (by decide) wF_X9_10 rfl rfl rfl rfl (nle rfl) dX9_init_12 ?_
  show V X (rmD 2 24 941) (mset N0 dk (.inr (9, [.ref q5, .null, .null, .null, .null, .null]))) 2 14 [(0, .ref dk)] 15 []
  obtain ⟨P1, hP1⟩ : ∃ Z, Z = mset N0 dk (.inr (9, [.ref q5, .null, .null, .null, .null, .null])) := ⟨_, rfl⟩
  rw [← hP1]
  have hd1 : P1 dk = some (.inr (9, [.ref q5, .null, .null, .null, .null, .null])) := by rw [hP1, mset_same]
  have hk1 : ∀ {ks : List Nat}, 9 ∉ ks → Keep N0 P1 ks := fun h => by rw [hP1]; exact Keep.set hn0 (by exact h) _
  have hp1 : ∀ {ks : List Nat}, 9 ∉ ks → Keep M P1 ks := fun h => by rw [hP1]; exact (Old.part hq5 hO0).keep hm (by exact h)
  show V X (rmD 2 24 941) P1 2 14 [(0, .ref dk)] 15 []
  refine v_aload_n C dX9_init_15 rfl ?_
  refine v_new (fs := [.null, .int 0]) C kX0 wL_X9_16 wB_X0 wN_X0 (by decide +kernel) (by decide) (by decide) dX9_init_16 (fun q16 hq16 => ?_)
  show V X (rmD 2 24 941) (mset P1 q16 (.inr (0, [.null, .int 0]))) 3 16 [(0, .ref dk)] 19 [.ref q16, .ref dk]
  refine v_dup C dX9_init_19 rfl ?_
  refine v_callIN (As := []) (rest := [.ref q16, .ref dk]) (b := q16) C (c_X0_initW (xl X) (xg X) (mset P1 q16 (.inr (0, [.null, .int 0]))) q16 pf z lo cn (mset_same _ _ _)) pm_X0_init wI_X0_init rfl wMN_X9_18 ⟨by decide, by decide⟩ ⟨by decide, by decide⟩ (nle rfl) dX9_init_20 rfl ?_
  rintro _ N1 ⟨rfl, hO1, ⟨pt, hw1⟩⟩
  have hn1 := hO1 _ _ ((mset_ne (fresh_ne hd1 hq16)).trans hd1) (fresh_ne hd1 hq16)
  show V X (rmD 2 24 941) N1 4 26 [(0, .ref dk)] 23 [.ref q16, .ref dk]
  refine v_putF C E rfl kX9 hn1 1 (by decide) wF_X9_19 rfl rfl rfl rfl (nle rfl) dX9_init_23 ?_
  show V X (rmD 2 24 941) (mset N1 dk (.inr (9, [.ref q5, .ref q16, .null, .null, .null, .null]))) 4 26 [(0, .ref dk)] 26 []
  obtain ⟨P2, hP2⟩ : ∃ Z, Z = mset N1 dk (.inr (9, [.ref q5, .ref q16, .null, .null, .null, .null])) := ⟨_, rfl⟩
  rw [← hP2]
  have hd2 : P2 dk = some (.inr (9, [.ref q5, .ref q16, .null, .null, .null, .null])) := by rw [hP2, mset_same]
  have hk2 : ∀ {ks : List Nat}, 9 ∉ ks → Keep N1 P2 ks := fun h => by rw [hP2]; exact Keep.set hn1 (by exact h) _
  have hp2 : ∀ {ks : List Nat}, 9 ∉ ks → Keep P1 P2 ks := fun h => by rw [hP2]; exact (Old.part hq16 hO1).keep hd1 (by exact h)
  show V X (rmD 2 24 941) P2 4 26 [(0, .ref dk)] 26 []
  refine v_aload_n C dX9_init_26 rfl ?_
  refine v_new (fs := [.null, .int 0, .int 0]) C kX1 wL_X9_23 wB_X1 wN_X1 (by decide +kernel) (by decide) (by decide) dX9_init_27 (fun q27 hq27 => ?_)
  show V X (rmD 2 24 941) (mset P2 q27 (.inr (1, [.null, .int 0, .int 0]))) 5 29 [(0, .ref dk)] 30 [.ref q27, .ref dk]
  refine v_dup C dX9_init_30 rfl ?_
  refine v_callIN (As := []) (rest := [.ref q27, .ref dk]) (b := q27) C (c_X1_initW (xl X) (xg X) (mset P2 q27 (.inr (1, [.null, .int 0, .int 0]))) q27 (mset_same _ _ _)) pm_X1_init wI_X1_init rfl wMN_X9_25 ⟨by decide, by decide⟩ ⟨by decide, by decide⟩ (nle rfl) dX9_init_31 rfl ?_
  rintro _ N2 ⟨rfl, hO2, ⟨va, hw2⟩⟩
  have hn2 := hO2 _ _ ((mset_ne (fresh_ne hd2 hq27)).trans hd2) (fresh_ne hd2 hq27)
  show V X (rmD 2 24 941) N2 6 38 [(0, .ref dk)] 34 [.ref q27, .ref dk]
  refine v_putF C E rfl kX9 hn2 2 (by decide) wF_X9_26 rfl rfl rfl rfl (nle rfl) dX9_init_34 ?_
  show V X (rmD 2 24 941) (mset N2 dk (.inr (9, [.ref q5, .ref q16, .ref q27, .null, .null, .null]))) 6 38 [(0, .ref dk)] 37 []
  obtain ⟨P3, hP3⟩ : ∃ Z, Z = mset N2 dk (.inr (9, [.ref q5, .ref q16, .ref q27, .null, .null, .null])) := ⟨_, rfl⟩
  rw [← hP3]
  have hd3 : P3 dk = some (.inr (9, [.ref q5, .ref q16, .ref q27, .null, .null, .null])) := by rw [hP3, mset_same]
  have hk3 : ∀ {ks : List Nat}, 9 ∉ ks → Keep N2 P3 ks := fun h => by rw [hP3]; exact Keep.set hn2 (by exact h) _
  have hp3 : ∀ {ks : List Nat}, 9 ∉ ks → Keep P2 P3 ks := fun h => by rw [hP3]; exact (Old.part hq27 hO2).keep hd2 (by exact h)
  show V X (rmD 2 24 941) P3 6 38 [(0, .ref dk)] 37 []
  refine v_aload_n C dX9_init_37 rfl ?_
  refine v_new (fs := [.null, .int 0, .null, .null]) C kX8 wL_X9_30 wB_X8 wN_X8 (by decide +kernel) (by decide) (by decide) dX9_init_38 (fun q38 hq38 => ?_)
  show V X (rmD 2 24 941) (mset P3 q38 (.inr (8, [.null, .int 0, .null, .null]))) 7 42 [(0, .ref dk)] 41 [.ref q38, .ref dk]
  refine v_dup C dX9_init_41 rfl ?_
  refine v_callIN (As := []) (rest := [.ref q38, .ref dk]) (b := q38) C (c_X8_init (xl X) (xg X) (mset P3 q38 (.inr (8, [.null, .int 0, .null, .null]))) q38 (mset_same _ _ _)) pm_X8_init wI_X8_init rfl wMN_X9_32 ⟨by decide, by decide⟩ ⟨by decide, by decide⟩ (nle rfl) dX9_init_42 rfl ?_
  rintro _ N3 ⟨rfl, hO3, ⟨sa, xa, na, tA, hw3⟩⟩
  have hn3 := hO3 _ _ ((mset_ne (fresh_ne hd3 hq38)).trans hd3) (fresh_ne hd3 hq38)
  show V X (rmD 2 24 941) N3 15 292 [(0, .ref dk)] 45 [.ref q38, .ref dk]
  refine v_putF C E rfl kX9 hn3 3 (by decide) wF_X9_33 rfl rfl rfl rfl (nle rfl) dX9_init_45 ?_
  show V X (rmD 2 24 941) (mset N3 dk (.inr (9, [.ref q5, .ref q16, .ref q27, .ref q38, .null, .null]))) 15 292 [(0, .ref dk)] 48 []
  obtain ⟨P4, hP4⟩ : ∃ Z, Z = mset N3 dk (.inr (9, [.ref q5, .ref q16, .ref q27, .ref q38, .null, .null])) := ⟨_, rfl⟩
  rw [← hP4]
  have hd4 : P4 dk = some (.inr (9, [.ref q5, .ref q16, .ref q27, .ref q38, .null, .null])) := by rw [hP4, mset_same]
  have hk4 : ∀ {ks : List Nat}, 9 ∉ ks → Keep N3 P4 ks := fun h => by rw [hP4]; exact Keep.set hn3 (by exact h) _
  have hp4 : ∀ {ks : List Nat}, 9 ∉ ks → Keep P3 P4 ks := fun h => by rw [hP4]; exact (Old.part hq38 hO3).keep hd3 (by exact h)
  show V X (rmD 2 24 941) P4 15 292 [(0, .ref dk)] 48 []
  refine v_aload_n C dX9_init_48 rfl ?_
  refine v_new (fs := [.null, .int 0, .int 0]) C kX4 wL_X9_37 wB_X4 wN_X4 (by decide +kernel) (by decide) (by decide) dX9_init_49 (fun q49 hq49 => ?_)
  show V X (rmD 2 24 941) (mset P4 q49 (.inr (4, [.null, .int 0, .int 0]))) 16 295 [(0, .ref dk)] 52 [.ref q49, .ref dk]
  refine v_dup C dX9_init_52 rfl ?_
  refine v_callIN (As := []) (rest := [.ref q49, .ref dk]) (b := q49) C (c_X4_initW (xl X) (xg X) (mset P4 q49 (.inr (4, [.null, .int 0, .int 0]))) q49 (mset_same _ _ _)) pm_X4_init wI_X4_init rfl wMN_X9_39 ⟨by decide, by decide⟩ ⟨by decide, by decide⟩ (nle rfl) dX9_init_53 rfl ?_
  rintro _ N4 ⟨rfl, hO4, ⟨xr, hw4⟩⟩
  have hn4 := hO4 _ _ ((mset_ne (fresh_ne hd4 hq49)).trans hd4) (fresh_ne hd4 hq49)
  show V X (rmD 2 24 941) N4 17 391 [(0, .ref dk)] 56 [.ref q49, .ref dk]
  refine v_putF C E rfl kX9 hn4 4 (by decide) wF_X9_40 rfl rfl rfl rfl (nle rfl) dX9_init_56 ?_
  show V X (rmD 2 24 941) (mset N4 dk (.inr (9, [.ref q5, .ref q16, .ref q27, .ref q38, .ref q49, .null]))) 17 391 [(0, .ref dk)] 59 []
  obtain ⟨P5, hP5⟩ : ∃ Z, Z = mset N4 dk (.inr (9, [.ref q5, .ref q16, .ref q27, .ref q38, .ref q49, .null])) := ⟨_, rfl⟩
  rw [← hP5]
  have hd5 : P5 dk = some (.inr (9, [.ref q5, .ref q16, .ref q27, .ref q38, .ref q49, .null])) := by rw [hP5, mset_same]
  have hk5 : ∀ {ks : List Nat}, 9 ∉ ks → Keep N4 P5 ks := fun h => by rw [hP5]; exact Keep.set hn4 (by exact h) _
  have hp5 : ∀ {ks : List Nat}, 9 ∉ ks → Keep P4 P5 ks := fun h => by rw [hP5]; exact (Old.part hq49 hO4).keep hd4 (by exact h)
  show V X (rmD 2 24 941) P5 17 391 [(0, .ref dk)] 59 []
  refine v_aload_n C dX9_init_59 rfl ?_
  refine v_new (fs := [.null, .null, .null, .null, .null, .null]) C kX2 wL_X9_44 wB_X2 wN_X2 (by decide +kernel) (by decide) (by decide) dX9_init_60 (fun q60 hq60 => ?_)
  show V X (rmD 2 24 941) (mset P5 q60 (.inr (2, [.null, .null, .null, .null, .null, .null]))) 18 397 [(0, .ref dk)] 63 [.ref q60, .ref dk]
  refine v_dup C dX9_init_63 rfl ?_
  refine v_callIN (As := []) (rest := [.ref q60, .ref dk]) (b := q60) C (c_X2_init (xl X) (xg X) (mset P5 q60 (.inr (2, [.null, .null, .null, .null, .null, .null]))) q60 (mset_same _ _ _)) pm_X2_init wI_X2_init rfl wMN_X9_46 ⟨by decide, by decide⟩ ⟨by decide, by decide⟩ (nle rfl) dX9_init_64 rfl ?_
  rintro _ N5 ⟨rfl, hO5, ⟨f0, f1, f2, f3, ja, jb, hw5⟩⟩
  have hn5 := hO5 _ _ ((mset_ne (fresh_ne hd5 hq60)).trans hd5) (fresh_ne hd5 hq60)
  show V X (rmD 2 24 941) N5 24 941 [(0, .ref dk)] 67 [.ref q60, .ref dk]
  refine v_putF C E rfl kX9 hn5 5 (by decide) wF_X9_47 rfl rfl rfl rfl (nle rfl) dX9_init_67 ?_
  show V X (rmD 2 24 941) (mset N5 dk (.inr (9, [.ref q5, .ref q16, .ref q27, .ref q38, .ref q49, .ref q60]))) 24 941 [(0, .ref dk)] 70 []
  obtain ⟨P6, hP6⟩ : ∃ Z, Z = mset N5 dk (.inr (9, [.ref q5, .ref q16, .ref q27, .ref q38, .ref q49, .ref q60])) := ⟨_, rfl⟩
  rw [← hP6]
  have hd6 : P6 dk = some (.inr (9, [.ref q5, .ref q16, .ref q27, .ref q38, .ref q49, .ref q60])) := by rw [hP6, mset_same]
  have hk6 : ∀ {ks : List Nat}, 9 ∉ ks → Keep N5 P6 ks := fun h => by rw [hP6]; exact Keep.set hn5 (by exact h) _
  have hp6 : ∀ {ks : List Nat}, 9 ∉ ks → Keep P5 P6 ks := fun h => by rw [hP6]; exact (Old.part hq60 hO5).keep hd5 (by exact h)
  show V X (rmD 2 24 941) P6 24 941 [(0, .ref dk)] 70 []
  exact v_vret C E dX9_init_70 (nle rfl) (nle rfl) ⟨rfl, q5, ta, z, z, z, q16, pt, z, z, z, z, q27, va, q38, sa, xa, na, tA, q49, xr, q60, f0, f1, f2, f3, ja, jb, lo, lo, lo, lo, cn, cn, false, false, fun _ => 0, 0, 0, fun _ => 0, fun _ => 0, fun _ => 0, hd6, hw0.keep (Keep.tr (Keep.tr (Keep.tr (Keep.tr (Keep.tr (hk1 (by decide)) (hp2 (by decide))) (hp3 (by decide))) (hp4 (by decide))) (hp5 (by decide))) (hp6 (by decide))), hw1.keep (Keep.tr (Keep.tr (Keep.tr (Keep.tr (hk2 (by decide)) (hp3 (by decide))) (hp4 (by decide))) (hp5 (by decide))) (hp6 (by decide))), ⟨(Keep.tr (Keep.tr (Keep.tr (hk3 (ks := [1, 109]) (by decide)) (hp4 (by decide))) (hp5 (by decide))) (hp6 (by decide))) _ _ hw2.1 (by simp [kd]), (Keep.tr (Keep.tr (Keep.tr (hk3 (ks := [1, 109]) (by decide)) (hp4 (by decide))) (hp5 (by decide))) (hp6 (by decide))) _ _ hw2.2 (by simp [kd])⟩, hw3.keepN (Keep.tr (Keep.tr (hk4 (by decide)) (hp5 (by decide))) (hp6 (by decide))), ⟨(Keep.tr (hk5 (ks := [4, 196]) (by decide)) (hp6 (by decide))) _ _ hw4.1 (by simp [kd]), (Keep.tr (hk5 (ks := [4, 196]) (by decide)) (hp6 (by decide))) _ _ hw4.2 (by simp [kd])⟩, hw5.keep (hk6 (by decide)), fun t ht => absurd ht (Nat.not_lt_zero _), fun t ht => absurd ht (Nat.not_lt_zero _), fun t ht => absurd ht (Nat.not_lt_zero _), fun t ht => absurd ht (Nat.not_lt_zero _), fun t ht => absurd ht (Nat.not_lt_zero _), fun t ht => absurd ht (Nat.not_lt_zero _)⟩


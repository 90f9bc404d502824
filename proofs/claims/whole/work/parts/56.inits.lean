/-! Constructors of the class's parts. -/
set_option maxHeartbeats 4000000 in
set_option maxRecDepth 100000 in
theorem c_X3_init (l : Launch) (g : Gm) (M : Mem) (a : Nat) (hm : M a = some (.inr (3, [.null, .int 0]))) : Ct l g yX3_init cX3_init 1 none 1 1 12 [.ref a] M (fun v N => v = none ∧ ∃ q, M q = none ∧ N = mset (mset M q (aQ g 4 12 (fun _ => none))) a (.inr (3, [.ref q, .int 0]))) := by
  refine Ct.of (by decide) (Nat.le_of_ble_eq_true rfl) ?_
  intro X hXl hXg hN C E
  subst hXl; subst hXg
  show V X (rmD 1 1 12) M 0 0 [(0, .ref a)] 0 []
  refine v_aload_n C dX3_init_0 rfl ?_
  refine v_obj C wM_X3_3 wI_java_lang_Object__init____V wC_java_lang_Object__init____V (by decide) (nle rfl) dX3_init_1 ?_
  refine v_aload_n C dX3_init_4 rfl ?_
  refine v_bipush C dX3_init_5 (v := 12) rfl ?_
  refine v_newq C 4 (Cj := RX6) (L := 12) rfl wL_X3_9 wO_Jvm_ClassFile_FieldType_object_PictureDesk_Thing (by decide) rfl (by decide) (by decide) (by decide) dX3_init_7 (fun q7 hq7 => ?_)
  show V X (rmD 1 1 12) (mset M q7 (aQ (xg X) 4 12 (fun _ => none))) 1 12 [(0, .ref a)] 10 [.ref q7, .ref a]
  refine v_putF C E rfl kX3 ((mset_ne (fresh_ne hm hq7)).trans hm) 0 (by decide) wF_X3_11 rfl rfl rfl rfl (nle rfl) dX3_init_10 ?_
  show V X (rmD 1 1 12) (mset (mset M q7 (aQ (xg X) 4 12 (fun _ => none))) a (.inr (3, [.ref q7, .int 0]))) 1 12 [(0, .ref a)] 13 []
  exact v_vret C E dX3_init_13 (nle rfl) (nle rfl) ⟨rfl, q7, hq7, rfl⟩

set_option maxHeartbeats 4000000 in
set_option maxRecDepth 100000 in
theorem c_X0_init (l : Launch) (g : Gm) (M : Mem) (a : Nat) (hm : M a = some (.inr (0, [.null, .int 0]))) : Ct l g yX0_init cX0_init 1 none 1 1 10 [.ref a] M (fun v N => v = none ∧ ∃ q, M q = none ∧ N = mset (mset M q (aQ g 3 10 (fun _ => none))) a (.inr (0, [.ref q, .int 0]))) := by
  refine Ct.of (by decide) (Nat.le_of_ble_eq_true rfl) ?_
  intro X hXl hXg hN C E
  subst hXl; subst hXg
  show V X (rmD 1 1 10) M 0 0 [(0, .ref a)] 0 []
  refine v_aload_n C dX0_init_0 rfl ?_
  refine v_obj C wM_X0_3 wI_java_lang_Object__init____V wC_java_lang_Object__init____V (by decide) (nle rfl) dX0_init_1 ?_
  refine v_aload_n C dX0_init_4 rfl ?_
  refine v_bipush C dX0_init_5 (v := 10) rfl ?_
  refine v_newq C 3 (Cj := RX5) (L := 10) rfl wL_X0_9 wO_Jvm_ClassFile_FieldType_object_PictureDesk_Picture (by decide) rfl (by decide) (by decide) (by decide) dX0_init_7 (fun q7 hq7 => ?_)
  show V X (rmD 1 1 10) (mset M q7 (aQ (xg X) 3 10 (fun _ => none))) 1 10 [(0, .ref a)] 10 [.ref q7, .ref a]
  refine v_putF C E rfl kX0 ((mset_ne (fresh_ne hm hq7)).trans hm) 0 (by decide) wF_X0_11 rfl rfl rfl rfl (nle rfl) dX0_init_10 ?_
  show V X (rmD 1 1 10) (mset (mset M q7 (aQ (xg X) 3 10 (fun _ => none))) a (.inr (0, [.ref q7, .int 0]))) 1 10 [(0, .ref a)] 13 []
  exact v_vret C E dX0_init_13 (nle rfl) (nle rfl) ⟨rfl, q7, hq7, rfl⟩

set_option maxHeartbeats 4000000 in
set_option maxRecDepth 100000 in
theorem c_X1_init (l : Launch) (g : Gm) (M : Mem) (a : Nat) (hm : M a = some (.inr (1, [.null, .int 0, .int 0]))) : Ct l g yX1_init cX1_init 1 none 1 1 9 [.ref a] M (fun v N => v = none ∧ ∃ q, M q = none ∧ N = mset (mset M q (aI g 9 (fun _ => 0))) a (.inr (1, [.ref q, .int 0, .int 0]))) := by
  refine Ct.of (by decide) (Nat.le_of_ble_eq_true rfl) ?_
  intro X hXl hXg hN C E
  subst hXl; subst hXg
  show V X (rmD 1 1 9) M 0 0 [(0, .ref a)] 0 []
  refine v_aload_n C dX1_init_0 rfl ?_
  refine v_obj C wM_X1_3 wI_java_lang_Object__init____V wC_java_lang_Object__init____V (by decide) (nle rfl) dX1_init_1 ?_
  refine v_aload_n C dX1_init_4 rfl ?_
  refine v_bipush C dX1_init_5 (v := 9) rfl ?_
  refine v_newa C 0 (ty0 := .int) (L := 9) (z := (9, .inl (fun _ => 0))) rfl rfl wA_Jvm_ClassFile_FieldType_int (fun U cA h => h) (fun cA => rfl) (by decide) rfl (by decide) (by decide) (by decide) dX1_init_7 (fun q7 hq7 => ?_)
  show V X (rmD 1 1 9) (mset M q7 (aI (xg X) 9 (fun _ => 0))) 1 9 [(0, .ref a)] 9 [.ref q7, .ref a]
  refine v_putF C E rfl kX1 ((mset_ne (fresh_ne hm hq7)).trans hm) 0 (by decide) wF_X1_11 rfl rfl rfl rfl (nle rfl) dX1_init_9 ?_
  show V X (rmD 1 1 9) (mset (mset M q7 (aI (xg X) 9 (fun _ => 0))) a (.inr (1, [.ref q7, .int 0, .int 0]))) 1 9 [(0, .ref a)] 12 []
  exact v_vret C E dX1_init_12 (nle rfl) (nle rfl) ⟨rfl, q7, hq7, rfl⟩

set_option maxHeartbeats 4000000 in
set_option maxRecDepth 100000 in
theorem c_X4_init (l : Launch) (g : Gm) (M : Mem) (a : Nat) (hm : M a = some (.inr (4, [.null, .int 0, .int 0]))) : Ct l g yX4_init cX4_init 1 none 1 1 96 [.ref a] M (fun v N => v = none ∧ ∃ q, M q = none ∧ N = mset (mset M q (aI g 96 (fun _ => 0))) a (.inr (4, [.ref q, .int 0, .int 0]))) := by
  refine Ct.of (by decide) (Nat.le_of_ble_eq_true rfl) ?_
  intro X hXl hXg hN C E
  subst hXl; subst hXg
  show V X (rmD 1 1 96) M 0 0 [(0, .ref a)] 0 []
  refine v_aload_n C dX4_init_0 rfl ?_
  refine v_obj C wM_X4_3 wI_java_lang_Object__init____V wC_java_lang_Object__init____V (by decide) (nle rfl) dX4_init_1 ?_
  refine v_aload_n C dX4_init_4 rfl ?_
  refine v_bipush C dX4_init_5 (v := 96) rfl ?_
  refine v_newa C 0 (ty0 := .int) (L := 96) (z := (96, .inl (fun _ => 0))) rfl rfl wA_Jvm_ClassFile_FieldType_int (fun U cA h => h) (fun cA => rfl) (by decide) rfl (by decide) (by decide) (by decide) dX4_init_7 (fun q7 hq7 => ?_)
  show V X (rmD 1 1 96) (mset M q7 (aI (xg X) 96 (fun _ => 0))) 1 96 [(0, .ref a)] 9 [.ref q7, .ref a]
  refine v_putF C E rfl kX4 ((mset_ne (fresh_ne hm hq7)).trans hm) 0 (by decide) wF_X4_9 rfl rfl rfl rfl (nle rfl) dX4_init_9 ?_
  show V X (rmD 1 1 96) (mset (mset M q7 (aI (xg X) 96 (fun _ => 0))) a (.inr (4, [.ref q7, .int 0, .int 0]))) 1 96 [(0, .ref a)] 12 []
  exact v_vret C E dX4_init_12 (nle rfl) (nle rfl) ⟨rfl, q7, hq7, rfl⟩

set_option maxHeartbeats 4000000 in
set_option maxRecDepth 100000 in
theorem c_X6_init (l : Launch) (g : Gm) (M : Mem) (a ma : Nat) (nu : Int32) (hm : M a = some (.inr (6, [.int 0, .null, .null]))) : Ct l g yX6_init cX6_init 3 none 2 1 2 [.ref a, .int nu, .ref ma] M (fun v N => v = none ∧ ∃ q, M q = none ∧ N = mset (mset M q (.inr (7, [.long 0, .long 0]))) a (.inr (6, [.int nu, .ref ma, .ref q]))) := by
  refine Ct.of (by decide) (Nat.le_of_ble_eq_true rfl) ?_
  intro X hXl hXg hN C E
  subst hXl; subst hXg
  show V X (rmD 2 1 2) M 0 0 [(0, .ref a), (1, .int nu), (2, .ref ma)] 0 []
  refine v_aload_n C dX6_init_0 rfl ?_
  refine v_obj C wM_X6_3 wI_java_lang_Object__init____V wC_java_lang_Object__init____V (by decide) (nle rfl) dX6_init_1 ?_
  refine v_aload_n C dX6_init_4 rfl ?_
  refine v_new (fs := [.long 0, .long 0]) C kX7 wL_X6_9 wB_X7 wN_X7 (by decide +kernel) (by decide) (by decide) dX6_init_5 (fun q5 hq5 => ?_)
  show V X (rmD 2 1 2) (mset M q5 (.inr (7, [.long 0, .long 0]))) 1 2 [(0, .ref a), (1, .int nu), (2, .ref ma)] 8 [.ref q5, .ref a]
  refine v_dup C dX6_init_8 rfl ?_
  refine v_callIN (As := []) (rest := [.ref q5, .ref a]) (b := q5) C (c_X7_init (xl X) (xg X) (mset M q5 (.inr (7, [.long 0, .long 0]))) q5) pm_X7_init wI_X7_init rfl wMN_X6_11 ⟨by decide, by decide⟩ ⟨by decide, by decide⟩ (nle rfl) dX6_init_9 rfl (dt0 ?_)
  show V X (rmD 2 1 2) (mset M q5 (.inr (7, [.long 0, .long 0]))) 1 2 [(0, .ref a), (1, .int nu), (2, .ref ma)] 12 [.ref q5, .ref a]
  refine v_putF C E rfl kX6 ((mset_ne (fresh_ne hm hq5)).trans hm) 2 (by decide) wF_X6_12 rfl rfl rfl rfl (nle rfl) dX6_init_12 ?_
  show V X (rmD 2 1 2) (mset (mset M q5 (.inr (7, [.long 0, .long 0]))) a (.inr (6, [.int 0, .null, .ref q5]))) 1 2 [(0, .ref a), (1, .int nu), (2, .ref ma)] 15 []
  refine v_aload_n C dX6_init_15 rfl ?_
  refine v_iload_n C dX6_init_16 rfl ?_
  refine v_putF C E rfl kX6 (mset_same _ _ _) 0 (by decide) wF_X6_18 rfl rfl rfl rfl (nle rfl) dX6_init_17 ?_
  show V X (rmD 2 1 2) (mset (mset (mset M q5 (.inr (7, [.long 0, .long 0]))) a (.inr (6, [.int 0, .null, .ref q5]))) a (.inr (6, [.int nu, .null, .ref q5]))) 1 2 [(0, .ref a), (1, .int nu), (2, .ref ma)] 20 []
  refine v_aload_n C dX6_init_20 rfl ?_
  refine v_aload_n C dX6_init_21 rfl ?_
  refine v_putF C E rfl kX6 (mset_same _ _ _) 1 (by decide) wF_X6_22 rfl rfl rfl rfl (nle rfl) dX6_init_22 ?_
  show V X (rmD 2 1 2) (mset (mset (mset (mset M q5 (.inr (7, [.long 0, .long 0]))) a (.inr (6, [.int 0, .null, .ref q5]))) a (.inr (6, [.int nu, .null, .ref q5]))) a (.inr (6, [.int nu, .ref ma, .ref q5]))) 1 2 [(0, .ref a), (1, .int nu), (2, .ref ma)] 25 []
  exact v_vret C E dX6_init_25 (nle rfl) (nle rfl) ⟨rfl, q5, hq5, by simp only [mset_mset]⟩

set_option maxHeartbeats 4000000 in
set_option maxRecDepth 100000 in
theorem c_X5_init (l : Launch) (g : Gm) (M : Mem) (a : Nat) (z0 z1 z2 z3 z4 : Int32) (hm : M a = some (.inr (5, [.int 0, .int 0, .int 0, .int 0, .int 0, .null, .null, .null]))) : Ct l g yX5_init cX5_init 6 none 2 3 194 [.ref a, .int z0, .int z1, .int z2, .int z3, .int z4] M (fun v N => v = none ∧ ∃ q1 q2 q3, M q1 = none ∧ M q2 = none ∧ M q3 = none ∧ q1 ≠ q2 ∧ q1 ≠ q3 ∧ q2 ≠ q3 ∧ a ≠ q1 ∧ a ≠ q2 ∧ a ≠ q3 ∧ N = mset (mset (mset (mset M q1 (.inr (7, [.long 0, .long 0]))) q2 (aI g 96 (fun _ => 0))) q3 (aI g 96 (fun _ => 0))) a (.inr (5, [.int z0, .int z1, .int z2, .int z3, .int z4, .ref q1, .ref q2, .ref q3]))) := by
  refine Ct.of (by decide) (Nat.le_of_ble_eq_true rfl) ?_
  intro X hXl hXg hN C E
  subst hXl; subst hXg
  show V X (rmD 2 3 194) M 0 0 [(0, .ref a), (1, .int z0), (2, .int z1), (3, .int z2), (4, .int z3), (5, .int z4)] 0 []
  refine v_aload_n C dX5_init_0 rfl ?_
  refine v_obj C wM_X5_3 wI_java_lang_Object__init____V wC_java_lang_Object__init____V (by decide) (nle rfl) dX5_init_1 ?_
  refine v_aload_n C dX5_init_4 rfl ?_
  refine v_new (fs := [.long 0, .long 0]) C kX7 wL_X5_9 wB_X7 wN_X7 (by decide +kernel) (by decide) (by decide) dX5_init_5 (fun q5 hq5 => ?_)
  show V X (rmD 2 3 194) (mset M q5 (.inr (7, [.long 0, .long 0]))) 1 2 [(0, .ref a), (1, .int z0), (2, .int z1), (3, .int z2), (4, .int z3), (5, .int z4)] 8 [.ref q5, .ref a]
  refine v_dup C dX5_init_8 rfl ?_
  refine v_callIN (As := []) (rest := [.ref q5, .ref a]) (b := q5) C (c_X7_init (xl X) (xg X) (mset M q5 (.inr (7, [.long 0, .long 0]))) q5) pm_X7_init wI_X7_init rfl wMN_X5_11 ⟨by decide, by decide⟩ ⟨by decide, by decide⟩ (nle rfl) dX5_init_9 rfl (dt0 ?_)
  show V X (rmD 2 3 194) (mset M q5 (.inr (7, [.long 0, .long 0]))) 1 2 [(0, .ref a), (1, .int z0), (2, .int z1), (3, .int z2), (4, .int z3), (5, .int z4)] 12 [.ref q5, .ref a]
  refine v_putF C E rfl kX5 ((mset_ne (fresh_ne hm hq5)).trans hm) 5 (by decide) wF_X5_12 rfl rfl rfl rfl (nle rfl) dX5_init_12 ?_
  show V X (rmD 2 3 194) (mset (mset M q5 (.inr (7, [.long 0, .long 0]))) a (.inr (5, [.int 0, .int 0, .int 0, .int 0, .int 0, .ref q5, .null, .null]))) 1 2 [(0, .ref a), (1, .int z0), (2, .int z1), (3, .int z2), (4, .int z3), (5, .int z4)] 15 []
  refine v_aload_n C dX5_init_15 rfl ?_
  refine v_bipush C dX5_init_16 (v := 96) rfl ?_
  refine v_newa C 0 (ty0 := .int) (L := 96) (z := (96, .inl (fun _ => 0))) rfl rfl wA_Jvm_ClassFile_FieldType_int (fun U cA h => h) (fun cA => rfl) (by decide) rfl (by decide) (by decide) (by decide) dX5_init_18 (fun q18 hq18 => ?_)
  show V X (rmD 2 3 194) (mset (mset (mset M q5 (.inr (7, [.long 0, .long 0]))) a (.inr (5, [.int 0, .int 0, .int 0, .int 0, .int 0, .ref q5, .null, .null]))) q18 (aI (xg X) 96 (fun _ => 0))) 2 98 [(0, .ref a), (1, .int z0), (2, .int z1), (3, .int z2), (4, .int z3), (5, .int z4)] 20 [.ref q18, .ref a]
  refine v_putF C E rfl kX5 ((mset_ne (fresh_ne (mset_same _ _ _) hq18)).trans (mset_same _ _ _)) 6 (by decide) wF_X5_18 rfl rfl rfl rfl (nle rfl) dX5_init_20 ?_
  show V X (rmD 2 3 194) (mset (mset (mset (mset M q5 (.inr (7, [.long 0, .long 0]))) a (.inr (5, [.int 0, .int 0, .int 0, .int 0, .int 0, .ref q5, .null, .null]))) q18 (aI (xg X) 96 (fun _ => 0))) a (.inr (5, [.int 0, .int 0, .int 0, .int 0, .int 0, .ref q5, .ref q18, .null]))) 2 98 [(0, .ref a), (1, .int z0), (2, .int z1), (3, .int z2), (4, .int z3), (5, .int z4)] 23 []
  refine v_aload_n C dX5_init_23 rfl ?_
  refine v_bipush C dX5_init_24 (v := 96) rfl ?_
  refine v_newa C 0 (ty0 := .int) (L := 96) (z := (96, .inl (fun _ => 0))) rfl rfl wA_Jvm_ClassFile_FieldType_int (fun U cA h => h) (fun cA => rfl) (by decide) rfl (by decide) (by decide) (by decide) dX5_init_26 (fun q26 hq26 => ?_)
  show V X (rmD 2 3 194) (mset (mset (mset (mset (mset M q5 (.inr (7, [.long 0, .long 0]))) a (.inr (5, [.int 0, .int 0, .int 0, .int 0, .int 0, .ref q5, .null, .null]))) q18 (aI (xg X) 96 (fun _ => 0))) a (.inr (5, [.int 0, .int 0, .int 0, .int 0, .int 0, .ref q5, .ref q18, .null]))) q26 (aI (xg X) 96 (fun _ => 0))) 3 194 [(0, .ref a), (1, .int z0), (2, .int z1), (3, .int z2), (4, .int z3), (5, .int z4)] 28 [.ref q26, .ref a]
  refine v_putF C E rfl kX5 ((mset_ne (fresh_ne (mset_same _ _ _) hq26)).trans (mset_same _ _ _)) 7 (by decide) wF_X5_22 rfl rfl rfl rfl (nle rfl) dX5_init_28 ?_
  show V X (rmD 2 3 194) (mset (mset (mset (mset (mset (mset M q5 (.inr (7, [.long 0, .long 0]))) a (.inr (5, [.int 0, .int 0, .int 0, .int 0, .int 0, .ref q5, .null, .null]))) q18 (aI (xg X) 96 (fun _ => 0))) a (.inr (5, [.int 0, .int 0, .int 0, .int 0, .int 0, .ref q5, .ref q18, .null]))) q26 (aI (xg X) 96 (fun _ => 0))) a (.inr (5, [.int 0, .int 0, .int 0, .int 0, .int 0, .ref q5, .ref q18, .ref q26]))) 3 194 [(0, .ref a), (1, .int z0), (2, .int z1), (3, .int z2), (4, .int z3), (5, .int z4)] 31 []
  refine v_aload_n C dX5_init_31 rfl ?_
  refine v_iload_n C dX5_init_32 rfl ?_
  refine v_putF C E rfl kX5 (mset_same _ _ _) 0 (by decide) wF_X5_25 rfl rfl rfl rfl (nle rfl) dX5_init_33 ?_
  show V X (rmD 2 3 194) (mset (mset (mset (mset (mset (mset (mset M q5 (.inr (7, [.long 0, .long 0]))) a (.inr (5, [.int 0, .int 0, .int 0, .int 0, .int 0, .ref q5, .null, .null]))) q18 (aI (xg X) 96 (fun _ => 0))) a (.inr (5, [.int 0, .int 0, .int 0, .int 0, .int 0, .ref q5, .ref q18, .null]))) q26 (aI (xg X) 96 (fun _ => 0))) a (.inr (5, [.int 0, .int 0, .int 0, .int 0, .int 0, .ref q5, .ref q18, .ref q26]))) a (.inr (5, [.int z0, .int 0, .int 0, .int 0, .int 0, .ref q5, .ref q18, .ref q26]))) 3 194 [(0, .ref a), (1, .int z0), (2, .int z1), (3, .int z2), (4, .int z3), (5, .int z4)] 36 []
  refine v_aload_n C dX5_init_36 rfl ?_
  refine v_iload_n C dX5_init_37 rfl ?_
  refine v_putF C E rfl kX5 (mset_same _ _ _) 1 (by decide) wF_X5_29 rfl rfl rfl rfl (nle rfl) dX5_init_38 ?_
  show V X (rmD 2 3 194) (mset (mset (mset (mset (mset (mset (mset (mset M q5 (.inr (7, [.long 0, .long 0]))) a (.inr (5, [.int 0, .int 0, .int 0, .int 0, .int 0, .ref q5, .null, .null]))) q18 (aI (xg X) 96 (fun _ => 0))) a (.inr (5, [.int 0, .int 0, .int 0, .int 0, .int 0, .ref q5, .ref q18, .null]))) q26 (aI (xg X) 96 (fun _ => 0))) a (.inr (5, [.int 0, .int 0, .int 0, .int 0, .int 0, .ref q5, .ref q18, .ref q26]))) a (.inr (5, [.int z0, .int 0, .int 0, .int 0, .int 0, .ref q5, .ref q18, .ref q26]))) a (.inr (5, [.int z0, .int z1, .int 0, .int 0, .int 0, .ref q5, .ref q18, .ref q26]))) 3 194 [(0, .ref a), (1, .int z0), (2, .int z1), (3, .int z2), (4, .int z3), (5, .int z4)] 41 []
  refine v_aload_n C dX5_init_41 rfl ?_
  refine v_iload_n C dX5_init_42 rfl ?_
  refine v_putF C E rfl kX5 (mset_same _ _ _) 2 (by decide) wF_X5_32 rfl rfl rfl rfl (nle rfl) dX5_init_43 ?_
  show V X (rmD 2 3 194) (mset (mset (mset (mset (mset (mset (mset (mset (mset M q5 (.inr (7, [.long 0, .long 0]))) a (.inr (5, [.int 0, .int 0, .int 0, .int 0, .int 0, .ref q5, .null, .null]))) q18 (aI (xg X) 96 (fun _ => 0))) a (.inr (5, [.int 0, .int 0, .int 0, .int 0, .int 0, .ref q5, .ref q18, .null]))) q26 (aI (xg X) 96 (fun _ => 0))) a (.inr (5, [.int 0, .int 0, .int 0, .int 0, .int 0, .ref q5, .ref q18, .ref q26]))) a (.inr (5, [.int z0, .int 0, .int 0, .int 0, .int 0, .ref q5, .ref q18, .ref q26]))) a (.inr (5, [.int z0, .int z1, .int 0, .int 0, .int 0, .ref q5, .ref q18, .ref q26]))) a (.inr (5, [.int z0, .int z1, .int z2, .int 0, .int 0, .ref q5, .ref q18, .ref q26]))) 3 194 [(0, .ref a), (1, .int z0), (2, .int z1), (3, .int z2), (4, .int z3), (5, .int z4)] 46 []
  refine v_aload_n C dX5_init_46 rfl ?_
  refine v_iload C dX5_init_47 rfl ?_
  refine v_putF C E rfl kX5 (mset_same _ _ _) 3 (by decide) wF_X5_35 rfl rfl rfl rfl (nle rfl) dX5_init_49 ?_
  show V X (rmD 2 3 194) (mset (mset (mset (mset (mset (mset (mset (mset (mset (mset M q5 (.inr (7, [.long 0, .long 0]))) a (.inr (5, [.int 0, .int 0, .int 0, .int 0, .int 0, .ref q5, .null, .null]))) q18 (aI (xg X) 96 (fun _ => 0))) a (.inr (5, [.int 0, .int 0, .int 0, .int 0, .int 0, .ref q5, .ref q18, .null]))) q26 (aI (xg X) 96 (fun _ => 0))) a (.inr (5, [.int 0, .int 0, .int 0, .int 0, .int 0, .ref q5, .ref q18, .ref q26]))) a (.inr (5, [.int z0, .int 0, .int 0, .int 0, .int 0, .ref q5, .ref q18, .ref q26]))) a (.inr (5, [.int z0, .int z1, .int 0, .int 0, .int 0, .ref q5, .ref q18, .ref q26]))) a (.inr (5, [.int z0, .int z1, .int z2, .int 0, .int 0, .ref q5, .ref q18, .ref q26]))) a (.inr (5, [.int z0, .int z1, .int z2, .int z3, .int 0, .ref q5, .ref q18, .ref q26]))) 3 194 [(0, .ref a), (1, .int z0), (2, .int z1), (3, .int z2), (4, .int z3), (5, .int z4)] 52 []
  refine v_aload_n C dX5_init_52 rfl ?_
  refine v_iload C dX5_init_53 rfl ?_
  refine v_putF C E rfl kX5 (mset_same _ _ _) 4 (by decide) wF_X5_38 rfl rfl rfl rfl (nle rfl) dX5_init_55 ?_
  show V X (rmD 2 3 194) (mset (mset (mset (mset (mset (mset (mset (mset (mset (mset (mset M q5 (.inr (7, [.long 0, .long 0]))) a (.inr (5, [.int 0, .int 0, .int 0, .int 0, .int 0, .ref q5, .null, .null]))) q18 (aI (xg X) 96 (fun _ => 0))) a (.inr (5, [.int 0, .int 0, .int 0, .int 0, .int 0, .ref q5, .ref q18, .null]))) q26 (aI (xg X) 96 (fun _ => 0))) a (.inr (5, [.int 0, .int 0, .int 0, .int 0, .int 0, .ref q5, .ref q18, .ref q26]))) a (.inr (5, [.int z0, .int 0, .int 0, .int 0, .int 0, .ref q5, .ref q18, .ref q26]))) a (.inr (5, [.int z0, .int z1, .int 0, .int 0, .int 0, .ref q5, .ref q18, .ref q26]))) a (.inr (5, [.int z0, .int z1, .int z2, .int 0, .int 0, .ref q5, .ref q18, .ref q26]))) a (.inr (5, [.int z0, .int z1, .int z2, .int z3, .int 0, .ref q5, .ref q18, .ref q26]))) a (.inr (5, [.int z0, .int z1, .int z2, .int z3, .int z4, .ref q5, .ref q18, .ref q26]))) 3 194 [(0, .ref a), (1, .int z0), (2, .int z1), (3, .int z2), (4, .int z3), (5, .int z4)] 58 []
  have na1 : a ≠ q5 := fresh_ne hm hq5
  have na2 : a ≠ q18 := fun z => by rw [z, mset_same] at hq18; cases hq18
  have n12 : q5 ≠ q18 := fun z => by rw [← z, mset_ne (Ne.symm na1), mset_same] at hq18; cases hq18
  have f2 : M q18 = none := by rw [mset_ne (Ne.symm na2), mset_ne (Ne.symm n12)] at hq18; exact hq18
  have na3 : a ≠ q26 := fun z => by rw [z, mset_same] at hq26; cases hq26
  have n23 : q18 ≠ q26 := fun z => by rw [← z, mset_ne (Ne.symm na2), mset_same] at hq26; cases hq26
  have n13 : q5 ≠ q26 := fun z => by rw [← z, mset_ne (Ne.symm na1), mset_ne n12, mset_ne (Ne.symm na1), mset_same] at hq26; cases hq26
  have f3 : M q26 = none := by rw [mset_ne (Ne.symm na3), mset_ne (Ne.symm n23), mset_ne (Ne.symm na3), mset_ne (Ne.symm n13)] at hq26; exact hq26
  refine v_vret C E dX5_init_58 (nle rfl) (nle rfl) ⟨rfl, q5, q18, q26, hq5, f2, f3, n12, n13, n23, na1, na2, na3, ?_⟩
  funext b
  by_cases e1 : b = a
  · subst e1; simp [mset]
  · by_cases e2 : b = q26
    · subst e2; simp [mset, e1]
    · by_cases e3 : b = q18
      · subst e3; simp [mset, e1, e2]
      · by_cases e4 : b = q5
        · subst e4; simp [mset, e1, e2, e3]
        · simp [mset, e1, e2, e3, e4]


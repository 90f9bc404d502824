/-! Land: a THING laid on a row, the whole row. -/
set_option maxHeartbeats 4000000 in
set_option maxRecDepth 100000 in
theorem c_X3_lay (l : Launch) (g : Gm) (M : Mem) (la ta : Nat) (th mk dn : Nat → Nat) (nT : Nat) (m : Nat → Nat → Nat) (lo hi : Nat → Int64) (hL : LandW g M la ta th mk dn nT m lo hi) (i : Nat) (lt : i < nT) (ra : Nat) (f0 : Nat → Int32) (hR : M ra = some (aI g 96 f0)) (d : Nat) (ht : there (m i) d = true) (hf : ∀ c, c < 96 → f0 c = oI (bst m (c % 12) (c / 12) d i)) : Ct l g yX3_lay cX3_lay 7 none 2 0 0 [.ref la, .ref (th i), .ref ra] M (fun v N => v = none ∧ ∃ f', N = mset M ra (aI g 96 f') ∧ ∀ c, c < 96 → f' c = oI (bst m (c % 12) (c / 12) d (i + 1))) := by
  refine Ct.of (by decide) (Nat.le_of_ble_eq_true rfl) ?_
  intro X hXl hXg hN C E
  subst hXl; subst hXg
  show V X (rmD 2 0 0) M 0 0 [(0, .ref la), (1, .ref (th i)), (2, .ref ra)] 0 []
  have h12 := hL.1
  have hok := (hL.2.2.2 i lt).2.2.2
  have hok0 : okM (m i) := hok
  unfold okM at hok0
  have hok1 : 1 ≤ m i 2 ∧ m i 2 ≤ 4 ∧ 1 ≤ m i 3 ∧ m i 3 ≤ 4 ∧ m i 0 ≤ 11 ∧ m i 1 ≤ 7 := by omega
  have hok2 : m i 2 * m i 3 ≤ 16 := Nat.le_trans (Nat.mul_le_mul hok1.2.1 hok1.2.2.2.1) (by decide)
  clear hok0
  refine v_aload_n C dX3_lay_0 rfl ?_
  refine v_iconst C dX3_lay_1 (v := 2) rfl ?_
  refine v_callV (As := [.int 2]) (rest := []) (b := th i) C (c_X6_mark (xl X) (xg X) M (th i) (mk i) (dn i) (nI i) (fun w => nI (m i w)) 2 (by decide) ((hL.2.2.2 i lt).1) ((hL.2.2.2 i lt).2.1)) pm_X6_mark wI_X6_mark wS_X6_mark wM_X3_56 kX6 ((hL.2.2.2 i lt).1) ⟨by decide, by decide⟩ ⟨by decide, by decide⟩ (nle rfl) dX3_lay_2 rfl (dt1 ?_)
  show V X (rmD 2 0 0) M 0 0 [(0, .ref la), (1, .ref (th i)), (2, .ref ra)] 5 [.int (nI (m i 2))]
  refine v_istore_n (lv' := [(3, .int (nI (m i 2))), (0, .ref la), (1, .ref (th i)), (2, .ref ra)]) C dX3_lay_5 hN (by decide) rfl ?_
  refine v_iload_n C dX3_lay_6 rfl ?_
  refine v_aload_n C dX3_lay_7 rfl ?_
  refine v_iconst C dX3_lay_8 (v := 3) rfl ?_
  refine v_callV (As := [.int 3]) (rest := [.int (nI (m i 2))]) (b := th i) C (c_X6_mark (xl X) (xg X) M (th i) (mk i) (dn i) (nI i) (fun w => nI (m i w)) 3 (by decide) ((hL.2.2.2 i lt).1) ((hL.2.2.2 i lt).2.1)) pm_X6_mark wI_X6_mark wS_X6_mark wM_X3_56 kX6 ((hL.2.2.2 i lt).1) ⟨by decide, by decide⟩ ⟨by decide, by decide⟩ (nle rfl) dX3_lay_9 rfl (dt1 ?_)
  show V X (rmD 2 0 0) M 0 0 [(3, .int (nI (m i 2))), (0, .ref la), (1, .ref (th i)), (2, .ref ra)] 12 [.int (nI (m i 3)), .int (nI (m i 2))]
  refine v_imul C dX3_lay_12 ?_
  rw [pk_mul]
  show V X (rmD 2 0 0) M 0 0 [(3, .int (nI (m i 2))), (0, .ref la), (1, .ref (th i)), (2, .ref ra)] 13 [.int (nI (m i 2 * m i 3))]
  refine v_istore (lv' := [(4, .int (nI (m i 2 * m i 3))), (3, .int (nI (m i 2))), (0, .ref la), (1, .ref (th i)), (2, .ref ra)]) C dX3_lay_13 hN (by decide) rfl ?_
  refine v_iload_n C dX3_lay_15 rfl ?_
  refine v_iconst C dX3_lay_16 (v := 1) rfl ?_
  refine v_icmp_ge (tgt := 21) C dX3_lay_17 (by decide) (fun h17 => ?_) (fun hbad => absurd hbad (not_not_intro (nI_le (a := 1) (b := m i 2) hok1.1 (by omega))))
  refine v_iconst C dX3_lay_21 (v := 0) rfl ?_
  refine v_istore (lv' := [(5, .int 0), (4, .int (nI (m i 2 * m i 3))), (3, .int (nI (m i 2))), (0, .ref la), (1, .ref (th i)), (2, .ref ra)]) C dX3_lay_22 hN (by decide) rfl ?_
  refine v_sub (lv' := [(0, .ref la), (1, .ref (th i)), (2, .ref ra), (3, .int (nI (m i 2))), (4, .int (nI (m i 2 * m i 3))), (5, .int 0)]) [3, 4, 5, 2, 1, 0] rfl ?_
  have lp24 : ∀ (mm : Nat) (k : Nat) (f : Nat → Int32) (h1 : k ≤ m i 2 * m i 3) (h2 : ∀ c, c < 96 → f c = oI (layF m d i k c)), m i 2 * m i 3 - k < mm → V X (rmD 2 0 0) (mset M ra (aI (xg X) 96 f)) 0 0 [(0, .ref la), (1, .ref (th i)), (2, .ref ra), (3, .int (nI (m i 2))), (4, .int (nI (m i 2 * m i 3))), (5, .int (nI k))] 24 [] := by
    intro mm
    induction mm with
    | zero => intro k f h1 h2 hmu; exact absurd hmu (Nat.not_lt_zero _)
    | succ mm ih24 =>
      intro k f h1 h2 hmu
      have hL2 := hL.setI hR (by decide) (aI (xg X) 96 f)
      refine v_iload C dX3_lay_24 rfl ?_
      refine v_iload C dX3_lay_26 rfl ?_
      refine v_icmp_ge (tgt := 97) C dX3_lay_28 (by decide) (fun h28 => ?_) (fun h28 => ?_)
      · have g28 : k = m i 2 * m i 3 := Nat.le_antisymm h1 (nI_leN (by omega) (by omega) h28)
        exact v_vret C E dX3_lay_97 (nle rfl) (nle rfl) ⟨rfl, f, rfl, fun c hc => by rw [h2 c hc, g28, layF_end hok ht]⟩
      · have g28 := nI_nleN (by omega) (by omega) h28
        obtain ⟨hc96, ex, ey, -, hln⟩ := lay_c hok g28
        have hmod : k % m i 2 < m i 2 := Nat.mod_lt _ (by omega)
        refine v_aload_n C dX3_lay_31 rfl ?_
        refine v_iconst C dX3_lay_32 (v := 0) rfl ?_
        refine v_callV (As := [.int 0]) (rest := []) (b := th i) C (c_X6_mark (xl X) (xg X) (mset M ra (aI (xg X) 96 f)) (th i) (mk i) (dn i) (nI i) (fun w => nI (m i w)) 0 (by decide) ((hL2.2.2.2 i lt).1) ((hL2.2.2.2 i lt).2.1)) pm_X6_mark wI_X6_mark wS_X6_mark wM_X3_56 kX6 ((hL2.2.2.2 i lt).1) ⟨by decide, by decide⟩ ⟨by decide, by decide⟩ (nle rfl) dX3_lay_33 rfl (dt1 ?_)
        show V X (rmD 2 0 0) (mset M ra (aI (xg X) 96 f)) 0 0 [(0, .ref la), (1, .ref (th i)), (2, .ref ra), (3, .int (nI (m i 2))), (4, .int (nI (m i 2 * m i 3))), (5, .int (nI k))] 36 [.int (nI (m i 0))]
        refine v_iload C dX3_lay_36 rfl ?_
        refine v_iload_n C dX3_lay_38 rfl ?_
        refine v_irem C dX3_lay_39 (by exact nI_ne0 (by omega) (by omega)) ?_
        refine v_iadd C dX3_lay_40 ?_
        refine v_aload_n C dX3_lay_41 rfl ?_
        refine v_iconst C dX3_lay_42 (v := 1) rfl ?_
        refine v_callV (As := [.int 1]) (rest := [.int ((nI (m i 0)) + ((nI k) - (nI k) / (nI (m i 2)) * (nI (m i 2))))]) (b := th i) C (c_X6_mark (xl X) (xg X) (mset M ra (aI (xg X) 96 f)) (th i) (mk i) (dn i) (nI i) (fun w => nI (m i w)) 1 (by decide) ((hL2.2.2.2 i lt).1) ((hL2.2.2.2 i lt).2.1)) pm_X6_mark wI_X6_mark wS_X6_mark wM_X3_56 kX6 ((hL2.2.2.2 i lt).1) ⟨by decide, by decide⟩ ⟨by decide, by decide⟩ (nle rfl) dX3_lay_43 rfl (dt1 ?_)
        show V X (rmD 2 0 0) (mset M ra (aI (xg X) 96 f)) 0 0 [(0, .ref la), (1, .ref (th i)), (2, .ref ra), (3, .int (nI (m i 2))), (4, .int (nI (m i 2 * m i 3))), (5, .int (nI k))] 46 [.int (nI (m i 1)), .int ((nI (m i 0)) + ((nI k) - (nI k) / (nI (m i 2)) * (nI (m i 2))))]
        refine v_iload C dX3_lay_46 rfl ?_
        refine v_iload_n C dX3_lay_48 rfl ?_
        refine v_idiv C dX3_lay_49 (by exact nI_ne0 (by omega) (by omega)) ?_
        refine v_iadd C dX3_lay_50 ?_
        rw [pk_rem (by omega) (by omega) (by omega), pk_div (by omega) (by omega) (by omega), nI_add, nI_add]
        show V X (rmD 2 0 0) (mset M ra (aI (xg X) 96 f)) 0 0 [(0, .ref la), (1, .ref (th i)), (2, .ref ra), (3, .int (nI (m i 2))), (4, .int (nI (m i 2 * m i 3))), (5, .int (nI k))] 51 [.int (nI (m i 1 + k / m i 2)), .int (nI (m i 0 + k % m i 2))]
        refine v_callSN (As := [.int (nI (m i 0 + k % m i 2)), .int (nI (m i 1 + k / m i 2))]) (rest := []) C (c_X9_cellOf (xl X) (xg X) (nI (m i 0 + k % m i 2)) (nI (m i 1 + k / m i 2)) (mset M ra (aI (xg X) 96 f))) pm_X9_cellOf wT_X9_cellOf wMN_X3_60 ⟨by decide, by decide⟩ ⟨by decide, by decide⟩ (nle rfl) dX3_lay_51 rfl (dt1 ?_)
        show V X (rmD 2 0 0) (mset M ra (aI (xg X) 96 f)) 0 0 [(0, .ref la), (1, .ref (th i)), (2, .ref ra), (3, .int (nI (m i 2))), (4, .int (nI (m i 2 * m i 3))), (5, .int (nI k))] 54 [.int (12 * (nI (m i 1 + k / m i 2)) + (nI (m i 0 + k % m i 2)))]
        rw [show (12 : Int32) * nI (m i 1 + k / m i 2) + nI (m i 0 + k % m i 2) = nI (layC (m i) k) by rw [show (12 : Int32) = nI 12 from rfl, pk_mul, nI_add]; rfl]
        show V X (rmD 2 0 0) (mset M ra (aI (xg X) 96 f)) 0 0 [(0, .ref la), (1, .ref (th i)), (2, .ref ra), (3, .int (nI (m i 2))), (4, .int (nI (m i 2 * m i 3))), (5, .int (nI k))] 54 [.int (nI (layC (m i) k))]
        refine v_istore (lv' := [(6, .int (nI (layC (m i) k))), (0, .ref la), (1, .ref (th i)), (2, .ref ra), (3, .int (nI (m i 2))), (4, .int (nI (m i 2 * m i 3))), (5, .int (nI k))]) C dX3_lay_54 hN (by decide) rfl ?_
        refine v_iload C dX3_lay_56 rfl ?_
        refine v_if_lt (tgt := 91) C dX3_lay_58 (by decide) (fun hbad => absurd hbad (nI_pos (by omega))) (fun h58 => ?_)
        refine v_iload C dX3_lay_61 rfl ?_
        refine v_aload_n C dX3_lay_63 rfl ?_
        refine v_aleni C (mset_same _ _ _) dX3_lay_64 ?_
        refine v_icmp_ge (tgt := 91) C dX3_lay_65 (by decide) (fun hbad => absurd hbad (nI_ge (b := 96) hc96 (by decide))) (fun h65 => ?_)
        refine v_aload_n C dX3_lay_68 rfl ?_
        refine v_aload_n C dX3_lay_69 rfl ?_
        refine v_aload_n C dX3_lay_70 rfl ?_
        refine v_iload C dX3_lay_71 rfl ?_
        refine v_iald C (mset_same _ _ _) (vp_in_nI hc96 (by decide)) dX3_lay_73 ?_
        rw [nI_clamp (by omega), h2 _ hc96, layF_here hok g28]
        rcases oI_find (o := bst m (m i 0 + k % m i 2) (m i 1 + k / m i 2) d i) (n := i) (fun b hb => bst_lt hb) with ⟨hb, e0⟩ | ⟨b, hb, hbi, e0⟩
        · rw [e0]
          show V X (rmD 2 0 0) (mset M ra (aI (xg X) 96 f)) 0 0 [(6, .int (nI (layC (m i) k))), (0, .ref la), (1, .ref (th i)), (2, .ref ra), (3, .int (nI (m i 2))), (4, .int (nI (m i 2 * m i 3))), (5, .int (nI k))] 74 [.int ((-6)), .ref la, .ref (th i)]
          refine v_callV (As := [.int ((-6))]) (rest := [.ref (th i)]) (b := la) C (c_X3_findN (xl X) (xg X) (mset M ra (aI (xg X) 96 f)) la ta th mk dn nT m lo hi ((-6)) (fun i hi => m6_ne (by omega)) hL2) pm_X3_find wI_X3_find wS_X3_find wM_X3_32 kX3 hL2.2.1 ⟨by decide, by decide⟩ ⟨by decide, by decide⟩ (nle rfl) dX3_lay_74 rfl (dt1 ?_)
          show V X (rmD 2 0 0) (mset M ra (aI (xg X) 96 f)) 0 0 [(6, .int (nI (layC (m i) k))), (0, .ref la), (1, .ref (th i)), (2, .ref ra), (3, .int (nI (m i 2))), (4, .int (nI (m i 2 * m i 3))), (5, .int (nI k))] 77 [.null, .ref (th i)]
          refine v_callV (As := [.null]) (rest := []) (b := th i) C (c_X6_isAboveN (xl X) (xg X) (mset M ra (aI (xg X) 96 f)) (th i) (mk i) (dn i) (nI i) (fun w => nI (m i w)) ((hL2.2.2.2 i lt).1) ((hL2.2.2.2 i lt).2.1)) pm_X6_isAbove wI_X6_isAbove wS_X6_isAbove wM_X3_44 kX6 ((hL2.2.2.2 i lt).1) ⟨by decide, by decide⟩ ⟨by decide, by decide⟩ (nle rfl) dX3_lay_77 rfl (dt1 ?_)
          show V X (rmD 2 0 0) (mset M ra (aI (xg X) 96 f)) 0 0 [(6, .int (nI (layC (m i) k))), (0, .ref la), (1, .ref (th i)), (2, .ref ra), (3, .int (nI (m i 2))), (4, .int (nI (m i 2 * m i 3))), (5, .int (nI k))] 80 [.int (bI true)]
          refine v_ifb_eq (tgt := 91) C dX3_lay_80 (by decide) (fun hbad => absurd hbad (by decide)) (fun h80 => ?_)
          refine v_aload_n C dX3_lay_83 rfl ?_
          refine v_iload C dX3_lay_84 rfl ?_
          refine v_aload_n C dX3_lay_86 rfl ?_
          refine v_callV (As := []) (rest := [.int (nI (layC (m i) k)), .ref ra]) (b := th i) C (c_X6_number (xl X) (xg X) (mset M ra (aI (xg X) 96 f)) (th i) (mk i) (dn i) (nI i) ((hL2.2.2.2 i lt).1)) pm_X6_number wI_X6_number wS_X6_number wM_X3_48 kX6 ((hL2.2.2.2 i lt).1) ⟨by decide, by decide⟩ ⟨by decide, by decide⟩ (nle rfl) dX3_lay_87 rfl (dt1 ?_)
          show V X (rmD 2 0 0) (mset M ra (aI (xg X) 96 f)) 0 0 [(6, .int (nI (layC (m i) k))), (0, .ref la), (1, .ref (th i)), (2, .ref ra), (3, .int (nI (m i 2))), (4, .int (nI (m i 2 * m i 3))), (5, .int (nI k))] 90 [.int (nI i), .int (nI (layC (m i) k)), .ref ra]
          refine v_iast C (mset_same _ _ _) (vp_in_nI hc96 (by decide)) dX3_lay_90 ?_
          show V X (rmD 2 0 0) (mset (mset M ra (aI (xg X) 96 f)) ra (aI (xg X) 96 (upd f (nI (layC (m i) k) : Int32).toNatClampNeg (nI i)))) 0 0 [(6, .int (nI (layC (m i) k))), (0, .ref la), (1, .ref (th i)), (2, .ref ra), (3, .int (nI (m i 2))), (4, .int (nI (m i 2 * m i 3))), (5, .int (nI k))] 91 []
          refine v_iinc (lv' := [(5, .int (nI (k + 1))), (6, .int (nI (layC (m i) k))), (0, .ref la), (1, .ref (th i)), (2, .ref ra), (3, .int (nI (m i 2))), (4, .int (nI (m i 2 * m i 3)))]) C dX3_lay_91 6 rfl (nI_1 _) hN (by decide) rfl ?_
          refine v_goto (tgt := 24) C dX3_lay_94 (by decide) ?_
          refine v_sub (lv' := [(0, .ref la), (1, .ref (th i)), (2, .ref ra), (3, .int (nI (m i 2))), (4, .int (nI (m i 2 * m i 3))), (5, .int (nI (k + 1)))]) [2, 3, 4, 5, 6, 0] rfl ?_
          rw [mset_mset]
          refine ih24 (k + 1) _ (by omega) (fun c hc => ?_) (by omega)
          rw [layF_step hok g28, nI_clamp (by omega)]
          by_cases q : c = layC (m i) k
          · rw [if_pos ⟨q, by rw [hb]; simp [abv, *]⟩]; simp [upd, q, oI]
          · rw [if_neg (fun z => q z.1)]; simp [upd, q]; exact h2 c hc
        · rw [e0]
          show V X (rmD 2 0 0) (mset M ra (aI (xg X) 96 f)) 0 0 [(6, .int (nI (layC (m i) k))), (0, .ref la), (1, .ref (th i)), (2, .ref ra), (3, .int (nI (m i 2))), (4, .int (nI (m i 2 * m i 3))), (5, .int (nI k))] 74 [.int (nI b), .ref la, .ref (th i)]
          refine v_callV (As := [.int (nI b)]) (rest := [.ref (th i)]) (b := la) C (c_X3_find (xl X) (xg X) (mset M ra (aI (xg X) 96 f)) la ta th mk dn nT m lo hi b ((by omega)) hL2) pm_X3_find wI_X3_find wS_X3_find wM_X3_32 kX3 hL2.2.1 ⟨by decide, by decide⟩ ⟨by decide, by decide⟩ (nle rfl) dX3_lay_74 rfl (dt1 ?_)
          show V X (rmD 2 0 0) (mset M ra (aI (xg X) 96 f)) 0 0 [(6, .int (nI (layC (m i) k))), (0, .ref la), (1, .ref (th i)), (2, .ref ra), (3, .int (nI (m i 2))), (4, .int (nI (m i 2 * m i 3))), (5, .int (nI k))] 77 [.ref (th b), .ref (th i)]
          refine v_callV (As := [.ref (th b)]) (rest := []) (b := th i) C (c_X6_isAbove (xl X) (xg X) (mset M ra (aI (xg X) 96 f)) (th i) (mk i) (dn i) (nI i) (fun w => nI (m i w)) (th b) (mk b) (dn b) (nI b) (fun w => nI (m b w)) ((hL2.2.2.2 i lt).1) ((hL2.2.2.2 i lt).2.1) ((hL2.2.2.2 b ((by omega))).1) ((hL2.2.2.2 b ((by omega))).2.1)) pm_X6_isAbove wI_X6_isAbove wS_X6_isAbove wM_X3_44 kX6 ((hL2.2.2.2 i lt).1) ⟨by decide, by decide⟩ ⟨by decide, by decide⟩ (nle rfl) dX3_lay_77 rfl (dt1 ?_)
          show V X (rmD 2 0 0) (mset M ra (aI (xg X) 96 f)) 0 0 [(6, .int (nI (layC (m i) k))), (0, .ref la), (1, .ref (th i)), (2, .ref ra), (3, .int (nI (m i 2))), (4, .int (nI (m i 2 * m i 3))), (5, .int (nI k))] 80 [.int (bI (decide (nI (m b 4) < nI (m i 4))))]
          rw [above_N hok (hL2.2.2.2 b (by omega)).2.2.2]
          show V X (rmD 2 0 0) (mset M ra (aI (xg X) 96 f)) 0 0 [(6, .int (nI (layC (m i) k))), (0, .ref la), (1, .ref (th i)), (2, .ref ra), (3, .int (nI (m i 2))), (4, .int (nI (m i 2 * m i 3))), (5, .int (nI k))] 80 [.int (bI (decide (m b 4 < m i 4)))]
          refine v_ifb_eq (tgt := 91) C dX3_lay_80 (by decide) (fun h80 => ?_) (fun h80 => ?_)
          · refine v_iinc (lv' := [(5, .int (nI (k + 1))), (6, .int (nI (layC (m i) k))), (0, .ref la), (1, .ref (th i)), (2, .ref ra), (3, .int (nI (m i 2))), (4, .int (nI (m i 2 * m i 3)))]) C dX3_lay_91 6 rfl (nI_1 _) hN (by decide) rfl ?_
            refine v_goto (tgt := 24) C dX3_lay_94 (by decide) ?_
            refine v_sub (lv' := [(0, .ref la), (1, .ref (th i)), (2, .ref ra), (3, .int (nI (m i 2))), (4, .int (nI (m i 2 * m i 3))), (5, .int (nI (k + 1)))]) [2, 3, 4, 5, 6, 0] rfl ?_
            exact ih24 (k + 1) f (by omega) (fun c hc => by rw [layF_step hok g28, if_neg (by intro q; have q2 := q.2; rw [hb] at q2; simp [abv, *] at q2)]; exact h2 c hc) (by omega)
          · refine v_aload_n C dX3_lay_83 rfl ?_
            refine v_iload C dX3_lay_84 rfl ?_
            refine v_aload_n C dX3_lay_86 rfl ?_
            refine v_callV (As := []) (rest := [.int (nI (layC (m i) k)), .ref ra]) (b := th i) C (c_X6_number (xl X) (xg X) (mset M ra (aI (xg X) 96 f)) (th i) (mk i) (dn i) (nI i) ((hL2.2.2.2 i lt).1)) pm_X6_number wI_X6_number wS_X6_number wM_X3_48 kX6 ((hL2.2.2.2 i lt).1) ⟨by decide, by decide⟩ ⟨by decide, by decide⟩ (nle rfl) dX3_lay_87 rfl (dt1 ?_)
            show V X (rmD 2 0 0) (mset M ra (aI (xg X) 96 f)) 0 0 [(6, .int (nI (layC (m i) k))), (0, .ref la), (1, .ref (th i)), (2, .ref ra), (3, .int (nI (m i 2))), (4, .int (nI (m i 2 * m i 3))), (5, .int (nI k))] 90 [.int (nI i), .int (nI (layC (m i) k)), .ref ra]
            refine v_iast C (mset_same _ _ _) (vp_in_nI hc96 (by decide)) dX3_lay_90 ?_
            show V X (rmD 2 0 0) (mset (mset M ra (aI (xg X) 96 f)) ra (aI (xg X) 96 (upd f (nI (layC (m i) k) : Int32).toNatClampNeg (nI i)))) 0 0 [(6, .int (nI (layC (m i) k))), (0, .ref la), (1, .ref (th i)), (2, .ref ra), (3, .int (nI (m i 2))), (4, .int (nI (m i 2 * m i 3))), (5, .int (nI k))] 91 []
            refine v_iinc (lv' := [(5, .int (nI (k + 1))), (6, .int (nI (layC (m i) k))), (0, .ref la), (1, .ref (th i)), (2, .ref ra), (3, .int (nI (m i 2))), (4, .int (nI (m i 2 * m i 3)))]) C dX3_lay_91 6 rfl (nI_1 _) hN (by decide) rfl ?_
            refine v_goto (tgt := 24) C dX3_lay_94 (by decide) ?_
            refine v_sub (lv' := [(0, .ref la), (1, .ref (th i)), (2, .ref ra), (3, .int (nI (m i 2))), (4, .int (nI (m i 2 * m i 3))), (5, .int (nI (k + 1)))]) [2, 3, 4, 5, 6, 0] rfl ?_
            rw [mset_mset]
            refine ih24 (k + 1) _ (by omega) (fun c hc => ?_) (by omega)
            rw [layF_step hok g28, nI_clamp (by omega)]
            by_cases q : c = layC (m i) k
            · rw [if_pos ⟨q, by rw [hb]; simp [abv, *]⟩]; simp [upd, q, oI]
            · rw [if_neg (fun z => q z.1)]; simp [upd, q]; exact h2 c hc
  have q := lp24 (_ + 1) 0 f0 (Nat.zero_le _) (fun c hc => by rw [layF_0]; exact hf c hc) (Nat.lt_succ_self _)
  rw [mset_id hR] at q
  exact q

set_option maxHeartbeats 4000000 in
set_option maxRecDepth 100000 in
theorem c_X3_fillCounting (l : Launch) (g : Gm) (M : Mem) (la ta : Nat) (th mk dn : Nat → Nat) (nT : Nat) (m : Nat → Nat → Nat) (lo hi : Nat → Int64) (hL : LandW g M la ta th mk dn nT m lo hi) (ra : Nat) (f0 : Nat → Int32) (hR : M ra = some (aI g 96 f0)) (d : Nat) (hd : d < 100) : Ct l g yX3_fillCounting cX3_fillCounting 5 none 3 0 0 [.ref la, .ref ra, .int (nI d)] M (fun v N => v = none ∧ ∃ f', N = mset M ra (aI g 96 f') ∧ ∀ c, c < 96 → f' c = oI (bst m (c % 12) (c / 12) d nT)) := by
  refine Ct.of (by decide) (Nat.le_of_ble_eq_true rfl) ?_
  intro X hXl hXg hN C E
  subst hXl; subst hXg
  show V X (rmD 3 0 0) M 0 0 [(0, .ref la), (1, .ref ra), (2, .int (nI d))] 0 []
  have h12 := hL.1
  refine v_iconst C dX3_fillCounting_0 (v := 0) rfl ?_
  refine v_istore_n (lv' := [(3, .int 0), (0, .ref la), (1, .ref ra), (2, .int (nI d))]) C dX3_fillCounting_1 hN (by decide) rfl ?_
  refine v_sub (lv' := [(0, .ref la), (1, .ref ra), (2, .int (nI d)), (3, .int 0)]) [1, 2, 3, 0] rfl ?_
  have lp2 : ∀ (mm : Nat) (k : Nat) (f : Nat → Int32) (h1 : k ≤ 96) (h2 : ∀ c, c < k → f c = -6), 96 - k < mm → V X (rmD 3 0 0) (mset M ra (aI (xg X) 96 f)) 0 0 [(0, .ref la), (1, .ref ra), (2, .int (nI d)), (3, .int (nI k))] 2 [] := by
    intro mm
    induction mm with
    | zero => intro k f h1 h2 hmu; exact absurd hmu (Nat.not_lt_zero _)
    | succ mm ih2 =>
      intro k f h1 h2 hmu
      have hL2 := hL.setI hR (by decide) (aI (xg X) 96 f)
      refine v_iload_n C dX3_fillCounting_2 rfl ?_
      refine v_aload_n C dX3_fillCounting_3 rfl ?_
      refine v_aleni C (mset_same _ _ _) dX3_fillCounting_4 ?_
      refine v_icmp_ge (tgt := 19) C dX3_fillCounting_5 (by decide) (fun h5 => ?_) (fun h5 => ?_)
      · have g5 : k = 96 := Nat.le_antisymm h1 (nI_leN (by omega) (by omega) h5)
        refine v_iconst C dX3_fillCounting_19 (v := 0) rfl ?_
        refine v_istore_n (lv' := [(3, .int 0), (0, .ref la), (1, .ref ra), (2, .int (nI d))]) C dX3_fillCounting_20 hN (by decide) rfl ?_
        refine v_sub (lv' := [(0, .ref la), (1, .ref ra), (2, .int (nI d)), (3, .int 0)]) [1, 2, 3, 0] rfl ?_
        have lp21 : ∀ (mm : Nat) (i : Nat) (f : Nat → Int32) (h3 : i ≤ nT) (h4 : ∀ c, c < 96 → f c = oI (bst m (c % 12) (c / 12) d i)), nT - i < mm → V X (rmD 3 0 0) (mset M ra (aI (xg X) 96 f)) 0 0 [(0, .ref la), (1, .ref ra), (2, .int (nI d)), (3, .int (nI i))] 21 [] := by
          intro mm
          induction mm with
          | zero => intro i f h3 h4 hmu; exact absurd hmu (Nat.not_lt_zero _)
          | succ mm ih21 =>
            intro i f h3 h4 hmu
            have hL2 := hL.setI hR (by decide) (aI (xg X) 96 f)
            refine v_iload_n C dX3_fillCounting_21 rfl ?_
            refine v_aload_n C dX3_fillCounting_22 rfl ?_
            refine v_get C kX3 hL2.2.1 1 (by decide) wF_X3_17 rfl dX3_fillCounting_23 ?_
            refine v_icmp_ge (tgt := 63) C dX3_fillCounting_26 (by decide) (fun h26 => ?_) (fun h26 => ?_)
            · have g26 : i = nT := Nat.le_antisymm h3 (nI_leN (by omega) (by omega) h26)
              subst g26
              exact v_vret C E dX3_fillCounting_63 (nle rfl) (nle rfl) ⟨rfl, f, rfl, h4⟩
            · have g26 := nI_nleN (by omega) (by omega) h26
              refine v_aload_n C dX3_fillCounting_29 rfl ?_
              refine v_iload_n C dX3_fillCounting_30 rfl ?_
              refine v_callV (As := [.int (nI i)]) (rest := []) (b := la) C (c_X3_find (xl X) (xg X) (mset M ra (aI (xg X) 96 f)) la ta th mk dn nT m lo hi i g26 hL2) pm_X3_find wI_X3_find wS_X3_find wM_X3_32 kX3 hL2.2.1 ⟨by decide, by decide⟩ ⟨by decide, by decide⟩ (nle rfl) dX3_fillCounting_31 rfl (dt1 ?_)
              show V X (rmD 3 0 0) (mset M ra (aI (xg X) 96 f)) 0 0 [(0, .ref la), (1, .ref ra), (2, .int (nI d)), (3, .int (nI i))] 34 [.ref (th i)]
              refine v_astore (lv' := [(4, .ref (th i)), (0, .ref la), (1, .ref ra), (2, .int (nI d)), (3, .int (nI i))]) C dX3_fillCounting_34 hN (by decide) rfl ?_
              refine v_aload C dX3_fillCounting_36 rfl ?_
              refine v_ifnull C dX3_fillCounting_38 ?_
              refine v_aload C dX3_fillCounting_41 rfl ?_
              refine v_iload_n C dX3_fillCounting_43 rfl ?_
              refine v_callV (As := [.int (nI d)]) (rest := []) (b := th i) C (c_X6_isThere (xl X) (xg X) (mset M ra (aI (xg X) 96 f)) (th i) (mk i) (dn i) (nI i) (fun w => nI (m i w)) (nI d) ((hL2.2.2.2 i g26).1) ((hL2.2.2.2 i g26).2.1)) pm_X6_isThere wI_X6_isThere wS_X6_isThere wM_X3_36 kX6 ((hL2.2.2.2 i g26).1) ⟨by decide, by decide⟩ ⟨by decide, by decide⟩ (nle rfl) dX3_fillCounting_44 rfl (dt1 ?_)
              show V X (rmD 3 0 0) (mset M ra (aI (xg X) 96 f)) 0 0 [(4, .ref (th i)), (0, .ref la), (1, .ref ra), (2, .int (nI d)), (3, .int (nI i))] 47 [.int (bI (qin (nI d) (nI (m i 6)) (nI (m i 7))))]
              rw [there_N (hL2.2.2.2 i g26).2.2.2 (by omega)]
              show V X (rmD 3 0 0) (mset M ra (aI (xg X) 96 f)) 0 0 [(4, .ref (th i)), (0, .ref la), (1, .ref ra), (2, .int (nI d)), (3, .int (nI i))] 47 [.int (bI (there (m i) d))]
              refine v_ifb_eq (tgt := 57) C dX3_fillCounting_47 (by decide) (fun h47 => ?_) (fun h47 => ?_)
              · refine v_iinc (lv' := [(3, .int (nI (i + 1))), (4, .ref (th i)), (0, .ref la), (1, .ref ra), (2, .int (nI d))]) C dX3_fillCounting_57 4 rfl (nI_1 _) hN (by decide) rfl ?_
                refine v_goto (tgt := 21) C dX3_fillCounting_60 (by decide) ?_
                refine v_sub (lv' := [(0, .ref la), (1, .ref ra), (2, .int (nI d)), (3, .int (nI (i + 1)))]) [2, 3, 4, 0] rfl ?_
                exact ih21 (i + 1) f (by omega) (fun c hc => by rw [h4 c hc, bst, h47]; simp) (by omega)
              · refine v_aload_n C dX3_fillCounting_50 rfl ?_
                refine v_aload C dX3_fillCounting_51 rfl ?_
                refine v_aload_n C dX3_fillCounting_53 rfl ?_
                refine v_callV (As := [.ref (th i), .ref ra]) (rest := []) (b := la) C (c_X3_lay (xl X) (xg X) (mset M ra (aI (xg X) 96 f)) la ta th mk dn nT m lo hi hL2 i g26 ra f (mset_same _ _ _) d h47 h4) pm_X3_lay wI_X3_lay wS_X3_lay wM_X3_52 kX3 hL2.2.1 ⟨by decide, by decide⟩ ⟨by decide, by decide⟩ (nle rfl) dX3_fillCounting_54 rfl ?_
                rintro _ _ ⟨rfl, f', rfl, hf'⟩
                show V X (rmD 3 0 0) (mset (mset M ra (aI (xg X) 96 f)) ra (aI (xg X) 96 f')) 0 0 [(4, .ref (th i)), (0, .ref la), (1, .ref ra), (2, .int (nI d)), (3, .int (nI i))] 57 []
                refine v_iinc (lv' := [(3, .int (nI (i + 1))), (4, .ref (th i)), (0, .ref la), (1, .ref ra), (2, .int (nI d))]) C dX3_fillCounting_57 4 rfl (nI_1 _) hN (by decide) rfl ?_
                refine v_goto (tgt := 21) C dX3_fillCounting_60 (by decide) ?_
                refine v_sub (lv' := [(0, .ref la), (1, .ref ra), (2, .int (nI d)), (3, .int (nI (i + 1)))]) [2, 3, 4, 0] rfl ?_
                rw [mset_mset]
                exact ih21 (i + 1) f' (by omega) hf' (by omega)
        exact lp21 (_ + 1) 0 f (Nat.zero_le _) (fun c hc => h2 c (by omega)) (Nat.lt_succ_self _)
      · have g5 := nI_nleN (by omega) (by omega) h5
        refine v_aload_n C dX3_fillCounting_8 rfl ?_
        refine v_iload_n C dX3_fillCounting_9 rfl ?_
        refine v_bipush C dX3_fillCounting_10 (v := (-6)) rfl ?_
        refine v_iast C (mset_same _ _ _) (vp_in_nI g5 (by decide)) dX3_fillCounting_12 ?_
        show V X (rmD 3 0 0) (mset (mset M ra (aI (xg X) 96 f)) ra (aI (xg X) 96 (upd f (nI k : Int32).toNatClampNeg ((-6))))) 0 0 [(0, .ref la), (1, .ref ra), (2, .int (nI d)), (3, .int (nI k))] 13 []
        refine v_iinc (lv' := [(3, .int (nI (k + 1))), (0, .ref la), (1, .ref ra), (2, .int (nI d))]) C dX3_fillCounting_13 3 rfl (nI_1 _) hN (by decide) rfl ?_
        refine v_goto (tgt := 2) C dX3_fillCounting_16 (by decide) ?_
        refine v_sub (lv' := [(0, .ref la), (1, .ref ra), (2, .int (nI d)), (3, .int (nI (k + 1)))]) [1, 2, 3, 0] rfl ?_
        rw [mset_mset, nI_clamp (by omega)]
        exact ih2 (k + 1) _ (by omega) (fun c hc => by by_cases q : c = k <;> simp [upd, q]; exact h2 c (by omega)) (by omega)
  have q := lp2 (_ + 1) 0 f0 (Nat.zero_le _) (fun c hc => absurd hc (Nat.not_lt_zero _)) (Nat.lt_succ_self _)
  rw [mset_id hR] at q
  exact q


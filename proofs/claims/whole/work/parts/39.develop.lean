/-! Picture: its shadows, develop. -/
set_option maxHeartbeats 4000000 in
set_option maxRecDepth 100000 in
theorem c_X5_castShadow (l : Launch) (g : Gm) (M : Mem) (pa ca ka ra : Nat) (pf : Nat → Nat) (pl ph : Int64) (cn lk : Nat → Int32) (hP : PicW g M pa ca ka ra pf pl ph cn lk) (c r : Nat) (hc : c < 96) (hr : r ≤ 40) : Ct l g yX5_castShadow cX5_castShadow 7 none 2 0 0 [.ref pa, .int (nI c), .int (nI r)] M (fun v N => v = none ∧ ∃ f', N = mset M ra (aI g 96 f') ∧ ∀ c', c' < 96 → f' c' = if hitK (pf 3) c r c' then 1 else lk c') := by
  refine Ct.of (by decide) (Nat.le_of_ble_eq_true rfl) ?_
  intro X hXl hXg hN C E
  subst hXl; subst hXg
  show V X (rmD 2 0 0) M 0 0 [(0, .ref pa), (1, .int (nI c)), (2, .int (nI r))] 0 []
  have hok := hP.1
  unfold okP at hok
  have hq : qin (nI (2 * pf 3)) 0 7 = true := by rw [show qin (nI (2 * pf 3)) 0 7 = qin (nI (2 * pf 3)) (nI 0) (nI 7) from rfl, qin_N (by omega) (by decide) (by decide)]; simp; omega
  refine v_iconst C dX5_castShadow_0 (v := 2) rfl ?_
  refine v_aload_n C dX5_castShadow_1 rfl ?_
  refine v_get C kX5 hP.2.2.1 3 (by decide) wF_X5_35 rfl dX5_castShadow_2 ?_
  refine v_imul C dX5_castShadow_5 ?_
  rw [show (2 : Int32) * nI (pf 3) = nI (2 * pf 3) from pk_mul 2 (pf 3)]
  show V X (rmD 2 0 0) M 0 0 [(0, .ref pa), (1, .int (nI c)), (2, .int (nI r))] 6 [.int (nI (2 * pf 3))]
  refine v_istore_n (lv' := [(3, .int (nI (2 * pf 3))), (0, .ref pa), (1, .int (nI c)), (2, .int (nI r))]) C dX5_castShadow_6 hN (by decide) rfl ?_
  refine v_iload_n C dX5_castShadow_7 rfl ?_
  refine v_iconst C dX5_castShadow_8 (v := 0) rfl ?_
  refine v_bipush C dX5_castShadow_9 (v := 7) rfl ?_
  refine v_callSN (As := [.int (nI (2 * pf 3)), .int 0, .int 7]) (rest := []) C (c_X9_isWithin (xl X) (xg X) (nI (2 * pf 3)) 0 7 M) pm_X9_isWithin wT_X9_isWithin wMN_X5_64 ⟨by decide, by decide⟩ ⟨by decide, by decide⟩ (nle rfl) dX5_castShadow_11 rfl (dt1 ?_)
  show V X (rmD 2 0 0) M 0 0 [(3, .int (nI (2 * pf 3))), (0, .ref pa), (1, .int (nI c)), (2, .int (nI r))] 14 [.int (bI (qin (nI (2 * pf 3)) 0 7))]
  refine v_ifb_ne (tgt := 18) C dX5_castShadow_14 (by decide) (fun h14 => ?_) (fun hbad => absurd hbad (by rw [hq]; decide))
  refine v_iload_n C dX5_castShadow_18 rfl ?_
  refine v_bipush C dX5_castShadow_19 (v := 12) rfl ?_
  refine v_irem C dX5_castShadow_21 (by decide) ?_
  refine v_getE C wFN_X5_68 dX5_castShadow_22 ?_
  refine v_iload_n C dX5_castShadow_25 rfl ?_
  refine v_ialdE C (vp_in_nI (by omega) (by decide)) dX5_castShadow_26 ?_
  refine v_iadd C dX5_castShadow_27 ?_
  rw [cell_mod (by omega), nI_clamp (by omega), px_first (by omega)]
  show V X (rmD 2 0 0) M 0 0 [(3, .int (nI (2 * pf 3))), (0, .ref pa), (1, .int (nI c)), (2, .int (nI r))] 28 [.int (Int32.ofInt (px (pf 3) c 1))]
  refine v_istore (lv' := [(4, .int (Int32.ofInt (px (pf 3) c 1))), (3, .int (nI (2 * pf 3))), (0, .ref pa), (1, .int (nI c)), (2, .int (nI r))]) C dX5_castShadow_28 hN (by decide) rfl ?_
  refine v_iload_n C dX5_castShadow_30 rfl ?_
  refine v_bipush C dX5_castShadow_31 (v := 12) rfl ?_
  refine v_idiv C dX5_castShadow_33 (by decide) ?_
  refine v_getS C wFN_X5_71 dX5_castShadow_34 ?_
  refine v_iload_n C dX5_castShadow_37 rfl ?_
  refine v_ialdS C (vp_in_nI (by omega) (by decide)) dX5_castShadow_38 ?_
  refine v_iadd C dX5_castShadow_39 ?_
  rw [cell_div (by omega), nI_clamp (by omega), py_first (by omega)]
  show V X (rmD 2 0 0) M 0 0 [(4, .int (Int32.ofInt (px (pf 3) c 1))), (3, .int (nI (2 * pf 3))), (0, .ref pa), (1, .int (nI c)), (2, .int (nI r))] 40 [.int (Int32.ofInt (py (pf 3) c 1))]
  refine v_istore (lv' := [(5, .int (Int32.ofInt (py (pf 3) c 1))), (4, .int (Int32.ofInt (px (pf 3) c 1))), (3, .int (nI (2 * pf 3))), (0, .ref pa), (1, .int (nI c)), (2, .int (nI r))]) C dX5_castShadow_40 hN (by decide) rfl ?_
  refine v_iconst C dX5_castShadow_42 (v := 1) rfl ?_
  refine v_istore (lv' := [(6, .int 1), (5, .int (Int32.ofInt (py (pf 3) c 1))), (4, .int (Int32.ofInt (px (pf 3) c 1))), (3, .int (nI (2 * pf 3))), (0, .ref pa), (1, .int (nI c)), (2, .int (nI r))]) C dX5_castShadow_43 hN (by decide) rfl ?_
  refine v_sub (lv' := [(0, .ref pa), (1, .int (nI c)), (2, .int (nI r)), (3, .int (nI (2 * pf 3))), (4, .int (Int32.ofInt (px (pf 3) c 1))), (5, .int (Int32.ofInt (py (pf 3) c 1))), (6, .int 1)]) [4, 5, 6, 3, 2, 1, 0] rfl ?_
  have lp45 : ∀ (mm : Nat) (k : Nat) (f : Nat → Int32) (h1 : k ≤ r) (h2 : ∀ c', c' < 96 → f c' = if hitK (pf 3) c k c' then 1 else lk c'), r - k < mm → V X (rmD 2 0 0) (mset M ra (aI (xg X) 96 f)) 0 0 [(0, .ref pa), (1, .int (nI c)), (2, .int (nI r)), (3, .int (nI (2 * pf 3))), (4, .int (Int32.ofInt (px (pf 3) c (k + 1)))), (5, .int (Int32.ofInt (py (pf 3) c (k + 1)))), (6, .int (nI (k + 1)))] 45 [] := by
    intro mm
    induction mm with
    | zero => intro k f h1 h2 hmu; exact absurd hmu (Nat.not_lt_zero _)
    | succ mm ih45 =>
      intro k f h1 h2 hmu
      have hP2 := hP.setR f
      refine v_iload C dX5_castShadow_45 rfl ?_
      refine v_iload_n C dX5_castShadow_47 rfl ?_
      refine v_icmp_gt (tgt := 100) C dX5_castShadow_48 (by decide) (fun h48 => ?_) (fun h48 => ?_)
      · exact v_vret C E dX5_castShadow_100 (nle rfl) (nle rfl) ⟨rfl, f, rfl, fun c' hc' => by rw [h2 c' hc']; first | rw [hitK_far hc h1 (mv_off hc (by omega) h58)] | rw [show k = r by have := nI_ltN (by omega) (by omega) h48; omega]⟩
      · have g48 := nI_nltN (by omega) (by omega) h48
        refine v_iload C dX5_castShadow_51 rfl ?_
        refine v_iload C dX5_castShadow_53 rfl ?_
        refine v_callSN (As := [.int (Int32.ofInt (px (pf 3) c (k + 1))), .int (Int32.ofInt (py (pf 3) c (k + 1)))]) (rest := []) C (c_X9_isOnLand (xl X) (xg X) (Int32.ofInt (px (pf 3) c (k + 1))) (Int32.ofInt (py (pf 3) c (k + 1))) (mset M ra (aI (xg X) 96 f))) pm_X9_isOnLand wT_X9_isOnLand wMN_X5_74 ⟨by decide, by decide⟩ ⟨by decide, by decide⟩ (nle rfl) dX5_castShadow_55 rfl (dt1 ?_)
        show V X (rmD 2 0 0) (mset M ra (aI (xg X) 96 f)) 0 0 [(0, .ref pa), (1, .int (nI c)), (2, .int (nI r)), (3, .int (nI (2 * pf 3))), (4, .int (Int32.ofInt (px (pf 3) c (k + 1)))), (5, .int (Int32.ofInt (py (pf 3) c (k + 1)))), (6, .int (nI (k + 1)))] 58 [.int (bI (qin (Int32.ofInt (px (pf 3) c (k + 1))) 0 11 && qin (Int32.ofInt (py (pf 3) c (k + 1))) 0 7))]
        refine v_ifb_eq (tgt := 100) C dX5_castShadow_58 (by decide) (fun h58 => ?_) (fun h58 => ?_)
        · exact v_vret C E dX5_castShadow_100 (nle rfl) (nle rfl) ⟨rfl, f, rfl, fun c' hc' => by rw [h2 c' hc']; first | rw [hitK_far hc h1 (mv_off hc (by omega) h58)] | rw [show k = r by have := nI_ltN (by omega) (by omega) h48; omega]⟩
        · obtain ⟨c1, hc1, hm, e1⟩ := mv_on hc (by omega) h58
          refine v_aload_n C dX5_castShadow_61 rfl ?_
          refine v_get C kX5 hP2.2.2.1 7 (by decide) wF_X5_22 rfl dX5_castShadow_62 ?_
          refine v_iload C dX5_castShadow_65 rfl ?_
          refine v_iload C dX5_castShadow_67 rfl ?_
          refine v_callSN (As := [.int (Int32.ofInt (px (pf 3) c (k + 1))), .int (Int32.ofInt (py (pf 3) c (k + 1)))]) (rest := [.ref ra]) C (c_X9_cellOf (xl X) (xg X) (Int32.ofInt (px (pf 3) c (k + 1))) (Int32.ofInt (py (pf 3) c (k + 1))) (mset M ra (aI (xg X) 96 f))) pm_X9_cellOf wT_X9_cellOf wMN_X5_78 ⟨by decide, by decide⟩ ⟨by decide, by decide⟩ (nle rfl) dX5_castShadow_69 rfl (dt1 ?_)
          show V X (rmD 2 0 0) (mset M ra (aI (xg X) 96 f)) 0 0 [(0, .ref pa), (1, .int (nI c)), (2, .int (nI r)), (3, .int (nI (2 * pf 3))), (4, .int (Int32.ofInt (px (pf 3) c (k + 1)))), (5, .int (Int32.ofInt (py (pf 3) c (k + 1)))), (6, .int (nI (k + 1)))] 72 [.int (12 * (Int32.ofInt (py (pf 3) c (k + 1))) + (Int32.ofInt (px (pf 3) c (k + 1)))), .ref ra]
          rw [e1]
          show V X (rmD 2 0 0) (mset M ra (aI (xg X) 96 f)) 0 0 [(0, .ref pa), (1, .int (nI c)), (2, .int (nI r)), (3, .int (nI (2 * pf 3))), (4, .int (Int32.ofInt (px (pf 3) c (k + 1)))), (5, .int (Int32.ofInt (py (pf 3) c (k + 1)))), (6, .int (nI (k + 1)))] 72 [.int (nI c1), .ref ra]
          refine v_iconst C dX5_castShadow_72 (v := 1) rfl ?_
          refine v_iast C (mset_same _ _ _) (vp_in_nI hc1 (by decide)) dX5_castShadow_73 ?_
          show V X (rmD 2 0 0) (mset (mset M ra (aI (xg X) 96 f)) ra (aI (xg X) 96 (upd f (nI c1 : Int32).toNatClampNeg 1))) 0 0 [(0, .ref pa), (1, .int (nI c)), (2, .int (nI r)), (3, .int (nI (2 * pf 3))), (4, .int (Int32.ofInt (px (pf 3) c (k + 1)))), (5, .int (Int32.ofInt (py (pf 3) c (k + 1)))), (6, .int (nI (k + 1)))] 74 []
          refine v_iload C dX5_castShadow_74 rfl ?_
          refine v_getE C wFN_X5_68 dX5_castShadow_76 ?_
          refine v_iload_n C dX5_castShadow_79 rfl ?_
          refine v_ialdE C (vp_in_nI (by omega) (by decide)) dX5_castShadow_80 ?_
          refine v_iadd C dX5_castShadow_81 ?_
          rw [nI_clamp (n := 2 * pf 3) (by omega), px_step (by omega)]
          show V X (rmD 2 0 0) (mset (mset M ra (aI (xg X) 96 f)) ra (aI (xg X) 96 (upd f (nI c1 : Int32).toNatClampNeg 1))) 0 0 [(0, .ref pa), (1, .int (nI c)), (2, .int (nI r)), (3, .int (nI (2 * pf 3))), (4, .int (Int32.ofInt (px (pf 3) c (k + 1)))), (5, .int (Int32.ofInt (py (pf 3) c (k + 1)))), (6, .int (nI (k + 1)))] 82 [.int (Int32.ofInt (px (pf 3) c (k + 1 + 1)))]
          refine v_istore (lv' := [(4, .int (Int32.ofInt (px (pf 3) c (k + 1 + 1)))), (0, .ref pa), (1, .int (nI c)), (2, .int (nI r)), (3, .int (nI (2 * pf 3))), (5, .int (Int32.ofInt (py (pf 3) c (k + 1)))), (6, .int (nI (k + 1)))]) C dX5_castShadow_82 hN (by decide) rfl ?_
          refine v_iload C dX5_castShadow_84 rfl ?_
          refine v_getS C wFN_X5_71 dX5_castShadow_86 ?_
          refine v_iload_n C dX5_castShadow_89 rfl ?_
          refine v_ialdS C (vp_in_nI (by omega) (by decide)) dX5_castShadow_90 ?_
          refine v_iadd C dX5_castShadow_91 ?_
          rw [nI_clamp (n := 2 * pf 3) (by omega), py_step (by omega)]
          show V X (rmD 2 0 0) (mset (mset M ra (aI (xg X) 96 f)) ra (aI (xg X) 96 (upd f (nI c1 : Int32).toNatClampNeg 1))) 0 0 [(4, .int (Int32.ofInt (px (pf 3) c (k + 1 + 1)))), (0, .ref pa), (1, .int (nI c)), (2, .int (nI r)), (3, .int (nI (2 * pf 3))), (5, .int (Int32.ofInt (py (pf 3) c (k + 1)))), (6, .int (nI (k + 1)))] 92 [.int (Int32.ofInt (py (pf 3) c (k + 1 + 1)))]
          refine v_istore (lv' := [(5, .int (Int32.ofInt (py (pf 3) c (k + 1 + 1)))), (4, .int (Int32.ofInt (px (pf 3) c (k + 1 + 1)))), (0, .ref pa), (1, .int (nI c)), (2, .int (nI r)), (3, .int (nI (2 * pf 3))), (6, .int (nI (k + 1)))]) C dX5_castShadow_92 hN (by decide) rfl ?_
          refine v_iinc (lv' := [(6, .int (nI ((k + 1) + 1))), (5, .int (Int32.ofInt (py (pf 3) c (k + 1 + 1)))), (4, .int (Int32.ofInt (px (pf 3) c (k + 1 + 1)))), (0, .ref pa), (1, .int (nI c)), (2, .int (nI r)), (3, .int (nI (2 * pf 3)))]) C dX5_castShadow_94 6 rfl (nI_1 _) hN (by decide) rfl ?_
          refine v_goto (tgt := 45) C dX5_castShadow_97 (by decide) ?_
          refine v_sub (lv' := [(0, .ref pa), (1, .int (nI c)), (2, .int (nI r)), (3, .int (nI (2 * pf 3))), (4, .int (Int32.ofInt (px (pf 3) c (k + 1 + 1)))), (5, .int (Int32.ofInt (py (pf 3) c (k + 1 + 1)))), (6, .int (nI ((k + 1) + 1)))]) [3, 4, 5, 6, 2, 1, 0] rfl ?_
          rw [mset_mset, nI_clamp (by omega)]
          refine ih45 (k + 1) _ (by omega) (fun c' hc' => ?_) (by omega)
          rw [hitK_step hm]
          by_cases q : c1 = c'
          · subst q; simp [upd]
          · rw [show upd f c1 1 c' = f c' by simp [upd, Ne.symm q], h2 c' hc']; simp [q]
  have q := lp45 (_ + 1) 0 lk (Nat.zero_le _) (fun c' hc' => rfl) (Nat.lt_succ_self _)
  rw [mset_id hP.2.2.2.2.2] at q
  exact q

set_option maxHeartbeats 4000000 in
set_option maxRecDepth 100000 in
theorem c_X5_develop (l : Launch) (g : Gm) (M : Mem) (pa ca ka ra : Nat) (pf : Nat → Nat) (pl ph : Int64) (cn lk : Nat → Int32) (hP : PicW g M pa ca ka ra pf pl ph cn lk) (la ta : Nat) (th mk dn : Nat → Nat) (nT : Nat) (m : Nat → Nat → Nat) (lo hi : Nat → Int64) (hL : LandW g M la ta th mk dn nT m lo hi) : Ct l g yX5_develop cX5_develop 4 none 4 0 0 [.ref pa, .ref la] M (fun v N => v = none ∧ ∃ f1 f2, N = mset (mset M ka (aI g 96 f1)) ra (aI g 96 f2) ∧ (∀ c, c < 96 → f1 c = oI (bst m (c % 12) (c / 12) (pf 2) nT)) ∧ ∀ c, c < 96 → f2 c = nI (lookN m nT pf c)) := by
  refine Ct.of (by decide) (Nat.le_of_ble_eq_true rfl) ?_
  intro X hXl hXg hN C E
  subst hXl; subst hXg
  show V X (rmD 4 0 0) M 0 0 [(0, .ref pa), (1, .ref la)] 0 []
  have hok := hP.1
  unfold okP at hok
  have h12 := hL.1
  refine v_aload_n C dX5_develop_0 rfl ?_
  refine v_aload_n C dX5_develop_1 rfl ?_
  refine v_get C kX5 hP.2.2.1 6 (by decide) wF_X5_18 rfl dX5_develop_2 ?_
  refine v_aload_n C dX5_develop_5 rfl ?_
  refine v_get C kX5 hP.2.2.1 2 (by decide) wF_X5_32 rfl dX5_develop_6 ?_
  refine v_callV (As := [.ref ka, .int (nI (pf 2))]) (rest := []) (b := la) C (c_X3_fillCounting (xl X) (xg X) M la ta th mk dn nT m lo hi hL ka cn hP.2.2.2.2.1 (pf 2) (by omega)) pm_X3_fillCounting wI_X3_fillCounting wS_X3_fillCounting wM_X5_41 kX3 hL.2.1 ⟨by decide, by decide⟩ ⟨by decide, by decide⟩ (nle rfl) dX5_develop_9 rfl ?_
  rintro _ _ ⟨rfl, f1, rfl, hf1⟩
  have hP1 := hP.setK f1
  have hL1 := hL.setI hP.2.2.2.2.1 (by decide) (aI (xg X) 96 f1)
  show V X (rmD 4 0 0) (mset M ka (aI (xg X) 96 f1)) 0 0 [(0, .ref pa), (1, .ref la)] 12 []
  refine v_iconst C dX5_develop_12 (v := 0) rfl ?_
  refine v_istore_n (lv' := [(2, .int 0), (0, .ref pa), (1, .ref la)]) C dX5_develop_13 hN (by decide) rfl ?_
  refine v_sub (lv' := [(0, .ref pa), (1, .ref la), (2, .int 0)]) [1, 2, 0] rfl ?_
  have lp14 : ∀ (mm : Nat) (c : Nat) (f : Nat → Int32) (h1 : c ≤ 96) (h2 : ∀ j, j < c → f j = 0), 96 - c < mm → V X (rmD 4 0 0) (mset (mset M ka (aI (xg X) 96 f1)) ra (aI (xg X) 96 f)) 0 0 [(0, .ref pa), (1, .ref la), (2, .int (nI c))] 14 [] := by
    intro mm
    induction mm with
    | zero => intro c f h1 h2 hmu; exact absurd hmu (Nat.not_lt_zero _)
    | succ mm ih14 =>
      intro c f h1 h2 hmu
      have hP2 := hP1.setR f
      have hL2 := hL1.setI hP1.2.2.2.2.2 (by decide) (aI (xg X) 96 f)
      refine v_iload_n C dX5_develop_14 rfl ?_
      refine v_bipush C dX5_develop_15 (v := 96) rfl ?_
      refine v_icmp_ge (tgt := 33) C dX5_develop_17 (by decide) (fun h17 => ?_) (fun h17 => ?_)
      · have g17 : c = 96 := Nat.le_antisymm h1 (nI_leN (a := 96) (by decide) (by omega) h17)
        refine v_iconst C dX5_develop_33 (v := 0) rfl ?_
        refine v_istore_n (lv' := [(2, .int 0), (0, .ref pa), (1, .ref la)]) C dX5_develop_34 hN (by decide) rfl ?_
        refine v_sub (lv' := [(0, .ref pa), (1, .ref la), (2, .int 0)]) [1, 2, 0] rfl ?_
        have lp35 : ∀ (mm : Nat) (c : Nat) (f : Nat → Int32) (h3 : c ≤ 96) (h4 : ∀ j, j < 96 → f j = if anyB (fun c => cast m nT pf c j) c then 1 else 0), 96 - c < mm → V X (rmD 4 0 0) (mset (mset M ka (aI (xg X) 96 f1)) ra (aI (xg X) 96 f)) 0 0 [(0, .ref pa), (1, .ref la), (2, .int (nI c))] 35 [] := by
          intro mm
          induction mm with
          | zero => intro c f h3 h4 hmu; exact absurd hmu (Nat.not_lt_zero _)
          | succ mm ih35 =>
            intro c f h3 h4 hmu
            have hP2 := hP1.setR f
            have hL2 := hL1.setI hP1.2.2.2.2.2 (by decide) (aI (xg X) 96 f)
            refine v_iload_n C dX5_develop_35 rfl ?_
            refine v_bipush C dX5_develop_36 (v := 96) rfl ?_
            refine v_icmp_ge (tgt := 76) C dX5_develop_38 (by decide) (fun h38 => ?_) (fun h38 => ?_)
            · have g38 : c = 96 := Nat.le_antisymm h3 (nI_leN (a := 96) (by decide) (by omega) h38)
              refine v_iconst C dX5_develop_76 (v := 0) rfl ?_
              refine v_istore_n (lv' := [(2, .int 0), (0, .ref pa), (1, .ref la)]) C dX5_develop_77 hN (by decide) rfl ?_
              refine v_sub (lv' := [(0, .ref pa), (1, .ref la), (2, .int 0)]) [1, 2, 0] rfl ?_
              have lp78 : ∀ (mm : Nat) (c : Nat) (f : Nat → Int32) (h5 : c ≤ 96) (h6 : ∀ j, j < 96 → f j = if j < c then nI (lookN m nT pf j) else (if shade m nT pf j then 1 else 0 : Int32)), 96 - c < mm → V X (rmD 4 0 0) (mset (mset M ka (aI (xg X) 96 f1)) ra (aI (xg X) 96 f)) 0 0 [(0, .ref pa), (1, .ref la), (2, .int (nI c))] 78 [] := by
                intro mm
                induction mm with
                | zero => intro c f h5 h6 hmu; exact absurd hmu (Nat.not_lt_zero _)
                | succ mm ih78 =>
                  intro c f h5 h6 hmu
                  have hP2 := hP1.setR f
                  have hL2 := hL1.setI hP1.2.2.2.2.2 (by decide) (aI (xg X) 96 f)
                  refine v_iload_n C dX5_develop_78 rfl ?_
                  refine v_bipush C dX5_develop_79 (v := 96) rfl ?_
                  refine v_icmp_ge (tgt := 128) C dX5_develop_81 (by decide) (fun h81 => ?_) (fun h81 => ?_)
                  · have g81 : c = 96 := Nat.le_antisymm h5 (nI_leN (a := 96) (by decide) (by omega) h81)
                    exact v_vret C E dX5_develop_128 (nle rfl) (nle rfl) ⟨rfl, f1, f, rfl, hf1, fun j hj => by rw [h6 j hj, if_pos (by omega)]⟩
                  · have hc := nI_nleN (a := 96) (by decide) (by omega) h81
                    refine v_aload_n C dX5_develop_84 rfl ?_
                    refine v_aload_n C dX5_develop_85 rfl ?_
                    refine v_get C kX5 hP2.2.2.1 6 (by decide) wF_X5_18 rfl dX5_develop_86 ?_
                    refine v_iload_n C dX5_develop_89 rfl ?_
                    refine v_iald C hP2.2.2.2.2.1 (vp_in_nI hc (by decide)) dX5_develop_90 ?_
                    rw [nI_clamp (by omega), hf1 _ hc]
                    rcases oI_find (o := bst m (c % 12) (c / 12) (pf 2) nT) (n := nT) (fun b hb => bst_lt hb) with ⟨hb, e0⟩ | ⟨b, hb, hbi, e0⟩
                    · rw [e0]
                      show V X (rmD 4 0 0) (mset (mset M ka (aI (xg X) 96 f1)) ra (aI (xg X) 96 f)) 0 0 [(0, .ref pa), (1, .ref la), (2, .int (nI c))] 91 [.int ((-6)), .ref la]
                      refine v_callV (As := [.int ((-6))]) (rest := []) (b := la) C (c_X3_findN (xl X) (xg X) (mset (mset M ka (aI (xg X) 96 f1)) ra (aI (xg X) 96 f)) la ta th mk dn nT m lo hi ((-6)) (fun i hi => m6_ne (by omega)) hL2) pm_X3_find wI_X3_find wS_X3_find wM_X5_47 kX3 hL2.2.1 ⟨by decide, by decide⟩ ⟨by decide, by decide⟩ (nle rfl) dX5_develop_91 rfl (dt1 ?_)
                      show V X (rmD 4 0 0) (mset (mset M ka (aI (xg X) 96 f1)) ra (aI (xg X) 96 f)) 0 0 [(0, .ref pa), (1, .ref la), (2, .int (nI c))] 94 [.null]
                      refine v_astore_nN (lv' := [(3, .null), (0, .ref pa), (1, .ref la), (2, .int (nI c))]) C dX5_develop_94 hN (by decide) rfl ?_
                      refine v_aload_nN C dX5_develop_95 rfl ?_
                      refine v_ifnullN (tgt := 122) C dX5_develop_96 (by decide) ?_
                      refine v_iinc (lv' := [(2, .int (nI (c + 1))), (3, .null), (0, .ref pa), (1, .ref la)]) C dX5_develop_122 3 rfl (nI_1 _) hN (by decide) rfl ?_
                      refine v_goto (tgt := 78) C dX5_develop_125 (by decide) ?_
                      refine v_sub (lv' := [(0, .ref pa), (1, .ref la), (2, .int (nI (c + 1)))]) [2, 3, 0] rfl ?_
                      refine ih78 (c + 1) f (by omega) (fun j hj => ?_) (by omega)
                      rw [h6 j hj]
                      by_cases q : j < c
                      · rw [if_pos q, if_pos (show j < c + 1 by omega)]
                      · rw [if_neg q]
                        by_cases q2 : j = c
                        · subst q2
                          rw [if_pos (Nat.lt_succ_self _), lookN, hb]
                          first | (cases shade m nT pf j <;> rfl) | (simp only [if_neg g105]; cases shade m nT pf j <;> rfl)
                        · rw [if_neg (show ¬ j < c + 1 by omega)]
                    · rw [e0]
                      show V X (rmD 4 0 0) (mset (mset M ka (aI (xg X) 96 f1)) ra (aI (xg X) 96 f)) 0 0 [(0, .ref pa), (1, .ref la), (2, .int (nI c))] 91 [.int (nI b), .ref la]
                      refine v_callV (As := [.int (nI b)]) (rest := []) (b := la) C (c_X3_find (xl X) (xg X) (mset (mset M ka (aI (xg X) 96 f1)) ra (aI (xg X) 96 f)) la ta th mk dn nT m lo hi b hbi hL2) pm_X3_find wI_X3_find wS_X3_find wM_X5_47 kX3 hL2.2.1 ⟨by decide, by decide⟩ ⟨by decide, by decide⟩ (nle rfl) dX5_develop_91 rfl (dt1 ?_)
                      show V X (rmD 4 0 0) (mset (mset M ka (aI (xg X) 96 f1)) ra (aI (xg X) 96 f)) 0 0 [(0, .ref pa), (1, .ref la), (2, .int (nI c))] 94 [.ref (th b)]
                      refine v_astore_n (lv' := [(3, .ref (th b)), (0, .ref pa), (1, .ref la), (2, .int (nI c))]) C dX5_develop_94 hN (by decide) rfl ?_
                      refine v_aload_n C dX5_develop_95 rfl ?_
                      refine v_ifnull C dX5_develop_96 ?_
                      have hb9 : m b 9 ≤ 1 ∧ m b 5 ≤ 5 := by have q := (hL.2.2.2 b hbi).2.2.2; unfold okM at q; omega
                      refine v_aload_n C dX5_develop_99 rfl ?_
                      refine v_bipush C dX5_develop_100 (v := 9) rfl ?_
                      refine v_callV (As := [.int 9]) (rest := []) (b := th b) C (c_X6_mark (xl X) (xg X) (mset (mset M ka (aI (xg X) 96 f1)) ra (aI (xg X) 96 f)) (th b) (mk b) (dn b) (nI b) (fun w => nI (m b w)) 9 (by decide) ((hL2.2.2.2 b hbi).1) ((hL2.2.2.2 b hbi).2.1)) pm_X6_mark wI_X6_mark wS_X6_mark wM_X5_51 kX6 ((hL2.2.2.2 b hbi).1) ⟨by decide, by decide⟩ ⟨by decide, by decide⟩ (nle rfl) dX5_develop_102 rfl (dt1 ?_)
                      show V X (rmD 4 0 0) (mset (mset M ka (aI (xg X) 96 f1)) ra (aI (xg X) 96 f)) 0 0 [(3, .ref (th b)), (0, .ref pa), (1, .ref la), (2, .int (nI c))] 105 [.int (nI (m b 9))]
                      refine v_if_ne (tgt := 122) C dX5_develop_105 (by decide) (fun h105 => ?_) (fun h105 => ?_)
                      · have g105 : ¬ m b 9 = 0 := nI_neN (b := 0) (by omega) (by decide) h105
                        refine v_iinc (lv' := [(2, .int (nI (c + 1))), (3, .ref (th b)), (0, .ref pa), (1, .ref la)]) C dX5_develop_122 3 rfl (nI_1 _) hN (by decide) rfl ?_
                        refine v_goto (tgt := 78) C dX5_develop_125 (by decide) ?_
                        refine v_sub (lv' := [(0, .ref pa), (1, .ref la), (2, .int (nI (c + 1)))]) [2, 3, 0] rfl ?_
                        refine ih78 (c + 1) f (by omega) (fun j hj => ?_) (by omega)
                        rw [h6 j hj]
                        by_cases q : j < c
                        · rw [if_pos q, if_pos (show j < c + 1 by omega)]
                        · rw [if_neg q]
                          by_cases q2 : j = c
                          · subst q2
                            rw [if_pos (Nat.lt_succ_self _), lookN, hb]
                            first | (cases shade m nT pf j <;> rfl) | (simp only [if_neg g105]; cases shade m nT pf j <;> rfl)
                          · rw [if_neg (show ¬ j < c + 1 by omega)]
                      · have g105 : m b 9 = 0 := nI_eqN (b := 0) (by omega) (by decide) h105
                        refine v_aload_n C dX5_develop_108 rfl ?_
                        refine v_get C kX5 hP2.2.2.1 7 (by decide) wF_X5_22 rfl dX5_develop_109 ?_
                        refine v_iload_n C dX5_develop_112 rfl ?_
                        refine v_bipush C dX5_develop_113 (v := 10) rfl ?_
                        refine v_aload_n C dX5_develop_115 rfl ?_
                        refine v_iconst C dX5_develop_116 (v := 5) rfl ?_
                        refine v_callV (As := [.int 5]) (rest := [.int 10, .int (nI c), .ref ra]) (b := th b) C (c_X6_mark (xl X) (xg X) (mset (mset M ka (aI (xg X) 96 f1)) ra (aI (xg X) 96 f)) (th b) (mk b) (dn b) (nI b) (fun w => nI (m b w)) 5 (by decide) ((hL2.2.2.2 b hbi).1) ((hL2.2.2.2 b hbi).2.1)) pm_X6_mark wI_X6_mark wS_X6_mark wM_X5_51 kX6 ((hL2.2.2.2 b hbi).1) ⟨by decide, by decide⟩ ⟨by decide, by decide⟩ (nle rfl) dX5_develop_117 rfl (dt1 ?_)
                        show V X (rmD 4 0 0) (mset (mset M ka (aI (xg X) 96 f1)) ra (aI (xg X) 96 f)) 0 0 [(3, .ref (th b)), (0, .ref pa), (1, .ref la), (2, .int (nI c))] 120 [.int (nI (m b 5)), .int 10, .int (nI c), .ref ra]
                        refine v_iadd C dX5_develop_120 ?_
                        refine v_iast C (mset_same _ _ _) (vp_in_nI hc (by decide)) dX5_develop_121 ?_
                        show V X (rmD 4 0 0) (mset (mset (mset M ka (aI (xg X) 96 f1)) ra (aI (xg X) 96 f)) ra (aI (xg X) 96 (upd f (nI c : Int32).toNatClampNeg (10 + (nI (m b 5)))))) 0 0 [(3, .ref (th b)), (0, .ref pa), (1, .ref la), (2, .int (nI c))] 122 []
                        refine v_iinc (lv' := [(2, .int (nI (c + 1))), (3, .ref (th b)), (0, .ref pa), (1, .ref la)]) C dX5_develop_122 3 rfl (nI_1 _) hN (by decide) rfl ?_
                        refine v_goto (tgt := 78) C dX5_develop_125 (by decide) ?_
                        refine v_sub (lv' := [(0, .ref pa), (1, .ref la), (2, .int (nI (c + 1)))]) [2, 3, 0] rfl ?_
                        rw [mset_mset, nI_clamp (by omega)]
                        refine ih78 (c + 1) _ (by omega) (fun j hj => ?_) (by omega)
                        by_cases q2 : j = c
                        · subst q2
                          rw [if_pos (Nat.lt_succ_self _), lookN, hb]
                          simp [upd, g105, nI_add, show (10 : Int32) = nI 10 from rfl]
                        · rw [show ∀ z, upd f c z j = f j from fun z => by simp [upd, q2], h6 j hj]
                          by_cases q : j < c
                          · rw [if_pos q, if_pos (show j < c + 1 by omega)]
                          · rw [if_neg q, if_neg (show ¬ j < c + 1 by omega)]
              exact lp78 (_ + 1) 0 f (Nat.zero_le _) (fun j hj => by rw [h4 j hj, g38, cast_all hP.1 hj]; rfl) (Nat.lt_succ_self _)
            · have hc := nI_nleN (a := 96) (by decide) (by omega) h38
              refine v_aload_n C dX5_develop_41 rfl ?_
              refine v_aload_n C dX5_develop_42 rfl ?_
              refine v_get C kX5 hP2.2.2.1 6 (by decide) wF_X5_18 rfl dX5_develop_43 ?_
              refine v_iload_n C dX5_develop_46 rfl ?_
              refine v_iald C hP2.2.2.2.2.1 (vp_in_nI hc (by decide)) dX5_develop_47 ?_
              rw [nI_clamp (by omega), hf1 _ hc]
              rcases oI_find (o := bst m (c % 12) (c / 12) (pf 2) nT) (n := nT) (fun b hb => bst_lt hb) with ⟨hb, e0⟩ | ⟨b, hb, hbi, e0⟩
              · rw [e0]
                show V X (rmD 4 0 0) (mset (mset M ka (aI (xg X) 96 f1)) ra (aI (xg X) 96 f)) 0 0 [(0, .ref pa), (1, .ref la), (2, .int (nI c))] 48 [.int ((-6)), .ref la]
                refine v_callV (As := [.int ((-6))]) (rest := []) (b := la) C (c_X3_findN (xl X) (xg X) (mset (mset M ka (aI (xg X) 96 f1)) ra (aI (xg X) 96 f)) la ta th mk dn nT m lo hi ((-6)) (fun i hi => m6_ne (by omega)) hL2) pm_X3_find wI_X3_find wS_X3_find wM_X5_47 kX3 hL2.2.1 ⟨by decide, by decide⟩ ⟨by decide, by decide⟩ (nle rfl) dX5_develop_48 rfl (dt1 ?_)
                show V X (rmD 4 0 0) (mset (mset M ka (aI (xg X) 96 f1)) ra (aI (xg X) 96 f)) 0 0 [(0, .ref pa), (1, .ref la), (2, .int (nI c))] 51 [.null]
                refine v_astore_nN (lv' := [(3, .null), (0, .ref pa), (1, .ref la), (2, .int (nI c))]) C dX5_develop_51 hN (by decide) rfl ?_
                refine v_aload_nN C dX5_develop_52 rfl ?_
                refine v_ifnullN (tgt := 70) C dX5_develop_53 (by decide) ?_
                refine v_iinc (lv' := [(2, .int (nI (c + 1))), (3, .null), (0, .ref pa), (1, .ref la)]) C dX5_develop_70 3 rfl (nI_1 _) hN (by decide) rfl ?_
                refine v_goto (tgt := 35) C dX5_develop_73 (by decide) ?_
                refine v_sub (lv' := [(0, .ref pa), (1, .ref la), (2, .int (nI (c + 1)))]) [2, 3, 0] rfl ?_
                exact ih35 (c + 1) f (by omega) (fun j hj => by rw [h4 j hj, show anyB (fun c => cast m nT pf c j) (c + 1) = anyB (fun c => cast m nT pf c j) c by simp [anyB, cast, hb]]) (by omega)
              · rw [e0]
                show V X (rmD 4 0 0) (mset (mset M ka (aI (xg X) 96 f1)) ra (aI (xg X) 96 f)) 0 0 [(0, .ref pa), (1, .ref la), (2, .int (nI c))] 48 [.int (nI b), .ref la]
                refine v_callV (As := [.int (nI b)]) (rest := []) (b := la) C (c_X3_find (xl X) (xg X) (mset (mset M ka (aI (xg X) 96 f1)) ra (aI (xg X) 96 f)) la ta th mk dn nT m lo hi b hbi hL2) pm_X3_find wI_X3_find wS_X3_find wM_X5_47 kX3 hL2.2.1 ⟨by decide, by decide⟩ ⟨by decide, by decide⟩ (nle rfl) dX5_develop_48 rfl (dt1 ?_)
                show V X (rmD 4 0 0) (mset (mset M ka (aI (xg X) 96 f1)) ra (aI (xg X) 96 f)) 0 0 [(0, .ref pa), (1, .ref la), (2, .int (nI c))] 51 [.ref (th b)]
                refine v_astore_n (lv' := [(3, .ref (th b)), (0, .ref pa), (1, .ref la), (2, .int (nI c))]) C dX5_develop_51 hN (by decide) rfl ?_
                refine v_aload_n C dX5_develop_52 rfl ?_
                refine v_ifnull C dX5_develop_53 ?_
                have hb20 : m b 4 ≤ 20 := by have q := (hL.2.2.2 b hbi).2.2.2; unfold okM at q; omega
                refine v_aload_n C dX5_develop_56 rfl ?_
                refine v_iload_n C dX5_develop_57 rfl ?_
                refine v_aload_n C dX5_develop_58 rfl ?_
                refine v_aload_n C dX5_develop_59 rfl ?_
                refine v_iconst C dX5_develop_60 (v := 4) rfl ?_
                refine v_callV (As := [.int 4]) (rest := [.ref pa, .int (nI c), .ref pa]) (b := th b) C (c_X6_mark (xl X) (xg X) (mset (mset M ka (aI (xg X) 96 f1)) ra (aI (xg X) 96 f)) (th b) (mk b) (dn b) (nI b) (fun w => nI (m b w)) 4 (by decide) ((hL2.2.2.2 b hbi).1) ((hL2.2.2.2 b hbi).2.1)) pm_X6_mark wI_X6_mark wS_X6_mark wM_X5_51 kX6 ((hL2.2.2.2 b hbi).1) ⟨by decide, by decide⟩ ⟨by decide, by decide⟩ (nle rfl) dX5_develop_61 rfl (dt1 ?_)
                show V X (rmD 4 0 0) (mset (mset M ka (aI (xg X) 96 f1)) ra (aI (xg X) 96 f)) 0 0 [(3, .ref (th b)), (0, .ref pa), (1, .ref la), (2, .int (nI c))] 64 [.int (nI (m b 4)), .ref pa, .int (nI c), .ref pa]
                refine v_callV (As := [.int (nI (m b 4))]) (rest := [.int (nI c), .ref pa]) (b := pa) C (c_X5_shadowOf (xl X) (xg X) (mset (mset M ka (aI (xg X) 96 f1)) ra (aI (xg X) 96 f)) pa ca ka ra pf pl ph f1 f ((m b 4)) hb20 hP2) pm_X5_shadowOf wI_X5_shadowOf wS_X5_shadowOf wM_X5_57 kX5 hP2.2.2.1 ⟨by decide, by decide⟩ ⟨by decide, by decide⟩ (nle rfl) dX5_develop_64 rfl (dt1 ?_)
                show V X (rmD 4 0 0) (mset (mset M ka (aI (xg X) 96 f1)) ra (aI (xg X) 96 f)) 0 0 [(3, .ref (th b)), (0, .ref pa), (1, .ref la), (2, .int (nI c))] 67 [.int (nI (((m b 4)) * pf 4 / 10)), .int (nI c), .ref pa]
                refine v_callV (As := [.int (nI c), .int (nI (((m b 4)) * pf 4 / 10))]) (rest := []) (b := pa) C (c_X5_castShadow (xl X) (xg X) (mset (mset M ka (aI (xg X) 96 f1)) ra (aI (xg X) 96 f)) pa ca ka ra pf pl ph f1 f hP2 c (m b 4 * pf 4 / 10) hc (reach_N hP.1 hb20).2) pm_X5_castShadow wI_X5_castShadow wS_X5_castShadow wM_X5_60 kX5 hP2.2.2.1 ⟨by decide, by decide⟩ ⟨by decide, by decide⟩ (nle rfl) dX5_develop_67 rfl ?_
                rintro _ _ ⟨rfl, f', rfl, hf'⟩
                show V X (rmD 4 0 0) (mset (mset (mset M ka (aI (xg X) 96 f1)) ra (aI (xg X) 96 f)) ra (aI (xg X) 96 f')) 0 0 [(3, .ref (th b)), (0, .ref pa), (1, .ref la), (2, .int (nI c))] 70 []
                refine v_iinc (lv' := [(2, .int (nI (c + 1))), (3, .ref (th b)), (0, .ref pa), (1, .ref la)]) C dX5_develop_70 3 rfl (nI_1 _) hN (by decide) rfl ?_
                refine v_goto (tgt := 35) C dX5_develop_73 (by decide) ?_
                refine v_sub (lv' := [(0, .ref pa), (1, .ref la), (2, .int (nI (c + 1)))]) [2, 3, 0] rfl ?_
                rw [mset_mset]
                exact ih35 (c + 1) f' (by omega) (fun j hj => by rw [hf' j hj, h4 j hj, show anyB (fun c => cast m nT pf c j) (c + 1) = (anyB (fun c => cast m nT pf c j) c || hitK (pf 3) c (m b 4 * pf 4 / 10) j) by simp [anyB, cast, hb]]; cases anyB (fun c => cast m nT pf c j) c <;> cases hitK (pf 3) c (m b 4 * pf 4 / 10) j <;> rfl) (by omega)
        exact lp35 (_ + 1) 0 f (Nat.zero_le _) (fun j hj => by rw [h2 j (by omega)]; rfl) (Nat.lt_succ_self _)
      · have hc := nI_nleN (a := 96) (by decide) (by omega) h17
        refine v_aload_n C dX5_develop_20 rfl ?_
        refine v_get C kX5 hP2.2.2.1 7 (by decide) wF_X5_22 rfl dX5_develop_21 ?_
        refine v_iload_n C dX5_develop_24 rfl ?_
        refine v_iconst C dX5_develop_25 (v := 0) rfl ?_
        refine v_iast C (mset_same _ _ _) (vp_in_nI hc (by decide)) dX5_develop_26 ?_
        show V X (rmD 4 0 0) (mset (mset (mset M ka (aI (xg X) 96 f1)) ra (aI (xg X) 96 f)) ra (aI (xg X) 96 (upd f (nI c : Int32).toNatClampNeg 0))) 0 0 [(0, .ref pa), (1, .ref la), (2, .int (nI c))] 27 []
        refine v_iinc (lv' := [(2, .int (nI (c + 1))), (0, .ref pa), (1, .ref la)]) C dX5_develop_27 2 rfl (nI_1 _) hN (by decide) rfl ?_
        refine v_goto (tgt := 14) C dX5_develop_30 (by decide) ?_
        refine v_sub (lv' := [(0, .ref pa), (1, .ref la), (2, .int (nI (c + 1)))]) [1, 2, 0] rfl ?_
        rw [mset_mset, nI_clamp (by omega)]
        exact ih14 (c + 1) _ (by omega) (fun j hj => by by_cases q : j = c <;> simp [upd, q]; exact h2 j (by omega)) (by omega)
  have q := lp14 (_ + 1) 0 lk (Nat.zero_le _) (fun j hj => absurd hj (Nat.not_lt_zero _)) (Nat.lt_succ_self _)
  rw [mset_id hP1.2.2.2.2.2] at q
  exact q


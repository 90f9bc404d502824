/-! Facts. -/
set_option maxHeartbeats 4000000 in
set_option maxRecDepth 100000 in
theorem c_X1_known (l : Launch) (g : Gm) (M : Mem) (fa va : Nat) (bc bs : Bool) (vf : Nat → Int32) (w : Nat) (hw : w < 9) (hF : M fa = some (.inr (1, [.ref va, .int (bI bc), .int (bI bs)]))) (hV : M va = some (aI g 9 vf)) : Ct l g yX1_known cX1_known 2 (some .int) 0 0 0 [.ref fa, .int (nI w)] M (fun v N => v = some (.int (vf w)) ∧ N = M) := by
  refine Ct.of (by decide) (Nat.le_of_ble_eq_true rfl) ?_
  intro X hXl hXg hN C E
  subst hXl; subst hXg
  show V X (rmD 0 0 0) M 0 0 [(0, .ref fa), (1, .int (nI w))] 0 []
  refine v_iload_n C dX1_known_0 rfl ?_
  refine v_if_lt (tgt := 19) C dX1_known_1 (by decide) (fun hbad => absurd hbad (nI_pos (by omega))) (fun h1 => ?_)
  refine v_iload_n C dX1_known_4 rfl ?_
  refine v_bipush C dX1_known_5 (v := 9) rfl ?_
  refine v_icmp_ge (tgt := 19) C dX1_known_7 (by decide) (fun hbad => absurd hbad (nI_ge (b := 9) hw (by decide))) (fun h7 => ?_)
  refine v_aload_n C dX1_known_10 rfl ?_
  refine v_get C kX1 hF 0 (by decide) wF_X1_11 rfl dX1_known_11 ?_
  refine v_iload_n C dX1_known_14 rfl ?_
  refine v_iald C hV (vp_in_nI hw (by decide)) dX1_known_15 ?_
  refine v_goto (tgt := 21) C dX1_known_16 (by decide) ?_
  exact v_iret C E dX1_known_21 (nle rfl) (nle rfl) ⟨by rw [nI_clamp (by omega)], rfl⟩

theorem upd_same {f : Nat → Int32} {i : Nat} {x : Int32} (h : f i = x) : upd f i x = f := by
  funext j
  by_cases q : j = i
  · subst q; simp [upd, h]
  · simp [upd, q]
set_option maxHeartbeats 4000000 in
set_option maxRecDepth 100000 in
theorem c_X1_comeNearerN (l : Launch) (g : Gm) (M : Mem) (fa va : Nat) (bc bs : Bool) (vf : Nat → Int32) (w d : Nat) (hw3 : 3 ≤ w) (hw : w < 9) (hd : d < 100) (hF : M fa = some (.inr (1, [.ref va, .int (bI bc), .int (bI bs)]))) (hV : M va = some (aI g 9 vf)) (ho : vf w = -6) : Ct l g yX1_comeNearer cX1_comeNearer 3 none 0 0 0 [.ref fa, .int (nI w), .int (nI d)] M (fun v N => v = none ∧ N = mset M va (aI g 9 (upd vf w (nI d)))) := by
  refine Ct.of (by decide) (Nat.le_of_ble_eq_true rfl) ?_
  intro X hXl hXg hN C E
  subst hXl; subst hXg
  show V X (rmD 0 0 0) M 0 0 [(0, .ref fa), (1, .int (nI w)), (2, .int (nI d))] 0 []
  refine v_iload_n C dX1_comeNearer_0 rfl ?_
  refine v_iconst C dX1_comeNearer_1 (v := 3) rfl ?_
  refine v_icmp_lt (tgt := 11) C dX1_comeNearer_2 (by decide) (fun hbad => absurd hbad (nI_nlt (a := w) (b := 3) (by omega) (by omega))) (fun h2 => ?_)
  refine v_iload_n C dX1_comeNearer_5 rfl ?_
  refine v_bipush C dX1_comeNearer_6 (v := 9) rfl ?_
  refine v_icmp_lt (tgt := 12) C dX1_comeNearer_8 (by decide) (fun h8 => ?_) (fun hbad => absurd hbad (not_not_intro (nI_lt (b := 9) hw (by decide))))
  refine v_aload_n C dX1_comeNearer_12 rfl ?_
  refine v_get C kX1 hF 0 (by decide) wF_X1_11 rfl dX1_comeNearer_13 ?_
  refine v_iload_n C dX1_comeNearer_16 rfl ?_
  refine v_iald C hV (vp_in_nI hw (by decide)) dX1_comeNearer_17 ?_
  rw [nI_clamp (by omega), ho]
  show V X (rmD 0 0 0) M 0 0 [(0, .ref fa), (1, .int (nI w)), (2, .int (nI d))] 18 [.int ((-6))]
  refine v_bipush C dX1_comeNearer_18 (v := (-6)) rfl ?_
  refine v_icmp_eq (tgt := 33) C dX1_comeNearer_20 (by decide) (fun h20 => ?_) (fun hbad => absurd hbad (not_not_intro rfl))
  refine v_aload_n C dX1_comeNearer_33 rfl ?_
  refine v_get C kX1 hF 0 (by decide) wF_X1_11 rfl dX1_comeNearer_34 ?_
  refine v_iload_n C dX1_comeNearer_37 rfl ?_
  refine v_iload_n C dX1_comeNearer_38 rfl ?_
  refine v_iast C hV (vp_in_nI hw (by decide)) dX1_comeNearer_39 ?_
  show V X (rmD 0 0 0) (mset M va (aI (xg X) 9 (upd vf (nI w : Int32).toNatClampNeg (nI d)))) 0 0 [(0, .ref fa), (1, .int (nI w)), (2, .int (nI d))] 40 []
  exact v_vret C E dX1_comeNearer_40 (nle rfl) (nle rfl) ⟨rfl, by rw [nI_clamp (by omega)]⟩

set_option maxHeartbeats 4000000 in
set_option maxRecDepth 100000 in
theorem c_X1_comeNearerS (l : Launch) (g : Gm) (M : Mem) (fa va : Nat) (bc bs : Bool) (vf : Nat → Int32) (w d b : Nat) (hw3 : 3 ≤ w) (hw : w < 9) (hd : d < 100) (hb : b < 100) (hF : M fa = some (.inr (1, [.ref va, .int (bI bc), .int (bI bs)]))) (hV : M va = some (aI g 9 vf)) (ho : vf w = nI b) : Ct l g yX1_comeNearer cX1_comeNearer 3 none 0 0 0 [.ref fa, .int (nI w), .int (nI d)] M (fun v N => v = none ∧ N = mset M va (aI g 9 (upd vf w (nI (if d < b then d else b))))) := by
  refine Ct.of (by decide) (Nat.le_of_ble_eq_true rfl) ?_
  intro X hXl hXg hN C E
  subst hXl; subst hXg
  show V X (rmD 0 0 0) M 0 0 [(0, .ref fa), (1, .int (nI w)), (2, .int (nI d))] 0 []
  refine v_iload_n C dX1_comeNearer_0 rfl ?_
  refine v_iconst C dX1_comeNearer_1 (v := 3) rfl ?_
  refine v_icmp_lt (tgt := 11) C dX1_comeNearer_2 (by decide) (fun hbad => absurd hbad (nI_nlt (a := w) (b := 3) (by omega) (by omega))) (fun h2 => ?_)
  refine v_iload_n C dX1_comeNearer_5 rfl ?_
  refine v_bipush C dX1_comeNearer_6 (v := 9) rfl ?_
  refine v_icmp_lt (tgt := 12) C dX1_comeNearer_8 (by decide) (fun h8 => ?_) (fun hbad => absurd hbad (not_not_intro (nI_lt (b := 9) hw (by decide))))
  refine v_aload_n C dX1_comeNearer_12 rfl ?_
  refine v_get C kX1 hF 0 (by decide) wF_X1_11 rfl dX1_comeNearer_13 ?_
  refine v_iload_n C dX1_comeNearer_16 rfl ?_
  refine v_iald C hV (vp_in_nI hw (by decide)) dX1_comeNearer_17 ?_
  rw [nI_clamp (by omega), ho]
  show V X (rmD 0 0 0) M 0 0 [(0, .ref fa), (1, .int (nI w)), (2, .int (nI d))] 18 [.int (nI b)]
  refine v_bipush C dX1_comeNearer_18 (v := (-6)) rfl ?_
  refine v_icmp_eq (tgt := 33) C dX1_comeNearer_20 (by decide) (fun hbad => absurd hbad (fun q => m6_ne (by omega) q.symm)) (fun h20 => ?_)
  refine v_iload_n C dX1_comeNearer_23 rfl ?_
  refine v_aload_n C dX1_comeNearer_24 rfl ?_
  refine v_get C kX1 hF 0 (by decide) wF_X1_11 rfl dX1_comeNearer_25 ?_
  refine v_iload_n C dX1_comeNearer_28 rfl ?_
  refine v_iald C hV (vp_in_nI hw (by decide)) dX1_comeNearer_29 ?_
  rw [nI_clamp (by omega), ho]
  show V X (rmD 0 0 0) M 0 0 [(0, .ref fa), (1, .int (nI w)), (2, .int (nI d))] 30 [.int (nI b), .int (nI d)]
  refine v_icmp_ge (tgt := 40) C dX1_comeNearer_30 (by decide) (fun h30 => ?_) (fun h30 => ?_)
  · exact v_vret C E dX1_comeNearer_40 (nle rfl) (nle rfl) ⟨rfl, by rw [if_neg (by have := nI_leN (by omega) (by omega) h30; omega), upd_same ho]; exact (mset_id hV).symm⟩
  · refine v_aload_n C dX1_comeNearer_33 rfl ?_
    refine v_get C kX1 hF 0 (by decide) wF_X1_11 rfl dX1_comeNearer_34 ?_
    refine v_iload_n C dX1_comeNearer_37 rfl ?_
    refine v_iload_n C dX1_comeNearer_38 rfl ?_
    refine v_iast C hV (vp_in_nI hw (by decide)) dX1_comeNearer_39 ?_
    show V X (rmD 0 0 0) (mset M va (aI (xg X) 9 (upd vf (nI w : Int32).toNatClampNeg (nI d)))) 0 0 [(0, .ref fa), (1, .int (nI w)), (2, .int (nI d))] 40 []
    exact v_vret C E dX1_comeNearer_40 (nle rfl) (nle rfl) ⟨rfl, by rw [nI_clamp (by omega), if_pos (nI_nleN (by omega) (by omega) h30)]⟩

theorem c_X1_comeNearer (l : Launch) (g : Gm) (M : Mem) (fa va : Nat) (bc bs : Bool) (vf : Nat → Int32) (w d : Nat) (hw3 : 3 ≤ w) (hw : w < 9) (hd : d < 100) (hF : M fa = some (.inr (1, [.ref va, .int (bI bc), .int (bI bs)]))) (hV : M va = some (aI g 9 vf)) (o : Option Nat) (ho : vf w = oI o) (hb : ∀ b, o = some b → b < 100) : Ct l g yX1_comeNearer cX1_comeNearer 3 none 0 0 0 [.ref fa, .int (nI w), .int (nI d)] M (fun v N => v = none ∧ N = mset M va (aI g 9 (upd vf w (oI (minO o d))))) := by
  cases o with
  | none => exact c_X1_comeNearerN l g M fa va bc bs vf w d hw3 hw hd hF hV ho
  | some b =>
    have h := c_X1_comeNearerS l g M fa va bc bs vf w d b hw3 hw hd (hb b rfl) hF hV ho
    have e : nI (if d < b then d else b) = oI (minO (some b) d) := by
      unfold minO
      by_cases q : d < b <;> simp [q, oI]
    rw [e] at h
    exact h
set_option maxHeartbeats 4000000 in
set_option maxRecDepth 100000 in
theorem c_X1_ruleOutTheRest (l : Launch) (g : Gm) (M : Mem) (fa va : Nat) (bc bs : Bool) (vf : Nat → Int32) (hF : M fa = some (.inr (1, [.ref va, .int (bI bc), .int (bI bs)]))) (hV : M va = some (aI g 9 vf)) : Ct l g yX1_ruleOutTheRest cX1_ruleOutTheRest 2 none 0 0 0 [.ref fa] M (fun v N => v = none ∧ N = mset M va (aI g 9 (fun j => if 3 ≤ j ∧ j < 9 ∧ vf j = -6 then 99 else vf j))) := by
  refine Ct.of (by decide) (Nat.le_of_ble_eq_true rfl) ?_
  intro X hXl hXg hN C E
  subst hXl; subst hXg
  show V X (rmD 0 0 0) M 0 0 [(0, .ref fa)] 0 []
  refine v_iconst C dX1_ruleOutTheRest_0 (v := 3) rfl ?_
  refine v_istore_n (lv' := [(1, .int 3), (0, .ref fa)]) C dX1_ruleOutTheRest_1 hN (by decide) rfl ?_
  refine v_sub (lv' := [(0, .ref fa), (1, .int 3)]) [1, 0] rfl ?_
  have lp2 : ∀ (mm : Nat) (w : Nat) (f : Nat → Int32) (h0 : 3 ≤ w) (h1 : w ≤ 9) (h2 : ∀ j, f j = if 3 ≤ j ∧ j < w ∧ vf j = -6 then 99 else vf j), 9 - w < mm → V X (rmD 0 0 0) (mset M va (aI (xg X) 9 f)) 0 0 [(0, .ref fa), (1, .int (nI w))] 2 [] := by
    intro mm
    induction mm with
    | zero => intro w f h0 h1 h2 hmu; exact absurd hmu (Nat.not_lt_zero _)
    | succ mm ih2 =>
      intro w f h0 h1 h2 hmu
      refine v_iload_n C dX1_ruleOutTheRest_2 rfl ?_
      refine v_bipush C dX1_ruleOutTheRest_3 (v := 9) rfl ?_
      refine v_icmp_ge (tgt := 33) C dX1_ruleOutTheRest_5 (by decide) (fun h5 => ?_) (fun h5 => ?_)
      · have g5 : w = 9 := Nat.le_antisymm h1 (nI_leN (a := 9) (by decide) (by omega) h5)
        exact v_vret C E dX1_ruleOutTheRest_33 (nle rfl) (nle rfl) ⟨rfl, by rw [show f = (fun j => if 3 ≤ j ∧ j < 9 ∧ vf j = -6 then 99 else vf j) from funext (fun j => by rw [h2 j, g5])]⟩
      · have g5 := nI_nleN (a := 9) (by decide) (by omega) h5
        refine v_aload_n C dX1_ruleOutTheRest_8 rfl ?_
        refine v_get C kX1 ((mset_ne (cell_ne hF hV (by simp))).trans hF) 0 (by decide) wF_X1_11 rfl dX1_ruleOutTheRest_9 ?_
        refine v_iload_n C dX1_ruleOutTheRest_12 rfl ?_
        refine v_iald C (mset_same _ _ _) (vp_in_nI g5 (by decide)) dX1_ruleOutTheRest_13 ?_
        rw [nI_clamp (by omega), h2 w, if_neg (fun z => absurd z.2.1 (Nat.lt_irrefl _))]
        show V X (rmD 0 0 0) (mset M va (aI (xg X) 9 f)) 0 0 [(0, .ref fa), (1, .int (nI w))] 14 [.int (vf w)]
        refine v_bipush C dX1_ruleOutTheRest_14 (v := (-6)) rfl ?_
        refine v_icmp_ne (tgt := 27) C dX1_ruleOutTheRest_16 (by decide) (fun h16 => ?_) (fun h16 => ?_)
        · have g16 : ¬ vf w = -6 := h16
          refine v_iinc (lv' := [(1, .int (nI (w + 1))), (0, .ref fa)]) C dX1_ruleOutTheRest_27 1 rfl (nI_1 _) hN (by decide) rfl ?_
          refine v_goto (tgt := 2) C dX1_ruleOutTheRest_30 (by decide) ?_
          refine v_sub (lv' := [(0, .ref fa), (1, .int (nI (w + 1)))]) [1, 0] rfl ?_
          refine ih2 (w + 1) f (by omega) (by omega) (fun j => ?_) (by omega)
          rw [h2 j]
          by_cases q : j = w
          · subst q; rw [if_neg (fun z => absurd z.2.1 (Nat.lt_irrefl _)), if_neg (fun z => g16 z.2.2)]
          · simp only [show (j < w + 1) ↔ (j < w) from by omega]
        · have g16 : vf w = -6 := h16
          refine v_aload_n C dX1_ruleOutTheRest_19 rfl ?_
          refine v_get C kX1 ((mset_ne (cell_ne hF hV (by simp))).trans hF) 0 (by decide) wF_X1_11 rfl dX1_ruleOutTheRest_20 ?_
          refine v_iload_n C dX1_ruleOutTheRest_23 rfl ?_
          refine v_bipush C dX1_ruleOutTheRest_24 (v := 99) rfl ?_
          refine v_iast C (mset_same _ _ _) (vp_in_nI g5 (by decide)) dX1_ruleOutTheRest_26 ?_
          show V X (rmD 0 0 0) (mset (mset M va (aI (xg X) 9 f)) va (aI (xg X) 9 (upd f (nI w : Int32).toNatClampNeg 99))) 0 0 [(0, .ref fa), (1, .int (nI w))] 27 []
          refine v_iinc (lv' := [(1, .int (nI (w + 1))), (0, .ref fa)]) C dX1_ruleOutTheRest_27 1 rfl (nI_1 _) hN (by decide) rfl ?_
          refine v_goto (tgt := 2) C dX1_ruleOutTheRest_30 (by decide) ?_
          refine v_sub (lv' := [(0, .ref fa), (1, .int (nI (w + 1)))]) [1, 0] rfl ?_
          rw [mset_mset, nI_clamp (by omega)]
          refine ih2 (w + 1) _ (by omega) (by omega) (fun j => ?_) (by omega)
          by_cases q : j = w
          · subst q; rw [if_pos ⟨by omega, Nat.lt_succ_self _, g16⟩]; simp [upd]
          · rw [show ∀ z, upd f w z j = f j from fun z => by simp [upd, q], h2 j]
            simp only [show (j < w + 1) ↔ (j < w) from by omega]
  have q := lp2 (_ + 1) 3 vf (Nat.le_refl _) (by decide) (fun j => by rw [if_neg (by omega)]) (Nat.lt_succ_self _)
  rw [mset_id hV] at q
  exact q


/-! Facts: all that is learnt of a THING. -/
theorem mset_4 {M : Mem} {a b : Nat} {e1 e2 e3 e4 : va_E} (h : a ≠ b) : mset (mset (mset (mset M a e1) b e2) a e3) b e4 = mset (mset M a e3) b e4 := by
  funext c
  by_cases h1 : c = a
  · subst h1; simp [mset, h]
  · by_cases h2 : c = b
    · subst h2; simp [mset]
    · simp [mset, h1, h2]
theorem mset_3 {M : Mem} {a b : Nat} {e1 e2 e3 : va_E} (h : a ≠ b) : mset (mset (mset M a e1) b e2) a e3 = mset (mset M a e3) b e2 := by
  funext c
  by_cases h1 : c = a
  · subst h1; simp [mset, h]
  · by_cases h2 : c = b
    · subst h2; simp [mset, h1]
    · simp [mset, h1, h2]
theorem nearD_lt {P : Nat → Bool} {D : Nat → Nat} (hD : ∀ c, c < 96 → D c < 100) : ∀ {n b : Nat}, n ≤ 96 → nearD P D n = some b → b < 100
  | 0, b, _, h => by cases h
  | n + 1, b, hn, h => by
    unfold nearD at h
    split at h
    · exact minO_lt (fun b hb => nearD_lt hD (by omega) hb) (hD n (by omega)) h
    · exact nearD_lt hD (by omega) h
theorem gapA_s (nP : Nat) (pf : Nat → Nat → Nat) (B : Nat → Nat → Bool) (m : Nat → Nat) (d n : Nat) : gapA nP pf B m d (n + 1) = (gapA nP pf B m d n || (!covA nP pf B d n && decide (distN m n ≤ 5))) := rfl
set_option maxHeartbeats 4000000 in
set_option maxRecDepth 100000 in
theorem c_X1_learn (l : Launch) (g : Gm) (M : Mem) (fa va : Nat) (bc bs : Bool) (vf : Nat → Int32) (hF : M fa = some (.inr (1, [.ref va, .int (bI bc), .int (bI bs)]))) (hV : M va = some (aI g 9 vf)) (al pt : Nat) (pa ca ka ra : Nat → Nat) (nP : Nat) (pf : Nat → Nat → Nat) (pl ph : Nat → Int64) (cn lk : Nat → Nat → Int32) (hA : AlbW g M al pt pa ca ka ra nP pf pl ph cn lk) (la ta : Nat) (th mk dn : Nat → Nat) (nT : Nat) (m : Nat → Nat → Nat) (lo hi : Nat → Int64) (hL : LandW g M la ta th mk dn nT m lo hi) (L : Nat → Nat → Nat) (K : Nat → Nat → Option Nat) (hrow : rowsOk nP cn lk L K) (t : Nat) (lt : t < nT) (d : Nat) (hd : d < 100) : Ct l g yX1_learn cX1_learn 8 none 4 0 0 [.ref fa, .ref (th t), .ref al, .int (nI d)] M (fun v N => v = none ∧ ∃ f' b1 b2, N = mset (mset M va (aI g 9 f')) fa (.inr (1, [.ref va, .int (bI b1), .int (bI b2)])) ∧ ∀ w, w < 9 → f' w = oI (factN nP pf (tkA pl ph) L K (m t) t d w)) := by
  refine Ct.of (by decide) (Nat.le_of_ble_eq_true rfl) ?_
  intro X hXl hXg hN C E
  subst hXl; subst hXg
  show V X (rmD 4 0 0) M 0 0 [(0, .ref fa), (1, .ref (th t)), (2, .ref al), (3, .int (nI d))] 0 []
  have hfv : fa ≠ va := cell_ne hF hV (by simp)
  have h10p := hA.1
  have h12 := hL.1
  have hok := (hL.2.2.2 t lt).2.2.2
  have cl1 : (1 : Int32).toNatClampNeg = 1 := rfl
  have cl2 : (2 : Int32).toNatClampNeg = 2 := rfl
  refine v_iconst C dX1_learn_0 (v := 0) rfl ?_
  refine v_istore (lv' := [(4, .int 0), (0, .ref fa), (1, .ref (th t)), (2, .ref al), (3, .int (nI d))]) C dX1_learn_1 hN (by decide) rfl ?_
  refine v_sub (lv' := [(0, .ref fa), (1, .ref (th t)), (2, .ref al), (3, .int (nI d)), (4, .int 0)]) [1, 2, 3, 4, 0] rfl ?_
  have lp3 : ∀ (mm : Nat) (k : Nat) (f : Nat → Int32) (h1 : k ≤ 9) (h2 : ∀ j, j < k → f j = -6), 9 - k < mm → V X (rmD 4 0 0) (mset M va (aI (xg X) 9 f)) 0 0 [(0, .ref fa), (1, .ref (th t)), (2, .ref al), (3, .int (nI d)), (4, .int (nI k))] 3 [] := by
    intro mm
    induction mm with
    | zero => intro k f h1 h2 hmu; exact absurd hmu (Nat.not_lt_zero _)
    | succ mm ih3 =>
      intro k f h1 h2 hmu
      refine v_iload C dX1_learn_3 rfl ?_
      refine v_bipush C dX1_learn_5 (v := 9) rfl ?_
      refine v_icmp_ge (tgt := 25) C dX1_learn_7 (by decide) (fun h7 => ?_) (fun h7 => ?_)
      · have g7 : k = 9 := Nat.le_antisymm h1 (nI_leN (a := 9) (by decide) (by omega) h7)
        refine v_iconst C dX1_learn_25 (v := 0) rfl ?_
        refine v_istore (lv' := [(4, .int 0), (0, .ref fa), (1, .ref (th t)), (2, .ref al), (3, .int (nI d))]) C dX1_learn_26 hN (by decide) rfl ?_
        refine v_iconst C dX1_learn_28 (v := 0) rfl ?_
        refine v_istore (lv' := [(5, .int 0), (4, .int 0), (0, .ref fa), (1, .ref (th t)), (2, .ref al), (3, .int (nI d))]) C dX1_learn_29 hN (by decide) rfl ?_
        refine v_iconst C dX1_learn_31 (v := 0) rfl ?_
        refine v_istore (lv' := [(6, .int 0), (5, .int 0), (4, .int 0), (0, .ref fa), (1, .ref (th t)), (2, .ref al), (3, .int (nI d))]) C dX1_learn_32 hN (by decide) rfl ?_
        refine v_sub (lv' := [(0, .ref fa), (1, .ref (th t)), (2, .ref al), (3, .int (nI d)), (4, .int 0), (5, .int 0), (6, .int 0)]) [3, 4, 5, 6, 2, 1, 0] rfl ?_
        have lp34 : ∀ (mm : Nat) (c : Nat) (f : Nat → Int32) (b1 : Bool) (b2 : Bool) (h3 : c ≤ 96) (h4 : ∀ w, 3 ≤ w → w < 9 → f w = oI (nearD (nearA nP pf (tkA pl ph) L K t d (w - 3)) (distN (m t)) c)) (h5 : ∀ w, w < 3 → f w = -6), 96 - c < mm → V X (rmD 4 0 0) (mset (mset M va (aI (xg X) 9 f)) fa (.inr (1, [.ref va, .int (bI b1), .int (bI b2)]))) 0 0 [(0, .ref fa), (1, .ref (th t)), (2, .ref al), (3, .int (nI d)), (4, .int (nI (cntB (seenA nP pf (tkA pl ph) L K t d) c))), (5, .int (bI (gapA nP pf (tkA pl ph) (m t) d c))), (6, .int (nI c))] 34 [] := by
          intro mm
          induction mm with
          | zero => intro c f b1 b2 h3 h4 h5 hmu; exact absurd hmu (Nat.not_lt_zero _)
          | succ mm ih34 =>
            intro c f b1 b2 h3 h4 h5 hmu
            have hA2 := (hA.setI hV (by decide) (aI (xg X) 9 f)).setO ((mset_ne hfv).trans hF) (by decide) (.inr (1, [.ref va, .int (bI b1), .int (bI b2)]))
            have hL2 := (hL.setI hV (by decide) (aI (xg X) 9 f)).setO ((mset_ne hfv).trans hF) (by decide) (.inr (1, [.ref va, .int (bI b1), .int (bI b2)]))
            have hva2 : (mset (mset M va (aI (xg X) 9 f)) fa (.inr (1, [.ref va, .int (bI b1), .int (bI b2)]))) va = some (aI (xg X) 9 f) := (mset_ne (Ne.symm hfv)).trans (mset_same _ _ _)
            refine v_iload C dX1_learn_34 rfl ?_
            refine v_bipush C dX1_learn_36 (v := 96) rfl ?_
            refine v_icmp_ge (tgt := 100) C dX1_learn_38 (by decide) (fun h38 => ?_) (fun h38 => ?_)
            · have g38 : c = 96 := Nat.le_antisymm h3 (nI_leN (a := 96) (by decide) (by omega) h38)
              subst g38
              have hcl := cntB_le (seenA nP pf (tkA pl ph) L K t d) 96
              show V X (rmD 4 0 0) (mset (mset M va (aI (xg X) 9 f)) fa (.inr (1, [.ref va, .int (bI b1), .int (bI b2)]))) 0 0 [(0, .ref fa), (1, .ref (th t)), (2, .ref al), (3, .int (nI d)), (4, .int (nI (cntB (seenA nP pf (tkA pl ph) L K t d) 96))), (5, .int (bI (gapA nP pf (tkA pl ph) (m t) d 96))), (6, .int (nI 96))] 100 []
              refine v_aload_n C dX1_learn_100 rfl ?_
              refine v_get C kX1 (mset_same _ _ _) 0 (by decide) wF_X1_11 rfl dX1_learn_101 ?_
              refine v_iconst C dX1_learn_104 (v := 0) rfl ?_
              refine v_iload C dX1_learn_105 rfl ?_
              refine v_iast C hva2 (vp_in_nI (n := 0) (by decide) (by decide)) dX1_learn_107 ?_
              show V X (rmD 4 0 0) (mset (mset (mset M va (aI (xg X) 9 f)) fa (.inr (1, [.ref va, .int (bI b1), .int (bI b2)]))) va (aI (xg X) 9 (upd f (0 : Int32).toNatClampNeg (nI (cntB (seenA nP pf (tkA pl ph) L K t d) 96))))) 0 0 [(0, .ref fa), (1, .ref (th t)), (2, .ref al), (3, .int (nI d)), (4, .int (nI (cntB (seenA nP pf (tkA pl ph) L K t d) 96))), (5, .int (bI (gapA nP pf (tkA pl ph) (m t) d 96))), (6, .int (nI 96))] 108 []
              refine v_iload C dX1_learn_108 rfl ?_
              refine v_if_le (tgt := 135) C dX1_learn_110 (by decide) (fun h110 => ?_) (fun h110 => ?_)
              · refine v_iload C dX1_learn_135 rfl ?_
                refine v_ifb_ne (tgt := 144) C dX1_learn_137 (by decide) (fun h137 => ?_) (fun h137 => ?_)
                · have hs : ¬ 0 < cntB (seenA nP pf (tkA pl ph) L K t d) 96 := fun q => absurd (nI_leN (b := 0) (by omega) (by decide) h110) (by omega)
                  simp only [mset_3 (Ne.symm hfv)]
                  refine v_vret C E dX1_learn_144 (by decide) (by decide) ⟨rfl, _, b1, b2, rfl, fun w hw => ?_⟩
                  rcases (show w = 0 ∨ w = 1 ∨ w = 2 ∨ 3 ≤ w by omega) with rfl | rfl | rfl | q
                  · simp [factN, upd, oI, sb_cl0, cl1, cl2]
                  · simp [factN, upd, oI, sb_cl0, cl1, cl2, hs, h5 1 (by decide)]
                  · simp [factN, upd, oI, sb_cl0, cl1, cl2, hs, h5 2 (by decide)]
                  · simp only [factN, show ¬ w = 0 by omega, show ¬ w = 1 by omega, show ¬ w = 2 by omega, if_false, upd, sb_cl0, cl1, cl2, h4 w q hw, h137]
                    rcases hnd : nearD (nearA nP pf (tkA pl ph) L K t d (w - 3)) (distN (m t)) 96 with _ | b
                    · simp [oI]
                    · simp [oI]
                · refine v_aload_n C dX1_learn_140 rfl ?_
                  refine v_callV (As := []) (rest := []) (b := fa) C (c_X1_ruleOutTheRest (xl X) (xg X) (mset (mset (mset M va (aI (xg X) 9 f)) fa (.inr (1, [.ref va, .int (bI b1), .int (bI b2)]))) va (aI (xg X) 9 (upd f (0 : Int32).toNatClampNeg (nI (cntB (seenA nP pf (tkA pl ph) L K t d) 96))))) fa va b1 b2 (upd f (0 : Int32).toNatClampNeg (nI (cntB (seenA nP pf (tkA pl ph) L K t d) 96))) ((mset_ne hfv).trans (mset_same _ _ _)) (mset_same _ _ _)) pm_X1_ruleOutTheRest wI_X1_ruleOutTheRest wS_X1_ruleOutTheRest wM_X1_36 kX1 ((mset_ne hfv).trans (mset_same _ _ _)) ⟨by decide, by decide⟩ ⟨by decide, by decide⟩ (nle rfl) dX1_learn_141 rfl (dt0 ?_)
                  show V X (rmD 4 0 0) (mset (mset (mset (mset M va (aI (xg X) 9 f)) fa (.inr (1, [.ref va, .int (bI b1), .int (bI b2)]))) va (aI (xg X) 9 (upd f (0 : Int32).toNatClampNeg (nI (cntB (seenA nP pf (tkA pl ph) L K t d) 96))))) va (aI (xg X) 9 (fun j => if 3 ≤ j ∧ j < 9 ∧ (upd f (0 : Int32).toNatClampNeg (nI (cntB (seenA nP pf (tkA pl ph) L K t d) 96))) j = -6 then 99 else (upd f (0 : Int32).toNatClampNeg (nI (cntB (seenA nP pf (tkA pl ph) L K t d) 96))) j))) 0 0 [(0, .ref fa), (1, .ref (th t)), (2, .ref al), (3, .int (nI d)), (4, .int (nI (cntB (seenA nP pf (tkA pl ph) L K t d) 96))), (5, .int (bI (gapA nP pf (tkA pl ph) (m t) d 96))), (6, .int (nI 96))] 144 []
                  have hs : ¬ 0 < cntB (seenA nP pf (tkA pl ph) L K t d) 96 := fun q => absurd (nI_leN (b := 0) (by omega) (by decide) h110) (by omega)
                  simp only [mset_3 (Ne.symm hfv)]
                  refine v_vret C E dX1_learn_144 (by decide) (by decide) ⟨rfl, _, b1, b2, rfl, fun w hw => ?_⟩
                  rcases (show w = 0 ∨ w = 1 ∨ w = 2 ∨ 3 ≤ w by omega) with rfl | rfl | rfl | q
                  · simp [factN, upd, oI, sb_cl0, cl1, cl2]
                  · simp [factN, upd, oI, sb_cl0, cl1, cl2, hs, h5 1 (by decide)]
                  · simp [factN, upd, oI, sb_cl0, cl1, cl2, hs, h5 2 (by decide)]
                  · simp only [factN, show ¬ w = 0 by omega, show ¬ w = 1 by omega, show ¬ w = 2 by omega, if_false, upd, sb_cl0, cl1, cl2, h4 w q hw, h137]
                    rcases hnd : nearD (nearA nP pf (tkA pl ph) L K t d (w - 3)) (distN (m t)) 96 with _ | b
                    · simp [oI, q, hw]; rfl
                    · have := nearD_lt (fun c hc => Nat.lt_of_le_of_lt (dist_le hok hc) (by decide)) (Nat.le_refl _) hnd
                      simp only [oI]
                      exact if_neg (fun z => m6_ne (show b < 2 ^ 31 by omega) z.2.2.symm)
              · refine v_aload_n C dX1_learn_113 rfl ?_
                refine v_get C kX1 ((mset_ne hfv).trans (mset_same _ _ _)) 0 (by decide) wF_X1_11 rfl dX1_learn_114 ?_
                refine v_iconst C dX1_learn_117 (v := 1) rfl ?_
                refine v_aload_n C dX1_learn_118 rfl ?_
                refine v_iconst C dX1_learn_119 (v := 5) rfl ?_
                refine v_callV (As := [.int 5]) (rest := [.int 1, .ref va]) (b := th t) C (c_X6_mark (xl X) (xg X) (mset (mset (mset M va (aI (xg X) 9 f)) fa (.inr (1, [.ref va, .int (bI b1), .int (bI b2)]))) va (aI (xg X) 9 (upd f (0 : Int32).toNatClampNeg (nI (cntB (seenA nP pf (tkA pl ph) L K t d) 96))))) (th t) (mk t) (dn t) (nI t) (fun w => nI (m t w)) 5 (by decide) ((mset_ne (cell_ne (hL2.2.2.2 t lt).1 hva2 (by simp))).trans ((hL2.2.2.2 t lt).1)) ((mset_ne (cell_ne (hL2.2.2.2 t lt).2.1 hva2 (by simp))).trans ((hL2.2.2.2 t lt).2.1))) pm_X6_mark wI_X6_mark wS_X6_mark wM_X1_32 kX6 ((mset_ne (cell_ne (hL2.2.2.2 t lt).1 hva2 (by simp))).trans ((hL2.2.2.2 t lt).1)) ⟨by decide, by decide⟩ ⟨by decide, by decide⟩ (nle rfl) dX1_learn_120 rfl (dt1 ?_)
                show V X (rmD 4 0 0) (mset (mset (mset M va (aI (xg X) 9 f)) fa (.inr (1, [.ref va, .int (bI b1), .int (bI b2)]))) va (aI (xg X) 9 (upd f (0 : Int32).toNatClampNeg (nI (cntB (seenA nP pf (tkA pl ph) L K t d) 96))))) 0 0 [(0, .ref fa), (1, .ref (th t)), (2, .ref al), (3, .int (nI d)), (4, .int (nI (cntB (seenA nP pf (tkA pl ph) L K t d) 96))), (5, .int (bI (gapA nP pf (tkA pl ph) (m t) d 96))), (6, .int (nI 96))] 123 [.int (nI (m t 5)), .int 1, .ref va]
                refine v_iast C (mset_same _ _ _) (vp_in_nI (n := 1) (by decide) (by decide)) dX1_learn_123 ?_
                show V X (rmD 4 0 0) (mset (mset (mset (mset M va (aI (xg X) 9 f)) fa (.inr (1, [.ref va, .int (bI b1), .int (bI b2)]))) va (aI (xg X) 9 (upd f (0 : Int32).toNatClampNeg (nI (cntB (seenA nP pf (tkA pl ph) L K t d) 96))))) va (aI (xg X) 9 (upd (upd f (0 : Int32).toNatClampNeg (nI (cntB (seenA nP pf (tkA pl ph) L K t d) 96))) (1 : Int32).toNatClampNeg (nI (m t 5))))) 0 0 [(0, .ref fa), (1, .ref (th t)), (2, .ref al), (3, .int (nI d)), (4, .int (nI (cntB (seenA nP pf (tkA pl ph) L K t d) 96))), (5, .int (bI (gapA nP pf (tkA pl ph) (m t) d 96))), (6, .int (nI 96))] 124 []
                refine v_aload_n C dX1_learn_124 rfl ?_
                refine v_get C kX1 ((mset_ne hfv).trans ((mset_ne hfv).trans (mset_same _ _ _))) 0 (by decide) wF_X1_11 rfl dX1_learn_125 ?_
                refine v_iconst C dX1_learn_128 (v := 2) rfl ?_
                refine v_aload_n C dX1_learn_129 rfl ?_
                refine v_iconst C dX1_learn_130 (v := 4) rfl ?_
                refine v_callV (As := [.int 4]) (rest := [.int 2, .ref va]) (b := th t) C (c_X6_mark (xl X) (xg X) (mset (mset (mset (mset M va (aI (xg X) 9 f)) fa (.inr (1, [.ref va, .int (bI b1), .int (bI b2)]))) va (aI (xg X) 9 (upd f (0 : Int32).toNatClampNeg (nI (cntB (seenA nP pf (tkA pl ph) L K t d) 96))))) va (aI (xg X) 9 (upd (upd f (0 : Int32).toNatClampNeg (nI (cntB (seenA nP pf (tkA pl ph) L K t d) 96))) (1 : Int32).toNatClampNeg (nI (m t 5))))) (th t) (mk t) (dn t) (nI t) (fun w => nI (m t w)) 4 (by decide) ((mset_ne (cell_ne (hL2.2.2.2 t lt).1 hva2 (by simp))).trans ((mset_ne (cell_ne (hL2.2.2.2 t lt).1 hva2 (by simp))).trans ((hL2.2.2.2 t lt).1))) ((mset_ne (cell_ne (hL2.2.2.2 t lt).2.1 hva2 (by simp))).trans ((mset_ne (cell_ne (hL2.2.2.2 t lt).2.1 hva2 (by simp))).trans ((hL2.2.2.2 t lt).2.1)))) pm_X6_mark wI_X6_mark wS_X6_mark wM_X1_32 kX6 ((mset_ne (cell_ne (hL2.2.2.2 t lt).1 hva2 (by simp))).trans ((mset_ne (cell_ne (hL2.2.2.2 t lt).1 hva2 (by simp))).trans ((hL2.2.2.2 t lt).1))) ⟨by decide, by decide⟩ ⟨by decide, by decide⟩ (nle rfl) dX1_learn_131 rfl (dt1 ?_)
                show V X (rmD 4 0 0) (mset (mset (mset (mset M va (aI (xg X) 9 f)) fa (.inr (1, [.ref va, .int (bI b1), .int (bI b2)]))) va (aI (xg X) 9 (upd f (0 : Int32).toNatClampNeg (nI (cntB (seenA nP pf (tkA pl ph) L K t d) 96))))) va (aI (xg X) 9 (upd (upd f (0 : Int32).toNatClampNeg (nI (cntB (seenA nP pf (tkA pl ph) L K t d) 96))) (1 : Int32).toNatClampNeg (nI (m t 5))))) 0 0 [(0, .ref fa), (1, .ref (th t)), (2, .ref al), (3, .int (nI d)), (4, .int (nI (cntB (seenA nP pf (tkA pl ph) L K t d) 96))), (5, .int (bI (gapA nP pf (tkA pl ph) (m t) d 96))), (6, .int (nI 96))] 134 [.int (nI (m t 4)), .int 2, .ref va]
                refine v_iast C (mset_same _ _ _) (vp_in_nI (n := 2) (by decide) (by decide)) dX1_learn_134 ?_
                show V X (rmD 4 0 0) (mset (mset (mset (mset (mset M va (aI (xg X) 9 f)) fa (.inr (1, [.ref va, .int (bI b1), .int (bI b2)]))) va (aI (xg X) 9 (upd f (0 : Int32).toNatClampNeg (nI (cntB (seenA nP pf (tkA pl ph) L K t d) 96))))) va (aI (xg X) 9 (upd (upd f (0 : Int32).toNatClampNeg (nI (cntB (seenA nP pf (tkA pl ph) L K t d) 96))) (1 : Int32).toNatClampNeg (nI (m t 5))))) va (aI (xg X) 9 (upd (upd (upd f (0 : Int32).toNatClampNeg (nI (cntB (seenA nP pf (tkA pl ph) L K t d) 96))) (1 : Int32).toNatClampNeg (nI (m t 5))) (2 : Int32).toNatClampNeg (nI (m t 4))))) 0 0 [(0, .ref fa), (1, .ref (th t)), (2, .ref al), (3, .int (nI d)), (4, .int (nI (cntB (seenA nP pf (tkA pl ph) L K t d) 96))), (5, .int (bI (gapA nP pf (tkA pl ph) (m t) d 96))), (6, .int (nI 96))] 135 []
                refine v_iload C dX1_learn_135 rfl ?_
                refine v_ifb_ne (tgt := 144) C dX1_learn_137 (by decide) (fun h137 => ?_) (fun h137 => ?_)
                · have hs : 0 < cntB (seenA nP pf (tkA pl ph) L K t d) 96 := nI_nleN (b := 0) (by omega) (by decide) h110
                  simp only [mset_3 (Ne.symm hfv)]
                  refine v_vret C E dX1_learn_144 (by decide) (by decide) ⟨rfl, _, b1, b2, rfl, fun w hw => ?_⟩
                  rcases (show w = 0 ∨ w = 1 ∨ w = 2 ∨ 3 ≤ w by omega) with rfl | rfl | rfl | q
                  · simp [factN, upd, oI, sb_cl0, cl1, cl2]
                  · simp [factN, upd, oI, sb_cl0, cl1, cl2, hs]
                  · simp [factN, upd, oI, sb_cl0, cl1, cl2, hs]
                  · simp only [factN, show ¬ w = 0 by omega, show ¬ w = 1 by omega, show ¬ w = 2 by omega, if_false, upd, sb_cl0, cl1, cl2, h4 w q hw, h137]
                    rcases hnd : nearD (nearA nP pf (tkA pl ph) L K t d (w - 3)) (distN (m t)) 96 with _ | b
                    · simp [oI]
                    · simp [oI]
                · refine v_aload_n C dX1_learn_140 rfl ?_
                  refine v_callV (As := []) (rest := []) (b := fa) C (c_X1_ruleOutTheRest (xl X) (xg X) (mset (mset (mset (mset (mset M va (aI (xg X) 9 f)) fa (.inr (1, [.ref va, .int (bI b1), .int (bI b2)]))) va (aI (xg X) 9 (upd f (0 : Int32).toNatClampNeg (nI (cntB (seenA nP pf (tkA pl ph) L K t d) 96))))) va (aI (xg X) 9 (upd (upd f (0 : Int32).toNatClampNeg (nI (cntB (seenA nP pf (tkA pl ph) L K t d) 96))) (1 : Int32).toNatClampNeg (nI (m t 5))))) va (aI (xg X) 9 (upd (upd (upd f (0 : Int32).toNatClampNeg (nI (cntB (seenA nP pf (tkA pl ph) L K t d) 96))) (1 : Int32).toNatClampNeg (nI (m t 5))) (2 : Int32).toNatClampNeg (nI (m t 4))))) fa va b1 b2 (upd (upd (upd f (0 : Int32).toNatClampNeg (nI (cntB (seenA nP pf (tkA pl ph) L K t d) 96))) (1 : Int32).toNatClampNeg (nI (m t 5))) (2 : Int32).toNatClampNeg (nI (m t 4))) ((mset_ne hfv).trans ((mset_ne hfv).trans ((mset_ne hfv).trans (mset_same _ _ _)))) (mset_same _ _ _)) pm_X1_ruleOutTheRest wI_X1_ruleOutTheRest wS_X1_ruleOutTheRest wM_X1_36 kX1 ((mset_ne hfv).trans ((mset_ne hfv).trans ((mset_ne hfv).trans (mset_same _ _ _)))) ⟨by decide, by decide⟩ ⟨by decide, by decide⟩ (nle rfl) dX1_learn_141 rfl (dt0 ?_)
                  show V X (rmD 4 0 0) (mset (mset (mset (mset (mset (mset M va (aI (xg X) 9 f)) fa (.inr (1, [.ref va, .int (bI b1), .int (bI b2)]))) va (aI (xg X) 9 (upd f (0 : Int32).toNatClampNeg (nI (cntB (seenA nP pf (tkA pl ph) L K t d) 96))))) va (aI (xg X) 9 (upd (upd f (0 : Int32).toNatClampNeg (nI (cntB (seenA nP pf (tkA pl ph) L K t d) 96))) (1 : Int32).toNatClampNeg (nI (m t 5))))) va (aI (xg X) 9 (upd (upd (upd f (0 : Int32).toNatClampNeg (nI (cntB (seenA nP pf (tkA pl ph) L K t d) 96))) (1 : Int32).toNatClampNeg (nI (m t 5))) (2 : Int32).toNatClampNeg (nI (m t 4))))) va (aI (xg X) 9 (fun j => if 3 ≤ j ∧ j < 9 ∧ (upd (upd (upd f (0 : Int32).toNatClampNeg (nI (cntB (seenA nP pf (tkA pl ph) L K t d) 96))) (1 : Int32).toNatClampNeg (nI (m t 5))) (2 : Int32).toNatClampNeg (nI (m t 4))) j = -6 then 99 else (upd (upd (upd f (0 : Int32).toNatClampNeg (nI (cntB (seenA nP pf (tkA pl ph) L K t d) 96))) (1 : Int32).toNatClampNeg (nI (m t 5))) (2 : Int32).toNatClampNeg (nI (m t 4))) j))) 0 0 [(0, .ref fa), (1, .ref (th t)), (2, .ref al), (3, .int (nI d)), (4, .int (nI (cntB (seenA nP pf (tkA pl ph) L K t d) 96))), (5, .int (bI (gapA nP pf (tkA pl ph) (m t) d 96))), (6, .int (nI 96))] 144 []
                  have hs : 0 < cntB (seenA nP pf (tkA pl ph) L K t d) 96 := nI_nleN (b := 0) (by omega) (by decide) h110
                  simp only [mset_3 (Ne.symm hfv)]
                  refine v_vret C E dX1_learn_144 (by decide) (by decide) ⟨rfl, _, b1, b2, rfl, fun w hw => ?_⟩
                  rcases (show w = 0 ∨ w = 1 ∨ w = 2 ∨ 3 ≤ w by omega) with rfl | rfl | rfl | q
                  · simp [factN, upd, oI, sb_cl0, cl1, cl2]
                  · simp [factN, upd, oI, sb_cl0, cl1, cl2, hs]
                  · simp [factN, upd, oI, sb_cl0, cl1, cl2, hs]
                  · simp only [factN, show ¬ w = 0 by omega, show ¬ w = 1 by omega, show ¬ w = 2 by omega, if_false, upd, sb_cl0, cl1, cl2, h4 w q hw, h137]
                    rcases hnd : nearD (nearA nP pf (tkA pl ph) L K t d (w - 3)) (distN (m t)) 96 with _ | b
                    · simp [oI, q, hw]; rfl
                    · have := nearD_lt (fun c hc => Nat.lt_of_le_of_lt (dist_le hok hc) (by decide)) (Nat.le_refl _) hnd
                      simp only [oI]
                      exact if_neg (fun z => m6_ne (show b < 2 ^ 31 by omega) z.2.2.symm)
            · have hc := nI_nleN (a := 96) (by decide) (by omega) h38
              have hd18 := dist_le hok hc
              refine v_aload_n C dX1_learn_41 rfl ?_
              refine v_iload C dX1_learn_42 rfl ?_
              refine v_bipush C dX1_learn_44 (v := 12) rfl ?_
              refine v_irem C dX1_learn_46 (by decide) ?_
              refine v_iload C dX1_learn_47 rfl ?_
              refine v_bipush C dX1_learn_49 (v := 12) rfl ?_
              refine v_idiv C dX1_learn_51 (by decide) ?_
              rw [cell_mod (by omega), cell_div (by omega)]
              show V X (rmD 4 0 0) (mset (mset M va (aI (xg X) 9 f)) fa (.inr (1, [.ref va, .int (bI b1), .int (bI b2)]))) 0 0 [(0, .ref fa), (1, .ref (th t)), (2, .ref al), (3, .int (nI d)), (4, .int (nI (cntB (seenA nP pf (tkA pl ph) L K t d) c))), (5, .int (bI (gapA nP pf (tkA pl ph) (m t) d c))), (6, .int (nI c))] 52 [.int (nI (c / 12)), .int (nI (c % 12)), .ref (th t)]
              refine v_callV (As := [.int (nI (c % 12)), .int (nI (c / 12))]) (rest := []) (b := th t) C (c_X6_distance (xl X) (xg X) (mset (mset M va (aI (xg X) 9 f)) fa (.inr (1, [.ref va, .int (bI b1), .int (bI b2)]))) (th t) (mk t) (dn t) (nI t) (fun w => nI (m t w)) (nI (c % 12)) (nI (c / 12)) ((hL2.2.2.2 t lt).1) ((hL2.2.2.2 t lt).2.1)) pm_X6_distance wI_X6_distance wS_X6_distance wM_X1_15 kX6 ((hL2.2.2.2 t lt).1) ⟨by decide, by decide⟩ ⟨by decide, by decide⟩ (nle rfl) dX1_learn_52 rfl (dt1 ?_)
              show V X (rmD 4 0 0) (mset (mset M va (aI (xg X) 9 f)) fa (.inr (1, [.ref va, .int (bI b1), .int (bI b2)]))) 0 0 [(0, .ref fa), (1, .ref (th t)), (2, .ref al), (3, .int (nI d)), (4, .int (nI (cntB (seenA nP pf (tkA pl ph) L K t d) c))), (5, .int (bI (gapA nP pf (tkA pl ph) (m t) d c))), (6, .int (nI c))] 55 [.int (iabs ((nI (c % 12)) - (nI (m t 0))) + iabs ((nI (c / 12)) - (nI (m t 1))))]
              rw [dist_N hok hc]
              show V X (rmD 4 0 0) (mset (mset M va (aI (xg X) 9 f)) fa (.inr (1, [.ref va, .int (bI b1), .int (bI b2)]))) 0 0 [(0, .ref fa), (1, .ref (th t)), (2, .ref al), (3, .int (nI d)), (4, .int (nI (cntB (seenA nP pf (tkA pl ph) L K t d) c))), (5, .int (bI (gapA nP pf (tkA pl ph) (m t) d c))), (6, .int (nI c))] 55 [.int (nI (distN (m t) c))]
              refine v_istore (lv' := [(7, .int (nI (distN (m t) c))), (0, .ref fa), (1, .ref (th t)), (2, .ref al), (3, .int (nI d)), (4, .int (nI (cntB (seenA nP pf (tkA pl ph) L K t d) c))), (5, .int (bI (gapA nP pf (tkA pl ph) (m t) d c))), (6, .int (nI c))]) C dX1_learn_55 hN (by decide) rfl ?_
              refine v_aload_n C dX1_learn_57 rfl ?_
              refine v_iload C dX1_learn_58 rfl ?_
              refine v_iload C dX1_learn_60 rfl ?_
              refine v_aload_n C dX1_learn_62 rfl ?_
              refine v_aload_n C dX1_learn_63 rfl ?_
              refine v_iload_n C dX1_learn_64 rfl ?_
              refine v_callV (As := [.int (nI c), .int (nI (distN (m t) c)), .ref (th t), .ref al, .int (nI d)]) (rest := []) (b := fa) C (c_X1_lookAt (xl X) (xg X) (mset (mset M va (aI (xg X) 9 f)) fa (.inr (1, [.ref va, .int (bI b1), .int (bI b2)]))) fa va b1 b2 f (mset_same _ _ _) hva2 al pt pa ca ka ra nP pf pl ph cn lk hA2 la ta th mk dn nT m lo hi hL2 L K hrow t lt c (distN (m t) c) d hc (by omega) hd (fun w => nearD (nearA nP pf (tkA pl ph) L K t d (w - 3)) (distN (m t)) c) h4 (fun w _ _ b hb => nearD_lt (fun c hc => Nat.lt_of_le_of_lt (dist_le hok hc) (by decide)) h3 hb)) pm_X1_lookAt wI_X1_lookAt wS_X1_lookAt wM_X1_21 kX1 (mset_same _ _ _) ⟨by decide, by decide⟩ ⟨by decide, by decide⟩ (nle rfl) dX1_learn_65 rfl ?_
              rintro _ _ ⟨rfl, f', rfl, hf'⟩
              show V X (rmD 4 0 0) (mset (mset (mset (mset M va (aI (xg X) 9 f)) fa (.inr (1, [.ref va, .int (bI b1), .int (bI b2)]))) va (aI (xg X) 9 f')) fa (.inr (1, [.ref va, .int (bI (covA nP pf (tkA pl ph) d c)), .int (bI (seenA nP pf (tkA pl ph) L K t d c))]))) 0 0 [(7, .int (nI (distN (m t) c))), (0, .ref fa), (1, .ref (th t)), (2, .ref al), (3, .int (nI d)), (4, .int (nI (cntB (seenA nP pf (tkA pl ph) L K t d) c))), (5, .int (bI (gapA nP pf (tkA pl ph) (m t) d c))), (6, .int (nI c))] 68 []
              refine v_aload_n C dX1_learn_68 rfl ?_
              refine v_get C kX1 (mset_same _ _ _) 2 (by decide) wF_X1_25 rfl dX1_learn_69 ?_
              refine v_ifb_eq (tgt := 78) C dX1_learn_72 (by decide) (fun h72 => ?_) (fun h72 => ?_)
              · refine v_aload_n C dX1_learn_78 rfl ?_
                refine v_get C kX1 (mset_same _ _ _) 1 (by decide) wF_X1_29 rfl dX1_learn_79 ?_
                refine v_ifb_ne (tgt := 94) C dX1_learn_82 (by decide) (fun h82 => ?_) (fun h82 => ?_)
                · refine v_iinc (lv' := [(6, .int (nI (c + 1))), (7, .int (nI (distN (m t) c))), (0, .ref fa), (1, .ref (th t)), (2, .ref al), (3, .int (nI d)), (4, .int (nI (cntB (seenA nP pf (tkA pl ph) L K t d) c))), (5, .int (bI (gapA nP pf (tkA pl ph) (m t) d c)))]) C dX1_learn_94 7 rfl (nI_1 _) hN (by decide) rfl ?_
                  refine v_goto (tgt := 34) C dX1_learn_97 (by decide) ?_
                  refine v_sub (lv' := [(0, .ref fa), (1, .ref (th t)), (2, .ref al), (3, .int (nI d)), (4, .int (nI (cntB (seenA nP pf (tkA pl ph) L K t d) c))), (5, .int (bI (gapA nP pf (tkA pl ph) (m t) d c))), (6, .int (nI (c + 1)))]) [2, 3, 4, 5, 6, 7, 0] rfl ?_
                  have e1 : cntB (seenA nP pf (tkA pl ph) L K t d) (c + 1) = cntB (seenA nP pf (tkA pl ph) L K t d) c := by simp [cntB, h72]
                  have e2 : gapA nP pf (tkA pl ph) (m t) d (c + 1) = gapA nP pf (tkA pl ph) (m t) d c := by rw [gapA_s]; first | (simp [h82]; done) | (rw [decide_eq_false (fun q => absurd (nI_ltN (a := 5) (by decide) (by omega) h88) (Nat.not_lt.mpr q))]; simp)
                  have e3 : ∀ w, 3 ≤ w → w < 9 → f' w = oI (nearD (nearA nP pf (tkA pl ph) L K t d (w - 3)) (distN (m t)) (c + 1)) := fun w hw1 hw2 => by
                    rw [hf' w]
                    by_cases q : nearA nP pf (tkA pl ph) L K t d (w - 3) c = true
                    · rw [if_pos ⟨hw1, hw2, q⟩, nearD, if_pos q]
                    · rw [if_neg (fun z => q z.2.2), nearD, if_neg q]
                      exact h4 w hw1 hw2
                  have q := ih34 (c + 1) f' (covA nP pf (tkA pl ph) d c) (seenA nP pf (tkA pl ph) L K t d c) (by omega) e3 (fun w hw => by rw [hf' w, if_neg (fun z => absurd z.1 (by omega))]; exact h5 w hw) (by omega)
                  rw [e1, e2] at q
                  rw [mset_4 (Ne.symm hfv)]
                  exact q
                · refine v_iload C dX1_learn_85 rfl ?_
                  refine v_iconst C dX1_learn_87 (v := 5) rfl ?_
                  refine v_icmp_gt (tgt := 94) C dX1_learn_88 (by decide) (fun h88 => ?_) (fun h88 => ?_)
                  · refine v_iinc (lv' := [(6, .int (nI (c + 1))), (7, .int (nI (distN (m t) c))), (0, .ref fa), (1, .ref (th t)), (2, .ref al), (3, .int (nI d)), (4, .int (nI (cntB (seenA nP pf (tkA pl ph) L K t d) c))), (5, .int (bI (gapA nP pf (tkA pl ph) (m t) d c)))]) C dX1_learn_94 7 rfl (nI_1 _) hN (by decide) rfl ?_
                    refine v_goto (tgt := 34) C dX1_learn_97 (by decide) ?_
                    refine v_sub (lv' := [(0, .ref fa), (1, .ref (th t)), (2, .ref al), (3, .int (nI d)), (4, .int (nI (cntB (seenA nP pf (tkA pl ph) L K t d) c))), (5, .int (bI (gapA nP pf (tkA pl ph) (m t) d c))), (6, .int (nI (c + 1)))]) [2, 3, 4, 5, 6, 7, 0] rfl ?_
                    have e1 : cntB (seenA nP pf (tkA pl ph) L K t d) (c + 1) = cntB (seenA nP pf (tkA pl ph) L K t d) c := by simp [cntB, h72]
                    have e2 : gapA nP pf (tkA pl ph) (m t) d (c + 1) = gapA nP pf (tkA pl ph) (m t) d c := by rw [gapA_s]; first | (simp [h82]; done) | (rw [decide_eq_false (fun q => absurd (nI_ltN (a := 5) (by decide) (by omega) h88) (Nat.not_lt.mpr q))]; simp)
                    have e3 : ∀ w, 3 ≤ w → w < 9 → f' w = oI (nearD (nearA nP pf (tkA pl ph) L K t d (w - 3)) (distN (m t)) (c + 1)) := fun w hw1 hw2 => by
                      rw [hf' w]
                      by_cases q : nearA nP pf (tkA pl ph) L K t d (w - 3) c = true
                      · rw [if_pos ⟨hw1, hw2, q⟩, nearD, if_pos q]
                      · rw [if_neg (fun z => q z.2.2), nearD, if_neg q]
                        exact h4 w hw1 hw2
                    have q := ih34 (c + 1) f' (covA nP pf (tkA pl ph) d c) (seenA nP pf (tkA pl ph) L K t d c) (by omega) e3 (fun w hw => by rw [hf' w, if_neg (fun z => absurd z.1 (by omega))]; exact h5 w hw) (by omega)
                    rw [e1, e2] at q
                    rw [mset_4 (Ne.symm hfv)]
                    exact q
                  · refine v_iconst C dX1_learn_91 (v := 1) rfl ?_
                    refine v_istore (lv' := [(5, .int 1), (7, .int (nI (distN (m t) c))), (0, .ref fa), (1, .ref (th t)), (2, .ref al), (3, .int (nI d)), (4, .int (nI (cntB (seenA nP pf (tkA pl ph) L K t d) c))), (6, .int (nI c))]) C dX1_learn_92 hN (by decide) rfl ?_
                    refine v_iinc (lv' := [(6, .int (nI (c + 1))), (5, .int 1), (7, .int (nI (distN (m t) c))), (0, .ref fa), (1, .ref (th t)), (2, .ref al), (3, .int (nI d)), (4, .int (nI (cntB (seenA nP pf (tkA pl ph) L K t d) c)))]) C dX1_learn_94 7 rfl (nI_1 _) hN (by decide) rfl ?_
                    refine v_goto (tgt := 34) C dX1_learn_97 (by decide) ?_
                    refine v_sub (lv' := [(0, .ref fa), (1, .ref (th t)), (2, .ref al), (3, .int (nI d)), (4, .int (nI (cntB (seenA nP pf (tkA pl ph) L K t d) c))), (5, .int 1), (6, .int (nI (c + 1)))]) [3, 4, 5, 6, 7, 1, 0] rfl ?_
                    have e1 : cntB (seenA nP pf (tkA pl ph) L K t d) (c + 1) = cntB (seenA nP pf (tkA pl ph) L K t d) c := by simp [cntB, h72]
                    have e2 : bI (gapA nP pf (tkA pl ph) (m t) d (c + 1)) = 1 := by rw [gapA_s, h82, decide_eq_true (nI_nltN (a := 5) (by decide) (by omega) h88)]; simp [bI]
                    have e3 : ∀ w, 3 ≤ w → w < 9 → f' w = oI (nearD (nearA nP pf (tkA pl ph) L K t d (w - 3)) (distN (m t)) (c + 1)) := fun w hw1 hw2 => by
                      rw [hf' w]
                      by_cases q : nearA nP pf (tkA pl ph) L K t d (w - 3) c = true
                      · rw [if_pos ⟨hw1, hw2, q⟩, nearD, if_pos q]
                      · rw [if_neg (fun z => q z.2.2), nearD, if_neg q]
                        exact h4 w hw1 hw2
                    have q := ih34 (c + 1) f' (covA nP pf (tkA pl ph) d c) (seenA nP pf (tkA pl ph) L K t d c) (by omega) e3 (fun w hw => by rw [hf' w, if_neg (fun z => absurd z.1 (by omega))]; exact h5 w hw) (by omega)
                    rw [e1, e2] at q
                    rw [mset_4 (Ne.symm hfv)]
                    exact q
              · refine v_iinc (lv' := [(4, .int (nI ((cntB (seenA nP pf (tkA pl ph) L K t d) c) + 1))), (7, .int (nI (distN (m t) c))), (0, .ref fa), (1, .ref (th t)), (2, .ref al), (3, .int (nI d)), (5, .int (bI (gapA nP pf (tkA pl ph) (m t) d c))), (6, .int (nI c))]) C dX1_learn_75 5 rfl (nI_1 _) hN (by decide) rfl ?_
                refine v_aload_n C dX1_learn_78 rfl ?_
                refine v_get C kX1 (mset_same _ _ _) 1 (by decide) wF_X1_29 rfl dX1_learn_79 ?_
                refine v_ifb_ne (tgt := 94) C dX1_learn_82 (by decide) (fun h82 => ?_) (fun h82 => ?_)
                · refine v_iinc (lv' := [(6, .int (nI (c + 1))), (4, .int (nI ((cntB (seenA nP pf (tkA pl ph) L K t d) c) + 1))), (7, .int (nI (distN (m t) c))), (0, .ref fa), (1, .ref (th t)), (2, .ref al), (3, .int (nI d)), (5, .int (bI (gapA nP pf (tkA pl ph) (m t) d c)))]) C dX1_learn_94 7 rfl (nI_1 _) hN (by decide) rfl ?_
                  refine v_goto (tgt := 34) C dX1_learn_97 (by decide) ?_
                  refine v_sub (lv' := [(0, .ref fa), (1, .ref (th t)), (2, .ref al), (3, .int (nI d)), (4, .int (nI ((cntB (seenA nP pf (tkA pl ph) L K t d) c) + 1))), (5, .int (bI (gapA nP pf (tkA pl ph) (m t) d c))), (6, .int (nI (c + 1)))]) [3, 4, 5, 6, 1, 7, 0] rfl ?_
                  have e1 : cntB (seenA nP pf (tkA pl ph) L K t d) (c + 1) = cntB (seenA nP pf (tkA pl ph) L K t d) c + 1 := by simp [cntB, h72]
                  have e2 : gapA nP pf (tkA pl ph) (m t) d (c + 1) = gapA nP pf (tkA pl ph) (m t) d c := by rw [gapA_s]; first | (simp [h82]; done) | (rw [decide_eq_false (fun q => absurd (nI_ltN (a := 5) (by decide) (by omega) h88) (Nat.not_lt.mpr q))]; simp)
                  have e3 : ∀ w, 3 ≤ w → w < 9 → f' w = oI (nearD (nearA nP pf (tkA pl ph) L K t d (w - 3)) (distN (m t)) (c + 1)) := fun w hw1 hw2 => by
                    rw [hf' w]
                    by_cases q : nearA nP pf (tkA pl ph) L K t d (w - 3) c = true
                    · rw [if_pos ⟨hw1, hw2, q⟩, nearD, if_pos q]
                    · rw [if_neg (fun z => q z.2.2), nearD, if_neg q]
                      exact h4 w hw1 hw2
                  have q := ih34 (c + 1) f' (covA nP pf (tkA pl ph) d c) (seenA nP pf (tkA pl ph) L K t d c) (by omega) e3 (fun w hw => by rw [hf' w, if_neg (fun z => absurd z.1 (by omega))]; exact h5 w hw) (by omega)
                  rw [e1, e2] at q
                  rw [mset_4 (Ne.symm hfv)]
                  exact q
                · refine v_iload C dX1_learn_85 rfl ?_
                  refine v_iconst C dX1_learn_87 (v := 5) rfl ?_
                  refine v_icmp_gt (tgt := 94) C dX1_learn_88 (by decide) (fun h88 => ?_) (fun h88 => ?_)
                  · refine v_iinc (lv' := [(6, .int (nI (c + 1))), (4, .int (nI ((cntB (seenA nP pf (tkA pl ph) L K t d) c) + 1))), (7, .int (nI (distN (m t) c))), (0, .ref fa), (1, .ref (th t)), (2, .ref al), (3, .int (nI d)), (5, .int (bI (gapA nP pf (tkA pl ph) (m t) d c)))]) C dX1_learn_94 7 rfl (nI_1 _) hN (by decide) rfl ?_
                    refine v_goto (tgt := 34) C dX1_learn_97 (by decide) ?_
                    refine v_sub (lv' := [(0, .ref fa), (1, .ref (th t)), (2, .ref al), (3, .int (nI d)), (4, .int (nI ((cntB (seenA nP pf (tkA pl ph) L K t d) c) + 1))), (5, .int (bI (gapA nP pf (tkA pl ph) (m t) d c))), (6, .int (nI (c + 1)))]) [3, 4, 5, 6, 1, 7, 0] rfl ?_
                    have e1 : cntB (seenA nP pf (tkA pl ph) L K t d) (c + 1) = cntB (seenA nP pf (tkA pl ph) L K t d) c + 1 := by simp [cntB, h72]
                    have e2 : gapA nP pf (tkA pl ph) (m t) d (c + 1) = gapA nP pf (tkA pl ph) (m t) d c := by rw [gapA_s]; first | (simp [h82]; done) | (rw [decide_eq_false (fun q => absurd (nI_ltN (a := 5) (by decide) (by omega) h88) (Nat.not_lt.mpr q))]; simp)
                    have e3 : ∀ w, 3 ≤ w → w < 9 → f' w = oI (nearD (nearA nP pf (tkA pl ph) L K t d (w - 3)) (distN (m t)) (c + 1)) := fun w hw1 hw2 => by
                      rw [hf' w]
                      by_cases q : nearA nP pf (tkA pl ph) L K t d (w - 3) c = true
                      · rw [if_pos ⟨hw1, hw2, q⟩, nearD, if_pos q]
                      · rw [if_neg (fun z => q z.2.2), nearD, if_neg q]
                        exact h4 w hw1 hw2
                    have q := ih34 (c + 1) f' (covA nP pf (tkA pl ph) d c) (seenA nP pf (tkA pl ph) L K t d c) (by omega) e3 (fun w hw => by rw [hf' w, if_neg (fun z => absurd z.1 (by omega))]; exact h5 w hw) (by omega)
                    rw [e1, e2] at q
                    rw [mset_4 (Ne.symm hfv)]
                    exact q
                  · refine v_iconst C dX1_learn_91 (v := 1) rfl ?_
                    refine v_istore (lv' := [(5, .int 1), (4, .int (nI ((cntB (seenA nP pf (tkA pl ph) L K t d) c) + 1))), (7, .int (nI (distN (m t) c))), (0, .ref fa), (1, .ref (th t)), (2, .ref al), (3, .int (nI d)), (6, .int (nI c))]) C dX1_learn_92 hN (by decide) rfl ?_
                    refine v_iinc (lv' := [(6, .int (nI (c + 1))), (5, .int 1), (4, .int (nI ((cntB (seenA nP pf (tkA pl ph) L K t d) c) + 1))), (7, .int (nI (distN (m t) c))), (0, .ref fa), (1, .ref (th t)), (2, .ref al), (3, .int (nI d))]) C dX1_learn_94 7 rfl (nI_1 _) hN (by decide) rfl ?_
                    refine v_goto (tgt := 34) C dX1_learn_97 (by decide) ?_
                    refine v_sub (lv' := [(0, .ref fa), (1, .ref (th t)), (2, .ref al), (3, .int (nI d)), (4, .int (nI ((cntB (seenA nP pf (tkA pl ph) L K t d) c) + 1))), (5, .int 1), (6, .int (nI (c + 1)))]) [4, 5, 6, 7, 2, 1, 0] rfl ?_
                    have e1 : cntB (seenA nP pf (tkA pl ph) L K t d) (c + 1) = cntB (seenA nP pf (tkA pl ph) L K t d) c + 1 := by simp [cntB, h72]
                    have e2 : bI (gapA nP pf (tkA pl ph) (m t) d (c + 1)) = 1 := by rw [gapA_s, h82, decide_eq_true (nI_nltN (a := 5) (by decide) (by omega) h88)]; simp [bI]
                    have e3 : ∀ w, 3 ≤ w → w < 9 → f' w = oI (nearD (nearA nP pf (tkA pl ph) L K t d (w - 3)) (distN (m t)) (c + 1)) := fun w hw1 hw2 => by
                      rw [hf' w]
                      by_cases q : nearA nP pf (tkA pl ph) L K t d (w - 3) c = true
                      · rw [if_pos ⟨hw1, hw2, q⟩, nearD, if_pos q]
                      · rw [if_neg (fun z => q z.2.2), nearD, if_neg q]
                        exact h4 w hw1 hw2
                    have q := ih34 (c + 1) f' (covA nP pf (tkA pl ph) d c) (seenA nP pf (tkA pl ph) L K t d c) (by omega) e3 (fun w hw => by rw [hf' w, if_neg (fun z => absurd z.1 (by omega))]; exact h5 w hw) (by omega)
                    rw [e1, e2] at q
                    rw [mset_4 (Ne.symm hfv)]
                    exact q
        have q := lp34 (_ + 1) 0 f bc bs (Nat.zero_le _) (fun w hw1 hw2 => h2 w (by omega)) (fun w hw => h2 w (by omega)) (Nat.lt_succ_self _)
        rw [mset_id ((mset_ne hfv).trans hF)] at q
        exact q
      · have g7 := nI_nleN (a := 9) (by decide) (by omega) h7
        refine v_aload_n C dX1_learn_10 rfl ?_
        refine v_get C kX1 ((mset_ne hfv).trans hF) 0 (by decide) wF_X1_11 rfl dX1_learn_11 ?_
        refine v_iload C dX1_learn_14 rfl ?_
        refine v_bipush C dX1_learn_16 (v := (-6)) rfl ?_
        refine v_iast C (mset_same _ _ _) (vp_in_nI g7 (by decide)) dX1_learn_18 ?_
        show V X (rmD 4 0 0) (mset (mset M va (aI (xg X) 9 f)) va (aI (xg X) 9 (upd f (nI k : Int32).toNatClampNeg ((-6))))) 0 0 [(0, .ref fa), (1, .ref (th t)), (2, .ref al), (3, .int (nI d)), (4, .int (nI k))] 19 []
        refine v_iinc (lv' := [(4, .int (nI (k + 1))), (0, .ref fa), (1, .ref (th t)), (2, .ref al), (3, .int (nI d))]) C dX1_learn_19 4 rfl (nI_1 _) hN (by decide) rfl ?_
        refine v_goto (tgt := 3) C dX1_learn_22 (by decide) ?_
        refine v_sub (lv' := [(0, .ref fa), (1, .ref (th t)), (2, .ref al), (3, .int (nI d)), (4, .int (nI (k + 1)))]) [1, 2, 3, 4, 0] rfl ?_
        rw [mset_mset, nI_clamp (by omega)]
        exact ih3 (k + 1) _ (by omega) (fun j hj => by by_cases q : j = k <;> simp [upd, q]; exact h2 j (by omega)) (by omega)
  have q := lp3 (_ + 1) 0 vf (Nat.zero_le _) (fun j hj => absurd hj (Nat.not_lt_zero _)) (Nat.lt_succ_self _)
  rw [mset_id hV] at q
  exact q


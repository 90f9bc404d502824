/-! Facts: a CELL looked at; all that is learnt of a THING. -/
def tkA (pl ph : Nat → Int64) (p : Nat) : Nat → Bool := tk (pl p) (ph p)
/-- the rows of the album are those of the numbers L (what shows) and K (what counts) -/
def rowsOk (nP : Nat) (cn lk : Nat → Nat → Int32) (L : Nat → Nat → Nat) (K : Nat → Nat → Option Nat) : Prop := ∀ p, p < nP → ∀ c, c < 96 → (cn p c = oI (K p c) ∧ ∀ k, K p c = some k → k < 12) ∧ lk p c = nI (L p c) ∧ L p c ≤ 15
theorem covA_s (n : Nat) (pf : Nat → Nat → Nat) (B : Nat → Nat → Bool) (d c : Nat) : covA (n + 1) pf B d c = (covA n pf B d c || (decide (pf n 2 ≤ d) && covN (pf n) (B n) c)) := rfl
theorem seenA_s (n : Nat) (pf : Nat → Nat → Nat) (B : Nat → Nat → Bool) (L : Nat → Nat → Nat) (K : Nat → Nat → Option Nat) (t d c : Nat) : seenA (n + 1) pf B L K t d c = (seenA n pf B L K t d c || (((decide (pf n 2 ≤ d) && covN (pf n) (B n) c) && decide (10 ≤ L n c)) && decide (K n c = some t))) := rfl
theorem nearA_s (n : Nat) (pf : Nat → Nat → Nat) (B : Nat → Nat → Bool) (L : Nat → Nat → Nat) (K : Nat → Nat → Option Nat) (t d q c : Nat) : nearA (n + 1) pf B L K t d q c = (nearA n pf B L K t d q c || ((((decide (pf n 2 ≤ d) && covN (pf n) (B n) c) && decide (10 ≤ L n c)) && decide (L n c = 10 + q)) && !decide (K n c = some t))) := rfl
theorem oI_eq {o : Option Nat} {t : Nat} (ho : ∀ k, o = some k → k < 12) (ht : t < 12) : oI o = nI t ↔ o = some t := by
  cases o with
  | none => exact ⟨fun q => absurd q (m6_ne (by omega)), fun q => by cases q⟩
  | some k =>
    have := ho k rfl
    constructor
    · intro q
      rw [nI_eqN (by omega) (by omega) q]
    · intro q
      cases q
      rfl
theorem minO_lt {o : Option Nat} {d b : Nat} (ho : ∀ b, o = some b → b < 100) (hd : d < 100) (h : minO o d = some b) : b < 100 := by
  cases o with
  | none => cases h; exact hd
  | some k =>
    have := ho k rfl
    unfold minO at h
    by_cases q : d < k
    · simp only [q, if_true] at h
      cases h; exact hd
    · simp only [q, if_false] at h
      cases h; exact this
set_option maxHeartbeats 4000000 in
set_option maxRecDepth 100000 in
theorem c_X1_lookAt (l : Launch) (g : Gm) (M : Mem) (fa va : Nat) (bc bs : Bool) (vf : Nat → Int32) (hF : M fa = some (.inr (1, [.ref va, .int (bI bc), .int (bI bs)]))) (hV : M va = some (aI g 9 vf)) (al pt : Nat) (pa ca ka ra : Nat → Nat) (nP : Nat) (pf : Nat → Nat → Nat) (pl ph : Nat → Int64) (cn lk : Nat → Nat → Int32) (hA : AlbW g M al pt pa ca ka ra nP pf pl ph cn lk) (la ta : Nat) (th mk dn : Nat → Nat) (nT : Nat) (m : Nat → Nat → Nat) (lo hi : Nat → Int64) (hL : LandW g M la ta th mk dn nT m lo hi) (L : Nat → Nat → Nat) (K : Nat → Nat → Option Nat) (hrow : rowsOk nP cn lk L K) (t : Nat) (lt : t < nT) (c dd d : Nat) (hc : c < 96) (hdd : dd < 100) (hd : d < 100) (ow : Nat → Option Nat) (hvf : ∀ w, 3 ≤ w → w < 9 → vf w = oI (ow w)) (how : ∀ w, 3 ≤ w → w < 9 → ∀ b, ow w = some b → b < 100) : Ct l g yX1_lookAt cX1_lookAt 9 none 3 0 0 [.ref fa, .int (nI c), .int (nI dd), .ref (th t), .ref al, .int (nI d)] M (fun v N => v = none ∧ ∃ f', N = mset (mset M va (aI g 9 f')) fa (.inr (1, [.ref va, .int (bI (covA nP pf (tkA pl ph) d c)), .int (bI (seenA nP pf (tkA pl ph) L K t d c))])) ∧ ∀ w, f' w = if 3 ≤ w ∧ w < 9 ∧ nearA nP pf (tkA pl ph) L K t d (w - 3) c = true then oI (minO (ow w) dd) else vf w) := by
  refine Ct.of (by decide) (Nat.le_of_ble_eq_true rfl) ?_
  intro X hXl hXg hN C E
  subst hXl; subst hXg
  show V X (rmD 3 0 0) M 0 0 [(0, .ref fa), (1, .int (nI c)), (2, .int (nI dd)), (3, .ref (th t)), (4, .ref al), (5, .int (nI d))] 0 []
  have hfv : fa ≠ va := cell_ne hF hV (by simp)
  have h10p := hA.1
  have h12 := hL.1
  refine v_aload_n C dX1_lookAt_0 rfl ?_
  refine v_iconst C dX1_lookAt_1 (v := 0) rfl ?_
  show V X (rmD 3 0 0) M 0 0 [(0, .ref fa), (1, .int (nI c)), (2, .int (nI dd)), (3, .ref (th t)), (4, .ref al), (5, .int (nI d))] 2 [.int (bI false), .ref fa]
  refine v_put C kX1 hF 1 (by decide) wF_X1_29 rfl (narrow_b01 (bI_01 _)) (fits_b01 (bI_01 _)) (nle rfl) dX1_lookAt_2 ?_
  show V X (rmD 3 0 0) (mset M fa (.inr (1, [.ref va, .int (bI false), .int (bI bs)]))) 0 0 [(0, .ref fa), (1, .int (nI c)), (2, .int (nI dd)), (3, .ref (th t)), (4, .ref al), (5, .int (nI d))] 5 []
  refine v_aload_n C dX1_lookAt_5 rfl ?_
  refine v_iconst C dX1_lookAt_6 (v := 0) rfl ?_
  show V X (rmD 3 0 0) (mset M fa (.inr (1, [.ref va, .int (bI false), .int (bI bs)]))) 0 0 [(0, .ref fa), (1, .int (nI c)), (2, .int (nI dd)), (3, .ref (th t)), (4, .ref al), (5, .int (nI d))] 7 [.int (bI false), .ref fa]
  refine v_put C kX1 (mset_same _ _ _) 2 (by decide) wF_X1_25 rfl (narrow_b01 (bI_01 _)) (fits_b01 (bI_01 _)) (nle rfl) dX1_lookAt_7 ?_
  show V X (rmD 3 0 0) (mset (mset M fa (.inr (1, [.ref va, .int (bI false), .int (bI bs)]))) fa (.inr (1, [.ref va, .int (bI false), .int (bI false)]))) 0 0 [(0, .ref fa), (1, .int (nI c)), (2, .int (nI dd)), (3, .ref (th t)), (4, .ref al), (5, .int (nI d))] 10 []
  refine v_iconst C dX1_lookAt_10 (v := 0) rfl ?_
  refine v_istore (lv' := [(6, .int 0), (0, .ref fa), (1, .int (nI c)), (2, .int (nI dd)), (3, .ref (th t)), (4, .ref al), (5, .int (nI d))]) C dX1_lookAt_11 hN (by decide) rfl ?_
  refine v_sub (lv' := [(0, .ref fa), (1, .int (nI c)), (2, .int (nI dd)), (3, .ref (th t)), (4, .ref al), (5, .int (nI d)), (6, .int 0)]) [1, 2, 3, 4, 5, 6, 0] rfl ?_
  have lp13 : ∀ (mm : Nat) (i : Nat) (f : Nat → Int32) (h1 : i ≤ nP) (h2 : ∀ w, f w = if 3 ≤ w ∧ w < 9 ∧ nearA i pf (tkA pl ph) L K t d (w - 3) c = true then oI (minO (ow w) dd) else vf w), nP - i < mm → V X (rmD 3 0 0) (mset (mset M va (aI (xg X) 9 f)) fa (.inr (1, [.ref va, .int (bI (covA i pf (tkA pl ph) d c)), .int (bI (seenA i pf (tkA pl ph) L K t d c))]))) 0 0 [(0, .ref fa), (1, .int (nI c)), (2, .int (nI dd)), (3, .ref (th t)), (4, .ref al), (5, .int (nI d)), (6, .int (nI i))] 13 [] := by
    intro mm
    induction mm with
    | zero => intro i f h1 h2 hmu; exact absurd hmu (Nat.not_lt_zero _)
    | succ mm ih13 =>
      intro i f h1 h2 hmu
      have hA2 := (hA.setI hV (by decide) (aI (xg X) 9 f)).setO ((mset_ne hfv).trans hF) (by decide) (.inr (1, [.ref va, .int (bI (covA i pf (tkA pl ph) d c)), .int (bI (seenA i pf (tkA pl ph) L K t d c))]))
      have hL2 := (hL.setI hV (by decide) (aI (xg X) 9 f)).setO ((mset_ne hfv).trans hF) (by decide) (.inr (1, [.ref va, .int (bI (covA i pf (tkA pl ph) d c)), .int (bI (seenA i pf (tkA pl ph) L K t d c))]))
      have hva2 : (mset (mset M va (aI (xg X) 9 f)) fa (.inr (1, [.ref va, .int (bI (covA i pf (tkA pl ph) d c)), .int (bI (seenA i pf (tkA pl ph) L K t d c))]))) va = some (aI (xg X) 9 f) := (mset_ne (Ne.symm hfv)).trans (mset_same _ _ _)
      refine v_iload C dX1_lookAt_13 rfl ?_
      refine v_aload C dX1_lookAt_15 rfl ?_
      refine v_callV (As := []) (rest := [.int (nI i)]) (b := al) C (c_X0_size (xl X) (xg X) (mset (mset M va (aI (xg X) 9 f)) fa (.inr (1, [.ref va, .int (bI (covA i pf (tkA pl ph) d c)), .int (bI (seenA i pf (tkA pl ph) L K t d c))]))) al pt pa ca ka ra nP pf pl ph cn lk hA2) pm_X0_size wI_X0_size wS_X0_size wM_X1_39 kX0 hA2.2.1 ⟨by decide, by decide⟩ ⟨by decide, by decide⟩ (nle rfl) dX1_lookAt_17 rfl (dt1 ?_)
      show V X (rmD 3 0 0) (mset (mset M va (aI (xg X) 9 f)) fa (.inr (1, [.ref va, .int (bI (covA i pf (tkA pl ph) d c)), .int (bI (seenA i pf (tkA pl ph) L K t d c))]))) 0 0 [(0, .ref fa), (1, .int (nI c)), (2, .int (nI dd)), (3, .ref (th t)), (4, .ref al), (5, .int (nI d)), (6, .int (nI i))] 20 [.int (nI nP), .int (nI i)]
      refine v_icmp_ge (tgt := 122) C dX1_lookAt_20 (by decide) (fun h20 => ?_) (fun h20 => ?_)
      · have g20 : i = nP := Nat.le_antisymm h1 (nI_leN (by omega) (by omega) h20)
        subst g20
        exact v_vret C E dX1_lookAt_122 (nle rfl) (nle rfl) ⟨rfl, f, rfl, h2⟩
      · have g20 := nI_nleN (by omega) (by omega) h20
        have hrw := hrow i g20 c hc
        have hpf := (hA.2.2.2.1 i g20).1
        unfold okP at hpf
        refine v_aload C dX1_lookAt_23 rfl ?_
        refine v_iload C dX1_lookAt_25 rfl ?_
        refine v_callV (As := [.int (nI i)]) (rest := []) (b := al) C (c_X0_find (xl X) (xg X) (mset (mset M va (aI (xg X) 9 f)) fa (.inr (1, [.ref va, .int (bI (covA i pf (tkA pl ph) d c)), .int (bI (seenA i pf (tkA pl ph) L K t d c))]))) al pt pa ca ka ra nP pf pl ph cn lk i g20 hA2) pm_X0_find wI_X0_find wS_X0_find wM_X1_45 kX0 hA2.2.1 ⟨by decide, by decide⟩ ⟨by decide, by decide⟩ (nle rfl) dX1_lookAt_27 rfl (dt1 ?_)
        show V X (rmD 3 0 0) (mset (mset M va (aI (xg X) 9 f)) fa (.inr (1, [.ref va, .int (bI (covA i pf (tkA pl ph) d c)), .int (bI (seenA i pf (tkA pl ph) L K t d c))]))) 0 0 [(0, .ref fa), (1, .int (nI c)), (2, .int (nI dd)), (3, .ref (th t)), (4, .ref al), (5, .int (nI d)), (6, .int (nI i))] 30 [.ref (pa i)]
        refine v_astore (lv' := [(7, .ref (pa i)), (0, .ref fa), (1, .int (nI c)), (2, .int (nI dd)), (3, .ref (th t)), (4, .ref al), (5, .int (nI d)), (6, .int (nI i))]) C dX1_lookAt_30 hN (by decide) rfl ?_
        refine v_aload C dX1_lookAt_32 rfl ?_
        refine v_ifnull C dX1_lookAt_34 ?_
        refine v_aload C dX1_lookAt_37 rfl ?_
        refine v_callV (As := []) (rest := []) (b := pa i) C (c_X5_day (xl X) (xg X) (mset (mset M va (aI (xg X) 9 f)) fa (.inr (1, [.ref va, .int (bI (covA i pf (tkA pl ph) d c)), .int (bI (seenA i pf (tkA pl ph) L K t d c))]))) (pa i) (ca i) (ka i) (ra i) (pf i) (pl i) (ph i) (cn i) (lk i) (hA2.2.2.2.1 i (by assumption))) pm_X5_day wI_X5_day wS_X5_day wM_X1_49 kX5 ((hA2.2.2.2.1 i g20).2.2.1) ⟨by decide, by decide⟩ ⟨by decide, by decide⟩ (nle rfl) dX1_lookAt_39 rfl (dt1 ?_)
        show V X (rmD 3 0 0) (mset (mset M va (aI (xg X) 9 f)) fa (.inr (1, [.ref va, .int (bI (covA i pf (tkA pl ph) d c)), .int (bI (seenA i pf (tkA pl ph) L K t d c))]))) 0 0 [(7, .ref (pa i)), (0, .ref fa), (1, .int (nI c)), (2, .int (nI dd)), (3, .ref (th t)), (4, .ref al), (5, .int (nI d)), (6, .int (nI i))] 42 [.int (nI (pf i 2))]
        refine v_iload C dX1_lookAt_42 rfl ?_
        refine v_icmp_le (tgt := 50) C dX1_lookAt_44 (by decide) (fun h44 => ?_) (fun h44 => ?_)
        · have hday : decide (pf i 2 ≤ d) = true := decide_eq_true (nI_leN (by omega) (by omega) h44)
          refine v_aload C dX1_lookAt_50 rfl ?_
          refine v_iload_n C dX1_lookAt_52 rfl ?_
          refine v_callV (As := [.int (nI c)]) (rest := []) (b := pa i) C (c_X5_look (xl X) (xg X) (mset (mset M va (aI (xg X) 9 f)) fa (.inr (1, [.ref va, .int (bI (covA i pf (tkA pl ph) d c)), .int (bI (seenA i pf (tkA pl ph) L K t d c))]))) (pa i) (ca i) (ka i) (ra i) (pf i) (pl i) (ph i) (cn i) (lk i) c hc (hA2.2.2.2.1 i (by assumption))) pm_X5_look wI_X5_look wS_X5_look wM_X1_54 kX5 ((hA2.2.2.2.1 i g20).2.2.1) ⟨by decide, by decide⟩ ⟨by decide, by decide⟩ (nle rfl) dX1_lookAt_53 rfl (dt1 ?_)
          show V X (rmD 3 0 0) (mset (mset M va (aI (xg X) 9 f)) fa (.inr (1, [.ref va, .int (bI (covA i pf (tkA pl ph) d c)), .int (bI (seenA i pf (tkA pl ph) L K t d c))]))) 0 0 [(7, .ref (pa i)), (0, .ref fa), (1, .int (nI c)), (2, .int (nI dd)), (3, .ref (th t)), (4, .ref al), (5, .int (nI d)), (6, .int (nI i))] 56 [.int (lookI (pf i) (tk (pl i) (ph i)) (lk i) c)]
          rcases hcv0 : covN (pf i) (tk (pl i) (ph i)) c with _ | _
          · have hcv : covN (pf i) (tkA pl ph i) c = false := hcv0
            rw [show lookI (pf i) (tk (pl i) (ph i)) (lk i) c = -6 by rw [lookI, hcv0]; rfl]
            show V X (rmD 3 0 0) (mset (mset M va (aI (xg X) 9 f)) fa (.inr (1, [.ref va, .int (bI (covA i pf (tkA pl ph) d c)), .int (bI (seenA i pf (tkA pl ph) L K t d c))]))) 0 0 [(7, .ref (pa i)), (0, .ref fa), (1, .int (nI c)), (2, .int (nI dd)), (3, .ref (th t)), (4, .ref al), (5, .int (nI d)), (6, .int (nI i))] 56 [.int ((-6))]
            refine v_istore (lv' := [(8, .int ((-6))), (7, .ref (pa i)), (0, .ref fa), (1, .int (nI c)), (2, .int (nI dd)), (3, .ref (th t)), (4, .ref al), (5, .int (nI d)), (6, .int (nI i))]) C dX1_lookAt_56 hN (by decide) rfl ?_
            refine v_iload C dX1_lookAt_58 rfl ?_
            refine v_bipush C dX1_lookAt_60 (v := (-6)) rfl ?_
            refine v_icmp_ne (tgt := 68) C dX1_lookAt_62 (by decide) (fun hbad => absurd hbad (not_not_intro rfl)) (fun h62 => ?_)
            refine v_goto (tgt := 116) C dX1_lookAt_65 (by decide) ?_
            refine v_iinc (lv' := [(6, .int (nI (i + 1))), (8, .int ((-6))), (7, .ref (pa i)), (0, .ref fa), (1, .int (nI c)), (2, .int (nI dd)), (3, .ref (th t)), (4, .ref al), (5, .int (nI d))]) C dX1_lookAt_116 8 rfl (nI_1 _) hN (by decide) rfl ?_
            refine v_goto (tgt := 13) C dX1_lookAt_119 (by decide) ?_
            refine v_sub (lv' := [(0, .ref fa), (1, .int (nI c)), (2, .int (nI dd)), (3, .ref (th t)), (4, .ref al), (5, .int (nI d)), (6, .int (nI (i + 1)))]) [3, 4, 5, 6, 7, 8, 0] rfl ?_
            have e1 : covA (i + 1) pf (tkA pl ph) d c = covA i pf (tkA pl ph) d c := by rw [covA_s]; simp [hday, hcv]
            have e2 : seenA (i + 1) pf (tkA pl ph) L K t d c = seenA i pf (tkA pl ph) L K t d c := by rw [seenA_s]; simp [hday, hcv]
            have e3 : ∀ w, f w = if 3 ≤ w ∧ w < 9 ∧ nearA (i + 1) pf (tkA pl ph) L K t d (w - 3) c = true then oI (minO (ow w) dd) else vf w := fun w => by rw [h2 w, nearA_s]; simp [hday, hcv]
            have q := ih13 (i + 1) f (by omega) e3 (by omega)
            rw [e1, e2] at q
            exact q
          · have hcv : covN (pf i) (tkA pl ph i) c = true := hcv0
            rw [show lookI (pf i) (tk (pl i) (ph i)) (lk i) c = nI (L i c) by rw [lookI, hcv0, (hrow i g20 c hc).2.1]; rfl]
            show V X (rmD 3 0 0) (mset (mset M va (aI (xg X) 9 f)) fa (.inr (1, [.ref va, .int (bI (covA i pf (tkA pl ph) d c)), .int (bI (seenA i pf (tkA pl ph) L K t d c))]))) 0 0 [(7, .ref (pa i)), (0, .ref fa), (1, .int (nI c)), (2, .int (nI dd)), (3, .ref (th t)), (4, .ref al), (5, .int (nI d)), (6, .int (nI i))] 56 [.int (nI (L i c))]
            refine v_istore (lv' := [(8, .int (nI (L i c))), (7, .ref (pa i)), (0, .ref fa), (1, .int (nI c)), (2, .int (nI dd)), (3, .ref (th t)), (4, .ref al), (5, .int (nI d)), (6, .int (nI i))]) C dX1_lookAt_56 hN (by decide) rfl ?_
            refine v_iload C dX1_lookAt_58 rfl ?_
            refine v_bipush C dX1_lookAt_60 (v := (-6)) rfl ?_
            refine v_icmp_ne (tgt := 68) C dX1_lookAt_62 (by decide) (fun h62 => ?_) (fun hbad => absurd hbad (fun q => m6_ne (by omega) q.symm))
            refine v_aload_n C dX1_lookAt_68 rfl ?_
            refine v_iconst C dX1_lookAt_69 (v := 1) rfl ?_
            show V X (rmD 3 0 0) (mset (mset M va (aI (xg X) 9 f)) fa (.inr (1, [.ref va, .int (bI (covA i pf (tkA pl ph) d c)), .int (bI (seenA i pf (tkA pl ph) L K t d c))]))) 0 0 [(8, .int (nI (L i c))), (7, .ref (pa i)), (0, .ref fa), (1, .int (nI c)), (2, .int (nI dd)), (3, .ref (th t)), (4, .ref al), (5, .int (nI d)), (6, .int (nI i))] 70 [.int (bI true), .ref fa]
            refine v_put C kX1 (mset_same _ _ _) 1 (by decide) wF_X1_29 rfl (narrow_b01 (bI_01 _)) (fits_b01 (bI_01 _)) (nle rfl) dX1_lookAt_70 ?_
            show V X (rmD 3 0 0) (mset (mset (mset M va (aI (xg X) 9 f)) fa (.inr (1, [.ref va, .int (bI (covA i pf (tkA pl ph) d c)), .int (bI (seenA i pf (tkA pl ph) L K t d c))]))) fa (.inr (1, [.ref va, .int (bI true), .int (bI (seenA i pf (tkA pl ph) L K t d c))]))) 0 0 [(8, .int (nI (L i c))), (7, .ref (pa i)), (0, .ref fa), (1, .int (nI c)), (2, .int (nI dd)), (3, .ref (th t)), (4, .ref al), (5, .int (nI d)), (6, .int (nI i))] 73 []
            refine v_iload C dX1_lookAt_73 rfl ?_
            refine v_bipush C dX1_lookAt_75 (v := 10) rfl ?_
            refine v_icmp_ge (tgt := 83) C dX1_lookAt_77 (by decide) (fun h77 => ?_) (fun h77 => ?_)
            · have g77 := nI_leN (a := 10) (by decide) (by omega) h77
              have h10 : decide (10 ≤ L i c) = true := decide_eq_true g77
              refine v_aload C dX1_lookAt_83 rfl ?_
              refine v_iload_n C dX1_lookAt_85 rfl ?_
              refine v_callV (As := [.int (nI c)]) (rest := []) (b := pa i) C (c_X5_counting (xl X) (xg X) (mset (mset (mset M va (aI (xg X) 9 f)) fa (.inr (1, [.ref va, .int (bI (covA i pf (tkA pl ph) d c)), .int (bI (seenA i pf (tkA pl ph) L K t d c))]))) fa (.inr (1, [.ref va, .int (bI true), .int (bI (seenA i pf (tkA pl ph) L K t d c))]))) (pa i) (ca i) (ka i) (ra i) (pf i) (pl i) (ph i) (cn i) (lk i) c hc ((hA2.setO (mset_same _ _ _) (by decide) _).2.2.2.1 i (by assumption))) pm_X5_counting wI_X5_counting wS_X5_counting wM_X1_57 kX5 ((mset_ne (cell_ne ((hA2.2.2.2.1 i g20).2.2.1) (mset_same _ _ _) (by simp))).trans ((hA2.2.2.2.1 i g20).2.2.1)) ⟨by decide, by decide⟩ ⟨by decide, by decide⟩ (nle rfl) dX1_lookAt_86 rfl (dt1 ?_)
              show V X (rmD 3 0 0) (mset (mset (mset M va (aI (xg X) 9 f)) fa (.inr (1, [.ref va, .int (bI (covA i pf (tkA pl ph) d c)), .int (bI (seenA i pf (tkA pl ph) L K t d c))]))) fa (.inr (1, [.ref va, .int (bI true), .int (bI (seenA i pf (tkA pl ph) L K t d c))]))) 0 0 [(8, .int (nI (L i c))), (7, .ref (pa i)), (0, .ref fa), (1, .int (nI c)), (2, .int (nI dd)), (3, .ref (th t)), (4, .ref al), (5, .int (nI d)), (6, .int (nI i))] 89 [.int ((cn i) c)]
              rw [hrw.1.1]
              show V X (rmD 3 0 0) (mset (mset (mset M va (aI (xg X) 9 f)) fa (.inr (1, [.ref va, .int (bI (covA i pf (tkA pl ph) d c)), .int (bI (seenA i pf (tkA pl ph) L K t d c))]))) fa (.inr (1, [.ref va, .int (bI true), .int (bI (seenA i pf (tkA pl ph) L K t d c))]))) 0 0 [(8, .int (nI (L i c))), (7, .ref (pa i)), (0, .ref fa), (1, .int (nI c)), (2, .int (nI dd)), (3, .ref (th t)), (4, .ref al), (5, .int (nI d)), (6, .int (nI i))] 89 [.int (oI (K i c))]
              refine v_aload_n C dX1_lookAt_89 rfl ?_
              refine v_callV (As := []) (rest := [.int (oI (K i c))]) (b := th t) C (c_X6_number (xl X) (xg X) (mset (mset (mset M va (aI (xg X) 9 f)) fa (.inr (1, [.ref va, .int (bI (covA i pf (tkA pl ph) d c)), .int (bI (seenA i pf (tkA pl ph) L K t d c))]))) fa (.inr (1, [.ref va, .int (bI true), .int (bI (seenA i pf (tkA pl ph) L K t d c))]))) (th t) (mk t) (dn t) (nI t) ((mset_ne (cell_ne ((hL2.2.2.2 t lt).1) (mset_same _ _ _) (by simp))).trans ((hL2.2.2.2 t lt).1))) pm_X6_number wI_X6_number wS_X6_number wM_X1_60 kX6 ((mset_ne (cell_ne ((hL2.2.2.2 t lt).1) (mset_same _ _ _) (by simp))).trans ((hL2.2.2.2 t lt).1)) ⟨by decide, by decide⟩ ⟨by decide, by decide⟩ (nle rfl) dX1_lookAt_90 rfl (dt1 ?_)
              show V X (rmD 3 0 0) (mset (mset (mset M va (aI (xg X) 9 f)) fa (.inr (1, [.ref va, .int (bI (covA i pf (tkA pl ph) d c)), .int (bI (seenA i pf (tkA pl ph) L K t d c))]))) fa (.inr (1, [.ref va, .int (bI true), .int (bI (seenA i pf (tkA pl ph) L K t d c))]))) 0 0 [(8, .int (nI (L i c))), (7, .ref (pa i)), (0, .ref fa), (1, .int (nI c)), (2, .int (nI dd)), (3, .ref (th t)), (4, .ref al), (5, .int (nI d)), (6, .int (nI i))] 93 [.int (nI t), .int (oI (K i c))]
              refine v_icmp_ne (tgt := 104) C dX1_lookAt_93 (by decide) (fun h93 => ?_) (fun h93 => ?_)
              · have hK : decide (K i c = some t) = false := decide_eq_false (fun q => h93 ((oI_eq hrw.1.2 (by omega)).mpr q))
                refine v_aload_n C dX1_lookAt_104 rfl ?_
                refine v_iconst C dX1_lookAt_105 (v := 3) rfl ?_
                refine v_iload C dX1_lookAt_106 rfl ?_
                refine v_iadd C dX1_lookAt_108 ?_
                refine v_bipush C dX1_lookAt_109 (v := 10) rfl ?_
                refine v_isub C dX1_lookAt_111 ?_
                rw [show (3 : Int32) + nI (L i c) - 10 = nI (3 + (L i c - 10)) by rw [show (3 : Int32) = nI 3 from rfl, show (10 : Int32) = nI 10 from rfl, nI_add, pk_sub (by omega)]; congr 1; omega]
                show V X (rmD 3 0 0) (mset (mset (mset M va (aI (xg X) 9 f)) fa (.inr (1, [.ref va, .int (bI (covA i pf (tkA pl ph) d c)), .int (bI (seenA i pf (tkA pl ph) L K t d c))]))) fa (.inr (1, [.ref va, .int (bI true), .int (bI (seenA i pf (tkA pl ph) L K t d c))]))) 0 0 [(8, .int (nI (L i c))), (7, .ref (pa i)), (0, .ref fa), (1, .int (nI c)), (2, .int (nI dd)), (3, .ref (th t)), (4, .ref al), (5, .int (nI d)), (6, .int (nI i))] 112 [.int (nI (3 + (L i c - 10))), .ref fa]
                refine v_iload_n C dX1_lookAt_112 rfl ?_
                obtain ⟨ow1, how1⟩ : ∃ z, z = (if nearA i pf (tkA pl ph) L K t d (L i c - 10) c = true then minO (ow (3 + (L i c - 10))) dd else ow (3 + (L i c - 10))) := ⟨_, rfl⟩
                have how2 : f (3 + (L i c - 10)) = oI ow1 := by rw [h2, how1, show 3 + (L i c - 10) - 3 = L i c - 10 by omega]; by_cases z : nearA i pf (tkA pl ph) L K t d (L i c - 10) c = true <;> simp [z, show L i c - 10 < 6 by omega, hvf (3 + (L i c - 10)) (by omega) (by omega)] <;> omega
                have how3 : ∀ b, ow1 = some b → b < 100 := fun b hb => by rw [how1] at hb; split at hb <;> first | exact minO_lt (how _ (by omega) (by omega)) hdd hb | exact how _ (by omega) (by omega) b hb
                refine v_callV (As := [.int (nI (3 + (L i c - 10))), .int (nI dd)]) (rest := []) (b := fa) C (c_X1_comeNearer (xl X) (xg X) (mset (mset (mset M va (aI (xg X) 9 f)) fa (.inr (1, [.ref va, .int (bI (covA i pf (tkA pl ph) d c)), .int (bI (seenA i pf (tkA pl ph) L K t d c))]))) fa (.inr (1, [.ref va, .int (bI true), .int (bI (seenA i pf (tkA pl ph) L K t d c))]))) fa va true (seenA i pf (tkA pl ph) L K t d c) f (3 + (L i c - 10)) dd (by omega) (by omega) (by omega) (mset_same _ _ _) ((mset_ne (Ne.symm hfv)).trans hva2) ow1 how2 how3) pm_X1_comeNearer wI_X1_comeNearer wS_X1_comeNearer wM_X1_63 kX1 (mset_same _ _ _) ⟨by decide, by decide⟩ ⟨by decide, by decide⟩ (nle rfl) dX1_lookAt_113 rfl ?_
                rintro _ _ ⟨rfl, rfl⟩
                show V X (rmD 3 0 0) (mset (mset (mset (mset M va (aI (xg X) 9 f)) fa (.inr (1, [.ref va, .int (bI (covA i pf (tkA pl ph) d c)), .int (bI (seenA i pf (tkA pl ph) L K t d c))]))) fa (.inr (1, [.ref va, .int (bI true), .int (bI (seenA i pf (tkA pl ph) L K t d c))]))) va (aI (xg X) 9 (upd f (3 + (L i c - 10)) (oI (minO ow1 dd))))) 0 0 [(8, .int (nI (L i c))), (7, .ref (pa i)), (0, .ref fa), (1, .int (nI c)), (2, .int (nI dd)), (3, .ref (th t)), (4, .ref al), (5, .int (nI d)), (6, .int (nI i))] 116 []
                refine v_iinc (lv' := [(6, .int (nI (i + 1))), (8, .int (nI (L i c))), (7, .ref (pa i)), (0, .ref fa), (1, .int (nI c)), (2, .int (nI dd)), (3, .ref (th t)), (4, .ref al), (5, .int (nI d))]) C dX1_lookAt_116 8 rfl (nI_1 _) hN (by decide) rfl ?_
                refine v_goto (tgt := 13) C dX1_lookAt_119 (by decide) ?_
                refine v_sub (lv' := [(0, .ref fa), (1, .int (nI c)), (2, .int (nI dd)), (3, .ref (th t)), (4, .ref al), (5, .int (nI d)), (6, .int (nI (i + 1)))]) [3, 4, 5, 6, 7, 8, 0] rfl ?_
                have e1 : covA (i + 1) pf (tkA pl ph) d c = true := by rw [covA_s]; simp [hday, hcv]
                have e2 : seenA (i + 1) pf (tkA pl ph) L K t d c = seenA i pf (tkA pl ph) L K t d c := by rw [seenA_s]; simp [hday, hcv, h10, hK]
                have e3 : ∀ w, (upd f (3 + (L i c - 10)) (oI (minO ow1 dd))) w = if 3 ≤ w ∧ w < 9 ∧ nearA (i + 1) pf (tkA pl ph) L K t d (w - 3) c = true then oI (minO (ow w) dd) else vf w := fun w => by
                  rw [nearA_s, hday, hcv, h10, hK]
                  by_cases q : w = 3 + (L i c - 10)
                  · subst q
                    rw [if_pos ⟨by omega, by omega, by rw [decide_eq_true (show L i c = 10 + (3 + (L i c - 10) - 3) by omega)]; simp⟩]
                    simp only [upd, if_true]
                    rw [how1]
                    split
                    · rw [minO_twice]
                    · rfl
                  · rw [show ∀ z, upd f (3 + (L i c - 10)) z w = f w from fun z => by simp [upd, q], h2 w]
                    by_cases q2 : 3 ≤ w
                    · simp [show ¬ L i c = 10 + (w - 3) by omega]
                    · rw [if_neg (fun z => q2 z.1), if_neg (fun z => q2 z.1)]
                have q := ih13 (i + 1) (upd f (3 + (L i c - 10)) (oI (minO ow1 dd))) (by omega) e3 (by omega)
                rw [e1, e2] at q
                simp only [mset_mset]
                rw [mset_comm (a := fa) (b := va) hfv]
                simp only [mset_mset]
                exact q
              · have hK : decide (K i c = some t) = true := decide_eq_true ((oI_eq hrw.1.2 (by omega)).mp h93)
                refine v_aload_n C dX1_lookAt_96 rfl ?_
                refine v_iconst C dX1_lookAt_97 (v := 1) rfl ?_
                show V X (rmD 3 0 0) (mset (mset (mset M va (aI (xg X) 9 f)) fa (.inr (1, [.ref va, .int (bI (covA i pf (tkA pl ph) d c)), .int (bI (seenA i pf (tkA pl ph) L K t d c))]))) fa (.inr (1, [.ref va, .int (bI true), .int (bI (seenA i pf (tkA pl ph) L K t d c))]))) 0 0 [(8, .int (nI (L i c))), (7, .ref (pa i)), (0, .ref fa), (1, .int (nI c)), (2, .int (nI dd)), (3, .ref (th t)), (4, .ref al), (5, .int (nI d)), (6, .int (nI i))] 98 [.int (bI true), .ref fa]
                refine v_put C kX1 (mset_same _ _ _) 2 (by decide) wF_X1_25 rfl (narrow_b01 (bI_01 _)) (fits_b01 (bI_01 _)) (nle rfl) dX1_lookAt_98 ?_
                show V X (rmD 3 0 0) (mset (mset (mset (mset M va (aI (xg X) 9 f)) fa (.inr (1, [.ref va, .int (bI (covA i pf (tkA pl ph) d c)), .int (bI (seenA i pf (tkA pl ph) L K t d c))]))) fa (.inr (1, [.ref va, .int (bI true), .int (bI (seenA i pf (tkA pl ph) L K t d c))]))) fa (.inr (1, [.ref va, .int (bI true), .int (bI true)]))) 0 0 [(8, .int (nI (L i c))), (7, .ref (pa i)), (0, .ref fa), (1, .int (nI c)), (2, .int (nI dd)), (3, .ref (th t)), (4, .ref al), (5, .int (nI d)), (6, .int (nI i))] 101 []
                refine v_goto (tgt := 116) C dX1_lookAt_101 (by decide) ?_
                refine v_iinc (lv' := [(6, .int (nI (i + 1))), (8, .int (nI (L i c))), (7, .ref (pa i)), (0, .ref fa), (1, .int (nI c)), (2, .int (nI dd)), (3, .ref (th t)), (4, .ref al), (5, .int (nI d))]) C dX1_lookAt_116 8 rfl (nI_1 _) hN (by decide) rfl ?_
                refine v_goto (tgt := 13) C dX1_lookAt_119 (by decide) ?_
                refine v_sub (lv' := [(0, .ref fa), (1, .int (nI c)), (2, .int (nI dd)), (3, .ref (th t)), (4, .ref al), (5, .int (nI d)), (6, .int (nI (i + 1)))]) [3, 4, 5, 6, 7, 8, 0] rfl ?_
                have e1 : covA (i + 1) pf (tkA pl ph) d c = true := by rw [covA_s]; simp [hday, hcv]
                have e2 : seenA (i + 1) pf (tkA pl ph) L K t d c = true := by rw [seenA_s]; simp [hday, hcv, h10, hK]
                have e3 : ∀ w, f w = if 3 ≤ w ∧ w < 9 ∧ nearA (i + 1) pf (tkA pl ph) L K t d (w - 3) c = true then oI (minO (ow w) dd) else vf w := fun w => by rw [h2 w, nearA_s]; simp [hday, hcv, h10, hK]
                have q := ih13 (i + 1) f (by omega) e3 (by omega)
                rw [e1, e2] at q
                simp only [mset_mset]
                exact q
            · have h10 : decide (10 ≤ L i c) = false := decide_eq_false (fun q => h77 (nI_le (a := 10) q (by omega)))
              refine v_goto (tgt := 116) C dX1_lookAt_80 (by decide) ?_
              refine v_iinc (lv' := [(6, .int (nI (i + 1))), (8, .int (nI (L i c))), (7, .ref (pa i)), (0, .ref fa), (1, .int (nI c)), (2, .int (nI dd)), (3, .ref (th t)), (4, .ref al), (5, .int (nI d))]) C dX1_lookAt_116 8 rfl (nI_1 _) hN (by decide) rfl ?_
              refine v_goto (tgt := 13) C dX1_lookAt_119 (by decide) ?_
              refine v_sub (lv' := [(0, .ref fa), (1, .int (nI c)), (2, .int (nI dd)), (3, .ref (th t)), (4, .ref al), (5, .int (nI d)), (6, .int (nI (i + 1)))]) [3, 4, 5, 6, 7, 8, 0] rfl ?_
              have e1 : covA (i + 1) pf (tkA pl ph) d c = true := by rw [covA_s]; simp [hday, hcv]
              have e2 : seenA (i + 1) pf (tkA pl ph) L K t d c = seenA i pf (tkA pl ph) L K t d c := by rw [seenA_s]; simp [hday, hcv, h10]
              have e3 : ∀ w, f w = if 3 ≤ w ∧ w < 9 ∧ nearA (i + 1) pf (tkA pl ph) L K t d (w - 3) c = true then oI (minO (ow w) dd) else vf w := fun w => by rw [h2 w, nearA_s]; simp [hday, hcv, h10]
              have q := ih13 (i + 1) f (by omega) e3 (by omega)
              rw [e1, e2] at q
              simp only [mset_mset]
              exact q
        · have hday : decide (pf i 2 ≤ d) = false := decide_eq_false (fun q => h44 (nI_le q (by omega)))
          refine v_goto (tgt := 116) C dX1_lookAt_47 (by decide) ?_
          refine v_iinc (lv' := [(6, .int (nI (i + 1))), (7, .ref (pa i)), (0, .ref fa), (1, .int (nI c)), (2, .int (nI dd)), (3, .ref (th t)), (4, .ref al), (5, .int (nI d))]) C dX1_lookAt_116 7 rfl (nI_1 _) hN (by decide) rfl ?_
          refine v_goto (tgt := 13) C dX1_lookAt_119 (by decide) ?_
          refine v_sub (lv' := [(0, .ref fa), (1, .int (nI c)), (2, .int (nI dd)), (3, .ref (th t)), (4, .ref al), (5, .int (nI d)), (6, .int (nI (i + 1)))]) [2, 3, 4, 5, 6, 7, 0] rfl ?_
          have e1 : covA (i + 1) pf (tkA pl ph) d c = covA i pf (tkA pl ph) d c := by rw [covA_s]; simp [hday]
          have e2 : seenA (i + 1) pf (tkA pl ph) L K t d c = seenA i pf (tkA pl ph) L K t d c := by rw [seenA_s]; simp [hday]
          have e3 : ∀ w, f w = if 3 ≤ w ∧ w < 9 ∧ nearA (i + 1) pf (tkA pl ph) L K t d (w - 3) c = true then oI (minO (ow w) dd) else vf w := fun w => by rw [h2 w, nearA_s]; simp [hday]
          have q := ih13 (i + 1) f (by omega) e3 (by omega)
          rw [e1, e2] at q
          exact q
  have q := lp13 (_ + 1) 0 vf (Nat.zero_le _) (fun w => by rw [if_neg (fun z => absurd z.2.2 (by simp [nearA, anyB]))]) (Nat.lt_succ_self _)
  rw [mset_id hV] at q
  rw [mset_mset]
  exact q


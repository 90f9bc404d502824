/-! Lines. -/
def pwL (b : Int64) : Nat → Int64
  | 0 => 1
  | n + 1 => pwL b n * b
theorem hasLine_N {m : Nat → Nat} (h : okM m) {d : Nat} (hd : d < 2 ^ 31) : (!decide (nI (m 8) = 8) && qin (nI d) (nI (m 6)) (nI (m 7))) = faceN m d := by
  unfold faceN
  rw [there_N h hd]
  congr 2
  unfold okM at h
  exact decide_eq_decide.mpr (nI_eq (b := 8) (by omega) (by decide))
theorem may_N {m : Nat → Nat} (h : okM m) {c : Nat} (hc : c < 96) : (!liesN m (c % 12) (c / 12) && ((decide ((c % 12 - m 0) + (m 0 - c % 12) = 0) || decide ((c / 12 - m 1) + (m 1 - c / 12) = 0)) || decide ((c % 12 - m 0) + (m 0 - c % 12) = (c / 12 - m 1) + (m 1 - c / 12)))) = mayN m c := by
  have hl : liesN m (m 0) (m 1) = true := by unfold okM at h; unfold liesN; simp only [Bool.and_eq_true, decide_eq_true_eq]; omega
  unfold okM at h
  rw [Bool.eq_iff_iff]
  unfold mayN
  rw [anyB_iff]
  simp only [onN, onK, Bool.and_eq_true, Bool.not_eq_true', Bool.or_eq_true, decide_eq_true_eq, anyB_iff]
  constructor
  · rintro ⟨h1, h2⟩
    have hne : ¬ (c % 12 = m 0 ∧ c / 12 = m 1) := fun q => by rw [q.1, q.2, hl] at h1; cases h1
    have key : ∀ w k, w < 8 → k < 12 → (c % 12 : Nat) = lx m w k → (c / 12 : Nat) = ly m w k → ∃ i, i < 8 ∧ (∃ j, j < 12 ∧ lmv m i j = some c) ∧ liesN m (c % 12) (c / 12) = false := fun w k hw hk e1 e2 => ⟨w, hw, ⟨k, hk, lmv_of hc e1 e2⟩, h1⟩
    rcases Nat.lt_trichotomy (c % 12) (m 0) with q | q | q <;> rcases Nat.lt_trichotomy (c / 12) (m 1) with r | r | r
    · exact key 7 (m 0 - c % 12) (by decide) (by omega) (by simp [lx, dx8]; omega) (by simp [ly, dy8]; omega)
    · exact key 6 (m 0 - c % 12) (by decide) (by omega) (by simp [lx, dx8]; omega) (by simp [ly, dy8]; omega)
    · exact key 5 (m 0 - c % 12) (by decide) (by omega) (by simp [lx, dx8]; omega) (by simp [ly, dy8]; omega)
    · exact key 0 (m 1 - c / 12) (by decide) (by omega) (by simp [lx, dx8]; omega) (by simp [ly, dy8]; omega)
    · exact absurd ⟨q, r⟩ hne
    · exact key 4 (c / 12 - m 1) (by decide) (by omega) (by simp [lx, dx8]; omega) (by simp [ly, dy8]; omega)
    · exact key 1 (c % 12 - m 0) (by decide) (by omega) (by simp [lx, dx8]; omega) (by simp [ly, dy8]; omega)
    · exact key 2 (c % 12 - m 0) (by decide) (by omega) (by simp [lx, dx8]; omega) (by simp [ly, dy8]; omega)
    · exact key 3 (c % 12 - m 0) (by decide) (by omega) (by simp [lx, dx8]; omega) (by simp [ly, dy8]; omega)
  · rintro ⟨w, hw, ⟨k, hk, hm⟩, h1⟩
    refine ⟨h1, ?_⟩
    obtain ⟨e1, e2, -⟩ := lmv_xy hm
    unfold lx at e1
    unfold ly at e2
    have hx := dx8_1 w
    have hy := dy8_1 w
    generalize dx8 w = a at *
    generalize dy8 w = b at *
    rcases (show a = -1 ∨ a = 0 ∨ a = 1 by omega) with rfl | rfl | rfl <;> rcases (show b = -1 ∨ b = 0 ∨ b = 1 by omega) with rfl | rfl | rfl <;> omega
set_option maxHeartbeats 4000000 in
set_option maxRecDepth 100000 in
theorem c_X4_cell (l : Launch) (g : Gm) (M : Mem) (li xr : Nat) (cv mv : Int32) (f : Nat → Int32) (hI : M li = some (.inr (4, [.ref xr, .int cv, .int mv]))) (hX : M xr = some (aI g 96 f)) : Ct l g yX4_cell cX4_cell 1 (some .int) 0 0 0 [.ref li] M (fun v N => v = some (.int cv) ∧ N = M) := by
  refine Ct.of (by decide) (Nat.le_of_ble_eq_true rfl) ?_
  intro X hXl hXg hN C E
  subst hXl; subst hXg
  show V X (rmD 0 0 0) M 0 0 [(0, .ref li)] 0 []
  refine v_aload_n C dX4_cell_0 rfl ?_
  refine v_get C kX4 hI 1 (by decide) wF_X4_15 rfl dX4_cell_1 ?_
  exact v_iret C E dX4_cell_4 (nle rfl) (nle rfl) ⟨rfl, rfl⟩

set_option maxHeartbeats 4000000 in
set_option maxRecDepth 100000 in
theorem c_X4_most (l : Launch) (g : Gm) (M : Mem) (li xr : Nat) (cv mv : Int32) (f : Nat → Int32) (hI : M li = some (.inr (4, [.ref xr, .int cv, .int mv]))) (hX : M xr = some (aI g 96 f)) : Ct l g yX4_most cX4_most 1 (some .int) 0 0 0 [.ref li] M (fun v N => v = some (.int mv) ∧ N = M) := by
  refine Ct.of (by decide) (Nat.le_of_ble_eq_true rfl) ?_
  intro X hXl hXg hN C E
  subst hXl; subst hXg
  show V X (rmD 0 0 0) M 0 0 [(0, .ref li)] 0 []
  refine v_aload_n C dX4_most_0 rfl ?_
  refine v_get C kX4 hI 2 (by decide) wF_X4_19 rfl dX4_most_1 ?_
  exact v_iret C E dX4_most_4 (nle rfl) (nle rfl) ⟨rfl, rfl⟩

set_option maxHeartbeats 4000000 in
set_option maxRecDepth 100000 in
theorem c_X4_drawFrom (l : Launch) (g : Gm) (M : Mem) (li xr : Nat) (cv mv : Int32) (f : Nat → Int32) (hI : M li = some (.inr (4, [.ref xr, .int cv, .int mv]))) (hX : M xr = some (aI g 96 f)) (la ta : Nat) (th mk dn : Nat → Nat) (nT : Nat) (m : Nat → Nat → Nat) (lo hi : Nat → Int64) (hL : LandW g M la ta th mk dn nT m lo hi) (t : Nat) (lt : t < nT) (h8 : m t 8 < 8) : Ct l g yX4_drawFrom cX4_drawFrom 6 none 2 0 0 [.ref li, .ref (th t)] M (fun v N => v = none ∧ ∃ f', N = mset M xr (aI g 96 f') ∧ ∀ c, c < 96 → f' c = if onN (m t) (m t 8) c then f c + 1 else f c) := by
  refine Ct.of (by decide) (Nat.le_of_ble_eq_true rfl) ?_
  intro X hXl hXg hN C E
  subst hXl; subst hXg
  show V X (rmD 2 0 0) M 0 0 [(0, .ref li), (1, .ref (th t))] 0 []
  have hok := (hL.2.2.2 t lt).2.2.2
  have hq : qin (nI (m t 8)) 0 7 = true := by rw [show qin (nI (m t 8)) 0 7 = qin (nI (m t 8)) (nI 0) (nI 7) from rfl, qin_N (by omega) (by decide) (by decide)]; simp; omega
  refine v_aload_n C dX4_drawFrom_0 rfl ?_
  refine v_bipush C dX4_drawFrom_1 (v := 8) rfl ?_
  refine v_callV (As := [.int 8]) (rest := []) (b := th t) C (c_X6_mark (xl X) (xg X) M (th t) (mk t) (dn t) (nI t) (fun w => nI (m t w)) 8 (by decide) ((hL.2.2.2 t lt).1) ((hL.2.2.2 t lt).2.1)) pm_X6_mark wI_X6_mark wS_X6_mark wM_X4_42 kX6 ((hL.2.2.2 t lt).1) ⟨by decide, by decide⟩ ⟨by decide, by decide⟩ (nle rfl) dX4_drawFrom_3 rfl (dt1 ?_)
  show V X (rmD 2 0 0) M 0 0 [(0, .ref li), (1, .ref (th t))] 6 [.int (nI (m t 8))]
  refine v_istore_n (lv' := [(2, .int (nI (m t 8))), (0, .ref li), (1, .ref (th t))]) C dX4_drawFrom_6 hN (by decide) rfl ?_
  refine v_iload_n C dX4_drawFrom_7 rfl ?_
  refine v_iconst C dX4_drawFrom_8 (v := 0) rfl ?_
  refine v_bipush C dX4_drawFrom_9 (v := 7) rfl ?_
  refine v_callSN (As := [.int (nI (m t 8)), .int 0, .int 7]) (rest := []) C (c_X9_isWithin (xl X) (xg X) (nI (m t 8)) 0 7 M) pm_X9_isWithin wT_X9_isWithin wMN_X4_46 ⟨by decide, by decide⟩ ⟨by decide, by decide⟩ (nle rfl) dX4_drawFrom_11 rfl (dt1 ?_)
  show V X (rmD 2 0 0) M 0 0 [(2, .int (nI (m t 8))), (0, .ref li), (1, .ref (th t))] 14 [.int (bI (qin (nI (m t 8)) 0 7))]
  refine v_ifb_ne (tgt := 18) C dX4_drawFrom_14 (by decide) (fun h14 => ?_) (fun hbad => absurd hbad (by rw [hq]; decide))
  refine v_aload_n C dX4_drawFrom_18 rfl ?_
  refine v_iconst C dX4_drawFrom_19 (v := 0) rfl ?_
  refine v_callV (As := [.int 0]) (rest := []) (b := th t) C (c_X6_mark (xl X) (xg X) M (th t) (mk t) (dn t) (nI t) (fun w => nI (m t w)) 0 (by decide) ((hL.2.2.2 t lt).1) ((hL.2.2.2 t lt).2.1)) pm_X6_mark wI_X6_mark wS_X6_mark wM_X4_42 kX6 ((hL.2.2.2 t lt).1) ⟨by decide, by decide⟩ ⟨by decide, by decide⟩ (nle rfl) dX4_drawFrom_20 rfl (dt1 ?_)
  show V X (rmD 2 0 0) M 0 0 [(2, .int (nI (m t 8))), (0, .ref li), (1, .ref (th t))] 23 [.int (nI (m t 0))]
  refine v_istore_n (lv' := [(3, .int (nI (m t 0))), (2, .int (nI (m t 8))), (0, .ref li), (1, .ref (th t))]) C dX4_drawFrom_23 hN (by decide) rfl ?_
  refine v_aload_n C dX4_drawFrom_24 rfl ?_
  refine v_iconst C dX4_drawFrom_25 (v := 1) rfl ?_
  refine v_callV (As := [.int 1]) (rest := []) (b := th t) C (c_X6_mark (xl X) (xg X) M (th t) (mk t) (dn t) (nI t) (fun w => nI (m t w)) 1 (by decide) ((hL.2.2.2 t lt).1) ((hL.2.2.2 t lt).2.1)) pm_X6_mark wI_X6_mark wS_X6_mark wM_X4_42 kX6 ((hL.2.2.2 t lt).1) ⟨by decide, by decide⟩ ⟨by decide, by decide⟩ (nle rfl) dX4_drawFrom_26 rfl (dt1 ?_)
  show V X (rmD 2 0 0) M 0 0 [(3, .int (nI (m t 0))), (2, .int (nI (m t 8))), (0, .ref li), (1, .ref (th t))] 29 [.int (nI (m t 1))]
  refine v_istore (lv' := [(4, .int (nI (m t 1))), (3, .int (nI (m t 0))), (2, .int (nI (m t 8))), (0, .ref li), (1, .ref (th t))]) C dX4_drawFrom_29 hN (by decide) rfl ?_
  refine v_iconst C dX4_drawFrom_31 (v := 0) rfl ?_
  refine v_istore (lv' := [(5, .int 0), (4, .int (nI (m t 1))), (3, .int (nI (m t 0))), (2, .int (nI (m t 8))), (0, .ref li), (1, .ref (th t))]) C dX4_drawFrom_32 hN (by decide) rfl ?_
  refine v_sub (lv' := [(0, .ref li), (1, .ref (th t)), (2, .int (nI (m t 8))), (3, .int (nI (m t 0))), (4, .int (nI (m t 1))), (5, .int 0)]) [4, 5, 3, 2, 1, 0] rfl ?_
  have lp34 : ∀ (mm : Nat) (k : Nat) (f1 : Nat → Int32) (h1 : k ≤ 12) (h2 : ∀ c, c < 96 → f1 c = if onK (m t) (m t 8) k c then f c + 1 else f c), 12 - k < mm → V X (rmD 2 0 0) (mset M xr (aI (xg X) 96 f1)) 0 0 [(0, .ref li), (1, .ref (th t)), (2, .int (nI (m t 8))), (3, .int (Int32.ofInt (lx (m t) (m t 8) k))), (4, .int (Int32.ofInt (ly (m t) (m t 8) k))), (5, .int (nI k))] 34 [] := by
    intro mm
    induction mm with
    | zero => intro k f1 h1 h2 hmu; exact absurd hmu (Nat.not_lt_zero _)
    | succ mm ih34 =>
      intro k f1 h1 h2 hmu
      have hL2 := hL.setI hX (by decide) (aI (xg X) 96 f1)
      refine v_iload C dX4_drawFrom_34 rfl ?_
      refine v_bipush C dX4_drawFrom_36 (v := 12) rfl ?_
      refine v_icmp_ge (tgt := 99) C dX4_drawFrom_38 (by decide) (fun h38 => ?_) (fun h38 => ?_)
      · exact v_vret C E dX4_drawFrom_99 (nle rfl) (nle rfl) ⟨rfl, f1, rfl, fun c hc => by rw [h2 c hc]; first | rw [onK_far hok h1 (lmv_off hok (by omega) h47)] | rw [show k = 12 by have := nI_leN (a := 12) (by decide) (by omega) h38; omega]; rfl⟩
      · have g38 := nI_nleN (a := 12) (by decide) (by omega) h38
        refine v_iload_n C dX4_drawFrom_41 rfl ?_
        refine v_iload C dX4_drawFrom_42 rfl ?_
        refine v_callSN (As := [.int (Int32.ofInt (lx (m t) (m t 8) k)), .int (Int32.ofInt (ly (m t) (m t 8) k))]) (rest := []) C (c_X9_isOnLand (xl X) (xg X) (Int32.ofInt (lx (m t) (m t 8) k)) (Int32.ofInt (ly (m t) (m t 8) k)) (mset M xr (aI (xg X) 96 f1))) pm_X9_isOnLand wT_X9_isOnLand wMN_X4_50 ⟨by decide, by decide⟩ ⟨by decide, by decide⟩ (nle rfl) dX4_drawFrom_44 rfl (dt1 ?_)
        show V X (rmD 2 0 0) (mset M xr (aI (xg X) 96 f1)) 0 0 [(0, .ref li), (1, .ref (th t)), (2, .int (nI (m t 8))), (3, .int (Int32.ofInt (lx (m t) (m t 8) k))), (4, .int (Int32.ofInt (ly (m t) (m t 8) k))), (5, .int (nI k))] 47 [.int (bI (qin (Int32.ofInt (lx (m t) (m t 8) k)) 0 11 && qin (Int32.ofInt (ly (m t) (m t 8) k)) 0 7))]
        refine v_ifb_eq (tgt := 99) C dX4_drawFrom_47 (by decide) (fun h47 => ?_) (fun h47 => ?_)
        · exact v_vret C E dX4_drawFrom_99 (nle rfl) (nle rfl) ⟨rfl, f1, rfl, fun c hc => by rw [h2 c hc]; first | rw [onK_far hok h1 (lmv_off hok (by omega) h47)] | rw [show k = 12 by have := nI_leN (a := 12) (by decide) (by omega) h38; omega]; rfl⟩
        · obtain ⟨c1, hc1, hlm, e1, ex, ey⟩ := lmv_on hok (by omega) h47
          refine v_aload_n C dX4_drawFrom_50 rfl ?_
          refine v_iload_n C dX4_drawFrom_51 rfl ?_
          refine v_iload C dX4_drawFrom_52 rfl ?_
          refine v_callV (As := [.int (Int32.ofInt (lx (m t) (m t 8) k)), .int (Int32.ofInt (ly (m t) (m t 8) k))]) (rest := []) (b := th t) C (c_X6_liesOn (xl X) (xg X) (mset M xr (aI (xg X) 96 f1)) (th t) (mk t) (dn t) (nI t) (fun w => nI (m t w)) (Int32.ofInt (lx (m t) (m t 8) k)) (Int32.ofInt (ly (m t) (m t 8) k)) ((hL2.2.2.2 t lt).1) ((hL2.2.2.2 t lt).2.1)) pm_X6_liesOn wI_X6_liesOn wS_X6_liesOn wM_X4_54 kX6 ((hL2.2.2.2 t lt).1) ⟨by decide, by decide⟩ ⟨by decide, by decide⟩ (nle rfl) dX4_drawFrom_54 rfl (dt1 ?_)
          show V X (rmD 2 0 0) (mset M xr (aI (xg X) 96 f1)) 0 0 [(0, .ref li), (1, .ref (th t)), (2, .int (nI (m t 8))), (3, .int (Int32.ofInt (lx (m t) (m t 8) k))), (4, .int (Int32.ofInt (ly (m t) (m t 8) k))), (5, .int (nI k))] 57 [.int (bI (lies (fun w => nI (m t w)) (Int32.ofInt (lx (m t) (m t 8) k)) (Int32.ofInt (ly (m t) (m t 8) k))))]
          rw [show lies (fun w => nI (m t w)) (Int32.ofInt (lx (m t) (m t 8) k)) (Int32.ofInt (ly (m t) (m t 8) k)) = liesN (m t) (c1 % 12) (c1 / 12) by rw [ex, ey]; exact lies_N hok (by omega) (by omega)]
          show V X (rmD 2 0 0) (mset M xr (aI (xg X) 96 f1)) 0 0 [(0, .ref li), (1, .ref (th t)), (2, .int (nI (m t 8))), (3, .int (Int32.ofInt (lx (m t) (m t 8) k))), (4, .int (Int32.ofInt (ly (m t) (m t 8) k))), (5, .int (nI k))] 57 [.int (bI (liesN (m t) (c1 % 12) (c1 / 12)))]
          refine v_ifb_ne (tgt := 75) C dX4_drawFrom_57 (by decide) (fun h57 => ?_) (fun h57 => ?_)
          · refine v_iload_n C dX4_drawFrom_75 rfl ?_
            refine v_getE C wFN_X4_61 dX4_drawFrom_76 ?_
            refine v_iload_n C dX4_drawFrom_79 rfl ?_
            refine v_ialdE C (vp_in_nI h8 (by decide)) dX4_drawFrom_80 ?_
            refine v_iadd C dX4_drawFrom_81 ?_
            rw [nI_clamp (n := m t 8) (by omega), lx_step h8]
            show V X (rmD 2 0 0) (mset M xr (aI (xg X) 96 f1)) 0 0 [(0, .ref li), (1, .ref (th t)), (2, .int (nI (m t 8))), (3, .int (Int32.ofInt (lx (m t) (m t 8) k))), (4, .int (Int32.ofInt (ly (m t) (m t 8) k))), (5, .int (nI k))] 82 [.int (Int32.ofInt (lx (m t) (m t 8) (k + 1)))]
            refine v_istore_n (lv' := [(3, .int (Int32.ofInt (lx (m t) (m t 8) (k + 1)))), (0, .ref li), (1, .ref (th t)), (2, .int (nI (m t 8))), (4, .int (Int32.ofInt (ly (m t) (m t 8) k))), (5, .int (nI k))]) C dX4_drawFrom_82 hN (by decide) rfl ?_
            refine v_iload C dX4_drawFrom_83 rfl ?_
            refine v_getS C wFN_X4_64 dX4_drawFrom_85 ?_
            refine v_iload_n C dX4_drawFrom_88 rfl ?_
            refine v_ialdS C (vp_in_nI h8 (by decide)) dX4_drawFrom_89 ?_
            refine v_iadd C dX4_drawFrom_90 ?_
            rw [nI_clamp (n := m t 8) (by omega), ly_step h8]
            show V X (rmD 2 0 0) (mset M xr (aI (xg X) 96 f1)) 0 0 [(3, .int (Int32.ofInt (lx (m t) (m t 8) (k + 1)))), (0, .ref li), (1, .ref (th t)), (2, .int (nI (m t 8))), (4, .int (Int32.ofInt (ly (m t) (m t 8) k))), (5, .int (nI k))] 91 [.int (Int32.ofInt (ly (m t) (m t 8) (k + 1)))]
            refine v_istore (lv' := [(4, .int (Int32.ofInt (ly (m t) (m t 8) (k + 1)))), (3, .int (Int32.ofInt (lx (m t) (m t 8) (k + 1)))), (0, .ref li), (1, .ref (th t)), (2, .int (nI (m t 8))), (5, .int (nI k))]) C dX4_drawFrom_91 hN (by decide) rfl ?_
            refine v_iinc (lv' := [(5, .int (nI (k + 1))), (4, .int (Int32.ofInt (ly (m t) (m t 8) (k + 1)))), (3, .int (Int32.ofInt (lx (m t) (m t 8) (k + 1)))), (0, .ref li), (1, .ref (th t)), (2, .int (nI (m t 8)))]) C dX4_drawFrom_93 5 rfl (nI_1 _) hN (by decide) rfl ?_
            refine v_goto (tgt := 34) C dX4_drawFrom_96 (by decide) ?_
            refine v_sub (lv' := [(0, .ref li), (1, .ref (th t)), (2, .int (nI (m t 8))), (3, .int (Int32.ofInt (lx (m t) (m t 8) (k + 1)))), (4, .int (Int32.ofInt (ly (m t) (m t 8) (k + 1)))), (5, .int (nI (k + 1)))]) [3, 4, 5, 2, 1, 0] rfl ?_
            refine ih34 (k + 1) f1 (by omega) (fun c hc => ?_) (by omega)
            rw [h2 c hc, onK_step h8 hlm]
            by_cases q : c = c1
            · subst q; rw [if_pos rfl, onK_new h8 hlm, h57]; rfl
            · rw [if_neg q]
          · refine v_aload_n C dX4_drawFrom_60 rfl ?_
            refine v_get C kX4 ((mset_ne (cell_ne hI hX (by simp))).trans hI) 0 (by decide) wF_X4_9 rfl dX4_drawFrom_61 ?_
            refine v_iload_n C dX4_drawFrom_64 rfl ?_
            refine v_iload C dX4_drawFrom_65 rfl ?_
            refine v_callSN (As := [.int (Int32.ofInt (lx (m t) (m t 8) k)), .int (Int32.ofInt (ly (m t) (m t 8) k))]) (rest := [.ref xr]) C (c_X9_cellOf (xl X) (xg X) (Int32.ofInt (lx (m t) (m t 8) k)) (Int32.ofInt (ly (m t) (m t 8) k)) (mset M xr (aI (xg X) 96 f1))) pm_X9_cellOf wT_X9_cellOf wMN_X4_57 ⟨by decide, by decide⟩ ⟨by decide, by decide⟩ (nle rfl) dX4_drawFrom_67 rfl (dt1 ?_)
            show V X (rmD 2 0 0) (mset M xr (aI (xg X) 96 f1)) 0 0 [(0, .ref li), (1, .ref (th t)), (2, .int (nI (m t 8))), (3, .int (Int32.ofInt (lx (m t) (m t 8) k))), (4, .int (Int32.ofInt (ly (m t) (m t 8) k))), (5, .int (nI k))] 70 [.int (12 * (Int32.ofInt (ly (m t) (m t 8) k)) + (Int32.ofInt (lx (m t) (m t 8) k))), .ref xr]
            rw [e1]
            show V X (rmD 2 0 0) (mset M xr (aI (xg X) 96 f1)) 0 0 [(0, .ref li), (1, .ref (th t)), (2, .int (nI (m t 8))), (3, .int (Int32.ofInt (lx (m t) (m t 8) k))), (4, .int (Int32.ofInt (ly (m t) (m t 8) k))), (5, .int (nI k))] 70 [.int (nI c1), .ref xr]
            refine v_dup2 C dX4_drawFrom_70 rfl rfl ?_
            refine v_iald C (mset_same _ _ _) (vp_in_nI hc1 (by decide)) dX4_drawFrom_71 ?_
            refine v_iconst C dX4_drawFrom_72 (v := 1) rfl ?_
            refine v_iadd C dX4_drawFrom_73 ?_
            refine v_iast C (mset_same _ _ _) (vp_in_nI hc1 (by decide)) dX4_drawFrom_74 ?_
            show V X (rmD 2 0 0) (mset (mset M xr (aI (xg X) 96 f1)) xr (aI (xg X) 96 (upd f1 (nI c1 : Int32).toNatClampNeg ((f1 (nI c1 : Int32).toNatClampNeg) + 1)))) 0 0 [(0, .ref li), (1, .ref (th t)), (2, .int (nI (m t 8))), (3, .int (Int32.ofInt (lx (m t) (m t 8) k))), (4, .int (Int32.ofInt (ly (m t) (m t 8) k))), (5, .int (nI k))] 75 []
            refine v_iload_n C dX4_drawFrom_75 rfl ?_
            refine v_getE C wFN_X4_61 dX4_drawFrom_76 ?_
            refine v_iload_n C dX4_drawFrom_79 rfl ?_
            refine v_ialdE C (vp_in_nI h8 (by decide)) dX4_drawFrom_80 ?_
            refine v_iadd C dX4_drawFrom_81 ?_
            rw [nI_clamp (n := m t 8) (by omega), lx_step h8]
            show V X (rmD 2 0 0) (mset (mset M xr (aI (xg X) 96 f1)) xr (aI (xg X) 96 (upd f1 (nI c1 : Int32).toNatClampNeg ((f1 (nI c1 : Int32).toNatClampNeg) + 1)))) 0 0 [(0, .ref li), (1, .ref (th t)), (2, .int (nI (m t 8))), (3, .int (Int32.ofInt (lx (m t) (m t 8) k))), (4, .int (Int32.ofInt (ly (m t) (m t 8) k))), (5, .int (nI k))] 82 [.int (Int32.ofInt (lx (m t) (m t 8) (k + 1)))]
            refine v_istore_n (lv' := [(3, .int (Int32.ofInt (lx (m t) (m t 8) (k + 1)))), (0, .ref li), (1, .ref (th t)), (2, .int (nI (m t 8))), (4, .int (Int32.ofInt (ly (m t) (m t 8) k))), (5, .int (nI k))]) C dX4_drawFrom_82 hN (by decide) rfl ?_
            refine v_iload C dX4_drawFrom_83 rfl ?_
            refine v_getS C wFN_X4_64 dX4_drawFrom_85 ?_
            refine v_iload_n C dX4_drawFrom_88 rfl ?_
            refine v_ialdS C (vp_in_nI h8 (by decide)) dX4_drawFrom_89 ?_
            refine v_iadd C dX4_drawFrom_90 ?_
            rw [nI_clamp (n := m t 8) (by omega), ly_step h8]
            show V X (rmD 2 0 0) (mset (mset M xr (aI (xg X) 96 f1)) xr (aI (xg X) 96 (upd f1 (nI c1 : Int32).toNatClampNeg ((f1 (nI c1 : Int32).toNatClampNeg) + 1)))) 0 0 [(3, .int (Int32.ofInt (lx (m t) (m t 8) (k + 1)))), (0, .ref li), (1, .ref (th t)), (2, .int (nI (m t 8))), (4, .int (Int32.ofInt (ly (m t) (m t 8) k))), (5, .int (nI k))] 91 [.int (Int32.ofInt (ly (m t) (m t 8) (k + 1)))]
            refine v_istore (lv' := [(4, .int (Int32.ofInt (ly (m t) (m t 8) (k + 1)))), (3, .int (Int32.ofInt (lx (m t) (m t 8) (k + 1)))), (0, .ref li), (1, .ref (th t)), (2, .int (nI (m t 8))), (5, .int (nI k))]) C dX4_drawFrom_91 hN (by decide) rfl ?_
            refine v_iinc (lv' := [(5, .int (nI (k + 1))), (4, .int (Int32.ofInt (ly (m t) (m t 8) (k + 1)))), (3, .int (Int32.ofInt (lx (m t) (m t 8) (k + 1)))), (0, .ref li), (1, .ref (th t)), (2, .int (nI (m t 8)))]) C dX4_drawFrom_93 5 rfl (nI_1 _) hN (by decide) rfl ?_
            refine v_goto (tgt := 34) C dX4_drawFrom_96 (by decide) ?_
            refine v_sub (lv' := [(0, .ref li), (1, .ref (th t)), (2, .int (nI (m t 8))), (3, .int (Int32.ofInt (lx (m t) (m t 8) (k + 1)))), (4, .int (Int32.ofInt (ly (m t) (m t 8) (k + 1)))), (5, .int (nI (k + 1)))]) [3, 4, 5, 2, 1, 0] rfl ?_
            rw [mset_mset]
            refine ih34 (k + 1) _ (by omega) (fun c hc => ?_) (by omega)
            rw [nI_clamp (n := c1) (by omega), onK_step h8 hlm]
            by_cases q : c = c1
            · subst q; rw [if_pos rfl, h57]; simp only [upd, if_true, Bool.not_false]; rw [h2 c hc, onK_new h8 hlm]; rfl
            · rw [if_neg q, show ∀ z, upd f1 c1 z c = f1 c from fun z => by simp [upd, q]]; exact h2 c hc
  have q := lp34 (_ + 1) 0 f (Nat.zero_le _) (fun c hc => by simp [onK, anyB]) (Nat.lt_succ_self _)
  rw [mset_id hX, ← lx_0, ← ly_0] at q
  exact q

theorem mxc_le {f : Nat → Nat} {N : Nat} (h : ∀ c, f c ≤ N) : ∀ n, (mxc f n).2 ≤ N
  | 0 => Nat.zero_le _
  | n + 1 => by
    unfold mxc
    split
    · exact h n
    · exact mxc_le h n
theorem mxc_lt {f : Nat → Nat} : ∀ {n c : Nat}, (mxc f n).1 = some c → c < n
  | 0, c, h => by cases h
  | n + 1, c, h => by
    unfold mxc at h
    split at h
    · cases h; omega
    · have := mxc_lt h; omega
set_option maxHeartbeats 4000000 in
set_option maxRecDepth 100000 in
theorem c_X4_draw (l : Launch) (g : Gm) (M : Mem) (li xr : Nat) (cv mv : Int32) (f : Nat → Int32) (hI : M li = some (.inr (4, [.ref xr, .int cv, .int mv]))) (hX : M xr = some (aI g 96 f)) (la ta : Nat) (th mk dn : Nat → Nat) (nT : Nat) (m : Nat → Nat → Nat) (lo hi : Nat → Int64) (hL : LandW g M la ta th mk dn nT m lo hi) (d : Nat) (hd : d < 100) : Ct l g yX4_draw cX4_draw 5 none 3 0 0 [.ref li, .ref la, .int (nI d)] M (fun v N => v = none ∧ ∃ f', N = mset (mset M xr (aI g 96 f')) li (.inr (4, [.ref xr, .int (oI (mxc (fun c => crossN m d c nT) 96).1), .int (nI (mxc (fun c => crossN m d c nT) 96).2)]))) := by
  refine Ct.of (by decide) (Nat.le_of_ble_eq_true rfl) ?_
  intro X hXl hXg hN C E
  subst hXl; subst hXg
  show V X (rmD 3 0 0) M 0 0 [(0, .ref li), (1, .ref la), (2, .int (nI d))] 0 []
  have h12 := hL.1
  refine v_iconst C dX4_draw_0 (v := 0) rfl ?_
  refine v_istore_n (lv' := [(3, .int 0), (0, .ref li), (1, .ref la), (2, .int (nI d))]) C dX4_draw_1 hN (by decide) rfl ?_
  refine v_sub (lv' := [(0, .ref li), (1, .ref la), (2, .int (nI d)), (3, .int 0)]) [1, 2, 3, 0] rfl ?_
  have lp2 : ∀ (mm : Nat) (c : Nat) (f1 : Nat → Int32) (h1 : c ≤ 96) (h2 : ∀ j, j < c → f1 j = 0), 96 - c < mm → V X (rmD 3 0 0) (mset M xr (aI (xg X) 96 f1)) 0 0 [(0, .ref li), (1, .ref la), (2, .int (nI d)), (3, .int (nI c))] 2 [] := by
    intro mm
    induction mm with
    | zero => intro c f1 h1 h2 hmu; exact absurd hmu (Nat.not_lt_zero _)
    | succ mm ih2 =>
      intro c f1 h1 h2 hmu
      have hL2 := hL.setI hX (by decide) (aI (xg X) 96 f1)
      refine v_iload_n C dX4_draw_2 rfl ?_
      refine v_bipush C dX4_draw_3 (v := 96) rfl ?_
      refine v_icmp_ge (tgt := 21) C dX4_draw_5 (by decide) (fun h5 => ?_) (fun h5 => ?_)
      · have g5 : c = 96 := Nat.le_antisymm h1 (nI_leN (a := 96) (by decide) (by omega) h5)
        refine v_iconst C dX4_draw_21 (v := 0) rfl ?_
        refine v_istore_n (lv' := [(3, .int 0), (0, .ref li), (1, .ref la), (2, .int (nI d))]) C dX4_draw_22 hN (by decide) rfl ?_
        refine v_sub (lv' := [(0, .ref li), (1, .ref la), (2, .int (nI d)), (3, .int 0)]) [1, 2, 3, 0] rfl ?_
        have lp23 : ∀ (mm : Nat) (i : Nat) (f1 : Nat → Int32) (h3 : i ≤ nT) (h4 : ∀ c, c < 96 → f1 c = nI (crossN m d c i)), nT - i < mm → V X (rmD 3 0 0) (mset M xr (aI (xg X) 96 f1)) 0 0 [(0, .ref li), (1, .ref la), (2, .int (nI d)), (3, .int (nI i))] 23 [] := by
          intro mm
          induction mm with
          | zero => intro i f1 h3 h4 hmu; exact absurd hmu (Nat.not_lt_zero _)
          | succ mm ih23 =>
            intro i f1 h3 h4 hmu
            have hL2 := hL.setI hX (by decide) (aI (xg X) 96 f1)
            refine v_iload_n C dX4_draw_23 rfl ?_
            refine v_aload_n C dX4_draw_24 rfl ?_
            refine v_callV (As := []) (rest := [.int (nI i)]) (b := la) C (c_X3_size (xl X) (xg X) (mset M xr (aI (xg X) 96 f1)) la ta th mk dn nT m lo hi hL2) pm_X3_size wI_X3_size wS_X3_size wM_X4_22 kX3 hL2.2.1 ⟨by decide, by decide⟩ ⟨by decide, by decide⟩ (nle rfl) dX4_draw_25 rfl (dt1 ?_)
            show V X (rmD 3 0 0) (mset M xr (aI (xg X) 96 f1)) 0 0 [(0, .ref li), (1, .ref la), (2, .int (nI d)), (3, .int (nI i))] 28 [.int (nI nT), .int (nI i)]
            refine v_icmp_ge (tgt := 64) C dX4_draw_28 (by decide) (fun h28 => ?_) (fun h28 => ?_)
            · have g28 : i = nT := Nat.le_antisymm h3 (nI_leN (by omega) (by omega) h28)
              rw [g28] at h4
              have hmx := mxc_le (f := fun c => crossN m d c nT) (N := 12) (fun c => Nat.le_trans (crossN_le m d c nT) h12)
              refine v_aload_n C dX4_draw_64 rfl ?_
              refine v_bipush C dX4_draw_65 (v := (-6)) rfl ?_
              refine v_put C kX4 ((mset_ne (cell_ne hI hX (by simp))).trans hI) 1 (by decide) wF_X4_15 rfl rfl rfl (nle rfl) dX4_draw_67 ?_
              show V X (rmD 3 0 0) (mset (mset M xr (aI (xg X) 96 f1)) li (.inr (4, [.ref xr, .int ((-6)), .int mv]))) 0 0 [(0, .ref li), (1, .ref la), (2, .int (nI d)), (3, .int (nI i))] 70 []
              refine v_aload_n C dX4_draw_70 rfl ?_
              refine v_iconst C dX4_draw_71 (v := 0) rfl ?_
              refine v_put C kX4 (mset_same _ _ _) 2 (by decide) wF_X4_19 rfl rfl rfl (nle rfl) dX4_draw_72 ?_
              show V X (rmD 3 0 0) (mset (mset (mset M xr (aI (xg X) 96 f1)) li (.inr (4, [.ref xr, .int ((-6)), .int mv]))) li (.inr (4, [.ref xr, .int ((-6)), .int 0]))) 0 0 [(0, .ref li), (1, .ref la), (2, .int (nI d)), (3, .int (nI i))] 75 []
              refine v_iconst C dX4_draw_75 (v := 0) rfl ?_
              refine v_istore_n (lv' := [(3, .int 0), (0, .ref li), (1, .ref la), (2, .int (nI d))]) C dX4_draw_76 hN (by decide) rfl ?_
              refine v_sub (lv' := [(0, .ref li), (1, .ref la), (2, .int (nI d)), (3, .int 0)]) [1, 2, 3, 0] rfl ?_
              have lp77 : ∀ (mm : Nat) (c : Nat) (h5 : c ≤ 96), 96 - c < mm → V X (rmD 3 0 0) (mset (mset M xr (aI (xg X) 96 f1)) li (.inr (4, [.ref xr, .int (oI (mxc (fun c => crossN m d c nT) c).1), .int (nI (mxc (fun c => crossN m d c nT) c).2)]))) 0 0 [(0, .ref li), (1, .ref la), (2, .int (nI d)), (3, .int (nI c))] 77 [] := by
                intro mm
                induction mm with
                | zero => intro c h5 hmu; exact absurd hmu (Nat.not_lt_zero _)
                | succ mm ih77 =>
                  intro c h5 hmu
                  refine v_iload_n C dX4_draw_77 rfl ?_
                  refine v_bipush C dX4_draw_78 (v := 96) rfl ?_
                  refine v_icmp_ge (tgt := 117) C dX4_draw_80 (by decide) (fun h80 => ?_) (fun h80 => ?_)
                  · have g80 : c = 96 := Nat.le_antisymm h5 (nI_leN (a := 96) (by decide) (by omega) h80)
                    exact v_vret C E dX4_draw_117 (nle rfl) (nle rfl) ⟨rfl, f1, by rw [g80]⟩
                  · have hc := nI_nleN (a := 96) (by decide) (by omega) h80
                    have hmc := hmx c
                    have hcr := Nat.le_trans (crossN_le m d c nT) h12
                    refine v_aload_n C dX4_draw_83 rfl ?_
                    refine v_get C kX4 (mset_same _ _ _) 0 (by decide) wF_X4_9 rfl dX4_draw_84 ?_
                    refine v_iload_n C dX4_draw_87 rfl ?_
                    refine v_iald C ((mset_ne (cell_ne hX hI (by simp))).trans (mset_same _ _ _)) (vp_in_nI hc (by decide)) dX4_draw_88 ?_
                    rw [nI_clamp (by omega), h4 c hc]
                    show V X (rmD 3 0 0) (mset (mset M xr (aI (xg X) 96 f1)) li (.inr (4, [.ref xr, .int (oI (mxc (fun c => crossN m d c nT) c).1), .int (nI (mxc (fun c => crossN m d c nT) c).2)]))) 0 0 [(0, .ref li), (1, .ref la), (2, .int (nI d)), (3, .int (nI c))] 89 [.int (nI (crossN m d c nT))]
                    refine v_aload_n C dX4_draw_89 rfl ?_
                    refine v_get C kX4 (mset_same _ _ _) 2 (by decide) wF_X4_19 rfl dX4_draw_90 ?_
                    refine v_icmp_le (tgt := 111) C dX4_draw_93 (by decide) (fun h93 => ?_) (fun h93 => ?_)
                    · refine v_iinc (lv' := [(3, .int (nI (c + 1))), (0, .ref li), (1, .ref la), (2, .int (nI d))]) C dX4_draw_111 3 rfl (nI_1 _) hN (by decide) rfl ?_
                      refine v_goto (tgt := 77) C dX4_draw_114 (by decide) ?_
                      refine v_sub (lv' := [(0, .ref li), (1, .ref la), (2, .int (nI d)), (3, .int (nI (c + 1)))]) [1, 2, 3, 0] rfl ?_
                      have e1 : mxc (fun c => crossN m d c nT) (c + 1) = mxc (fun c => crossN m d c nT) c := if_neg (Nat.not_lt.mpr (nI_leN (by omega) (by omega) h93))
                      have q := ih77 (c + 1) (by omega) (by omega)
                      rw [e1] at q
                      exact q
                    · refine v_aload_n C dX4_draw_96 rfl ?_
                      refine v_iload_n C dX4_draw_97 rfl ?_
                      refine v_put C kX4 (mset_same _ _ _) 1 (by decide) wF_X4_15 rfl rfl rfl (nle rfl) dX4_draw_98 ?_
                      show V X (rmD 3 0 0) (mset (mset (mset M xr (aI (xg X) 96 f1)) li (.inr (4, [.ref xr, .int (oI (mxc (fun c => crossN m d c nT) c).1), .int (nI (mxc (fun c => crossN m d c nT) c).2)]))) li (.inr (4, [.ref xr, .int (nI c), .int (nI (mxc (fun c => crossN m d c nT) c).2)]))) 0 0 [(0, .ref li), (1, .ref la), (2, .int (nI d)), (3, .int (nI c))] 101 []
                      refine v_aload_n C dX4_draw_101 rfl ?_
                      refine v_aload_n C dX4_draw_102 rfl ?_
                      refine v_get C kX4 (mset_same _ _ _) 0 (by decide) wF_X4_9 rfl dX4_draw_103 ?_
                      refine v_iload_n C dX4_draw_106 rfl ?_
                      refine v_iald C ((mset_ne (cell_ne hX hI (by simp))).trans ((mset_ne (cell_ne hX hI (by simp))).trans (mset_same _ _ _))) (vp_in_nI hc (by decide)) dX4_draw_107 ?_
                      rw [nI_clamp (n := c) (by omega), h4 c hc]
                      show V X (rmD 3 0 0) (mset (mset (mset M xr (aI (xg X) 96 f1)) li (.inr (4, [.ref xr, .int (oI (mxc (fun c => crossN m d c nT) c).1), .int (nI (mxc (fun c => crossN m d c nT) c).2)]))) li (.inr (4, [.ref xr, .int (nI c), .int (nI (mxc (fun c => crossN m d c nT) c).2)]))) 0 0 [(0, .ref li), (1, .ref la), (2, .int (nI d)), (3, .int (nI c))] 108 [.int (nI (crossN m d c nT)), .ref li]
                      refine v_put C kX4 (mset_same _ _ _) 2 (by decide) wF_X4_19 rfl rfl rfl (nle rfl) dX4_draw_108 ?_
                      show V X (rmD 3 0 0) (mset (mset (mset (mset M xr (aI (xg X) 96 f1)) li (.inr (4, [.ref xr, .int (oI (mxc (fun c => crossN m d c nT) c).1), .int (nI (mxc (fun c => crossN m d c nT) c).2)]))) li (.inr (4, [.ref xr, .int (nI c), .int (nI (mxc (fun c => crossN m d c nT) c).2)]))) li (.inr (4, [.ref xr, .int (nI c), .int (nI (crossN m d c nT))]))) 0 0 [(0, .ref li), (1, .ref la), (2, .int (nI d)), (3, .int (nI c))] 111 []
                      refine v_iinc (lv' := [(3, .int (nI (c + 1))), (0, .ref li), (1, .ref la), (2, .int (nI d))]) C dX4_draw_111 3 rfl (nI_1 _) hN (by decide) rfl ?_
                      refine v_goto (tgt := 77) C dX4_draw_114 (by decide) ?_
                      refine v_sub (lv' := [(0, .ref li), (1, .ref la), (2, .int (nI d)), (3, .int (nI (c + 1)))]) [1, 2, 3, 0] rfl ?_
                      have e1 : mxc (fun c => crossN m d c nT) (c + 1) = (some c, crossN m d c nT) := if_pos (nI_nleN (by omega) (by omega) h93)
                      have q := ih77 (c + 1) (by omega) (by omega)
                      rw [e1] at q
                      simp only [mset_mset]
                      exact q
              have q := lp77 (_ + 1) 0 (Nat.zero_le _) (Nat.lt_succ_self _)
              simp only [mset_mset]
              exact q
            · have g28 := nI_nleN (by omega) (by omega) h28
              refine v_aload_n C dX4_draw_31 rfl ?_
              refine v_iload_n C dX4_draw_32 rfl ?_
              refine v_callV (As := [.int (nI i)]) (rest := []) (b := la) C (c_X3_find (xl X) (xg X) (mset M xr (aI (xg X) 96 f1)) la ta th mk dn nT m lo hi i g28 hL2) pm_X3_find wI_X3_find wS_X3_find wM_X4_28 kX3 hL2.2.1 ⟨by decide, by decide⟩ ⟨by decide, by decide⟩ (nle rfl) dX4_draw_33 rfl (dt1 ?_)
              show V X (rmD 3 0 0) (mset M xr (aI (xg X) 96 f1)) 0 0 [(0, .ref li), (1, .ref la), (2, .int (nI d)), (3, .int (nI i))] 36 [.ref (th i)]
              refine v_astore (lv' := [(4, .ref (th i)), (0, .ref li), (1, .ref la), (2, .int (nI d)), (3, .int (nI i))]) C dX4_draw_36 hN (by decide) rfl ?_
              refine v_aload C dX4_draw_38 rfl ?_
              refine v_ifnull C dX4_draw_40 ?_
              refine v_aload C dX4_draw_43 rfl ?_
              refine v_iload_n C dX4_draw_45 rfl ?_
              refine v_callV (As := [.int (nI d)]) (rest := []) (b := th i) C (c_X6_hasLine (xl X) (xg X) (mset M xr (aI (xg X) 96 f1)) (th i) (mk i) (dn i) (nI i) (fun w => nI (m i w)) (nI d) ((hL2.2.2.2 i g28).1) ((hL2.2.2.2 i g28).2.1)) pm_X6_hasLine wI_X6_hasLine wS_X6_hasLine wM_X4_32 kX6 ((hL2.2.2.2 i g28).1) ⟨by decide, by decide⟩ ⟨by decide, by decide⟩ (nle rfl) dX4_draw_46 rfl (dt1 ?_)
              show V X (rmD 3 0 0) (mset M xr (aI (xg X) 96 f1)) 0 0 [(4, .ref (th i)), (0, .ref li), (1, .ref la), (2, .int (nI d)), (3, .int (nI i))] 49 [.int (bI (!decide (nI (m i 8) = 8) && qin (nI d) (nI (m i 6)) (nI (m i 7))))]
              rw [hasLine_N (hL.2.2.2 i g28).2.2.2 (by omega)]
              show V X (rmD 3 0 0) (mset M xr (aI (xg X) 96 f1)) 0 0 [(4, .ref (th i)), (0, .ref li), (1, .ref la), (2, .int (nI d)), (3, .int (nI i))] 49 [.int (bI (faceN (m i) d))]
              refine v_ifb_eq (tgt := 58) C dX4_draw_49 (by decide) (fun h49 => ?_) (fun h49 => ?_)
              · refine v_iinc (lv' := [(3, .int (nI (i + 1))), (4, .ref (th i)), (0, .ref li), (1, .ref la), (2, .int (nI d))]) C dX4_draw_58 4 rfl (nI_1 _) hN (by decide) rfl ?_
                refine v_goto (tgt := 23) C dX4_draw_61 (by decide) ?_
                refine v_sub (lv' := [(0, .ref li), (1, .ref la), (2, .int (nI d)), (3, .int (nI (i + 1)))]) [2, 3, 4, 0] rfl ?_
                exact ih23 (i + 1) f1 (by omega) (fun c hc => by rw [h4 c hc]; simp [crossN, cntB, h49]) (by omega)
              · have h8 : m i 8 < 8 := by have q := (hL.2.2.2 i g28).2.2.2; unfold okM at q; have z := h49; simp only [faceN, Bool.and_eq_true, Bool.not_eq_true', decide_eq_false_iff_not] at z; omega
                refine v_aload_n C dX4_draw_52 rfl ?_
                refine v_aload C dX4_draw_53 rfl ?_
                refine v_callV (As := [.ref (th i)]) (rest := []) (b := li) C (c_X4_drawFrom (xl X) (xg X) (mset M xr (aI (xg X) 96 f1)) li xr cv mv f1 ((mset_ne (cell_ne hI hX (by simp))).trans hI) (mset_same _ _ _) la ta th mk dn nT m lo hi hL2 i g28 h8) pm_X4_drawFrom wI_X4_drawFrom wS_X4_drawFrom wM_X4_38 kX4 ((mset_ne (cell_ne hI hX (by simp))).trans hI) ⟨by decide, by decide⟩ ⟨by decide, by decide⟩ (nle rfl) dX4_draw_55 rfl ?_
                rintro _ _ ⟨rfl, f', rfl, hf'⟩
                show V X (rmD 3 0 0) (mset (mset M xr (aI (xg X) 96 f1)) xr (aI (xg X) 96 f')) 0 0 [(4, .ref (th i)), (0, .ref li), (1, .ref la), (2, .int (nI d)), (3, .int (nI i))] 58 []
                refine v_iinc (lv' := [(3, .int (nI (i + 1))), (4, .ref (th i)), (0, .ref li), (1, .ref la), (2, .int (nI d))]) C dX4_draw_58 4 rfl (nI_1 _) hN (by decide) rfl ?_
                refine v_goto (tgt := 23) C dX4_draw_61 (by decide) ?_
                refine v_sub (lv' := [(0, .ref li), (1, .ref la), (2, .int (nI d)), (3, .int (nI (i + 1)))]) [2, 3, 4, 0] rfl ?_
                rw [mset_mset]
                refine ih23 (i + 1) f' (by omega) (fun c hc => ?_) (by omega)
                rw [hf' c hc, h4 c hc, nI_1]
                simp only [crossN, cntB, h49, Bool.true_and]
                split <;> rfl
        exact lp23 (_ + 1) 0 f1 (Nat.zero_le _) (fun c hc => h2 c (by omega)) (Nat.lt_succ_self _)
      · have g5 := nI_nleN (a := 96) (by decide) (by omega) h5
        refine v_aload_n C dX4_draw_8 rfl ?_
        refine v_get C kX4 ((mset_ne (cell_ne hI hX (by simp))).trans hI) 0 (by decide) wF_X4_9 rfl dX4_draw_9 ?_
        refine v_iload_n C dX4_draw_12 rfl ?_
        refine v_iconst C dX4_draw_13 (v := 0) rfl ?_
        refine v_iast C (mset_same _ _ _) (vp_in_nI g5 (by decide)) dX4_draw_14 ?_
        show V X (rmD 3 0 0) (mset (mset M xr (aI (xg X) 96 f1)) xr (aI (xg X) 96 (upd f1 (nI c : Int32).toNatClampNeg 0))) 0 0 [(0, .ref li), (1, .ref la), (2, .int (nI d)), (3, .int (nI c))] 15 []
        refine v_iinc (lv' := [(3, .int (nI (c + 1))), (0, .ref li), (1, .ref la), (2, .int (nI d))]) C dX4_draw_15 3 rfl (nI_1 _) hN (by decide) rfl ?_
        refine v_goto (tgt := 2) C dX4_draw_18 (by decide) ?_
        refine v_sub (lv' := [(0, .ref li), (1, .ref la), (2, .int (nI d)), (3, .int (nI (c + 1)))]) [1, 2, 3, 0] rfl ?_
        rw [mset_mset, nI_clamp (by omega)]
        exact ih2 (c + 1) _ (by omega) (fun j hj => by by_cases q : j = c <;> simp [upd, q]; exact h2 j (by omega)) (by omega)
  have q := lp2 (_ + 1) 0 f (Nat.zero_le _) (fun j hj => absurd hj (Nat.not_lt_zero _)) (Nat.lt_succ_self _)
  rw [mset_id hX] at q
  exact q

set_option maxHeartbeats 4000000 in
set_option maxRecDepth 100000 in
theorem c_X4_mayCross (l : Launch) (g : Gm) (M : Mem) (li xr : Nat) (mv : Int32) (c : Nat) (f : Nat → Int32) (la ta : Nat) (th mk dn : Nat → Nat) (nT : Nat) (m : Nat → Nat → Nat) (lo hi : Nat → Int64) (t : Nat) (lt : t < nT) (hc : c < 96) (hI : M li = some (.inr (4, [.ref xr, .int (nI c), .int mv]))) (hX : M xr = some (aI g 96 f)) (hL : LandW g M la ta th mk dn nT m lo hi) : Ct l g yX4_mayCross cX4_mayCross 6 (some .boolean) 2 0 0 [.ref li, .ref (th t)] M (fun v N => v = some (.int (bI (mayN (m t) c))) ∧ N = M) := by
  refine Ct.of (by decide) (Nat.le_of_ble_eq_true rfl) ?_
  intro X hXl hXg hN C E
  subst hXl; subst hXg
  show V X (rmD 2 0 0) M 0 0 [(0, .ref li), (1, .ref (th t))] 0 []
  have hok := (hL.2.2.2 t lt).2.2.2
  have hok1 : m t 0 ≤ 11 ∧ m t 1 ≤ 7 := by have q := hok; unfold okM at q; omega
  refine v_aload_n C dX4_mayCross_0 rfl ?_
  refine v_get C kX4 hI 1 (by decide) wF_X4_15 rfl dX4_mayCross_1 ?_
  refine v_bipush C dX4_mayCross_4 (v := 12) rfl ?_
  refine v_irem C dX4_mayCross_6 (by decide) ?_
  rw [cell_mod (by omega)]
  show V X (rmD 2 0 0) M 0 0 [(0, .ref li), (1, .ref (th t))] 7 [.int (nI (c % 12))]
  refine v_istore_n (lv' := [(2, .int (nI (c % 12))), (0, .ref li), (1, .ref (th t))]) C dX4_mayCross_7 hN (by decide) rfl ?_
  refine v_aload_n C dX4_mayCross_8 rfl ?_
  refine v_get C kX4 hI 1 (by decide) wF_X4_15 rfl dX4_mayCross_9 ?_
  refine v_bipush C dX4_mayCross_12 (v := 12) rfl ?_
  refine v_idiv C dX4_mayCross_14 (by decide) ?_
  rw [cell_div (by omega)]
  show V X (rmD 2 0 0) M 0 0 [(2, .int (nI (c % 12))), (0, .ref li), (1, .ref (th t))] 15 [.int (nI (c / 12))]
  refine v_istore_n (lv' := [(3, .int (nI (c / 12))), (2, .int (nI (c % 12))), (0, .ref li), (1, .ref (th t))]) C dX4_mayCross_15 hN (by decide) rfl ?_
  refine v_iload_n C dX4_mayCross_16 rfl ?_
  refine v_aload_n C dX4_mayCross_17 rfl ?_
  refine v_iconst C dX4_mayCross_18 (v := 0) rfl ?_
  refine v_callV (As := [.int 0]) (rest := [.int (nI (c % 12))]) (b := th t) C (c_X6_mark (xl X) (xg X) M (th t) (mk t) (dn t) (nI t) (fun w => nI (m t w)) 0 (by decide) ((hL.2.2.2 t lt).1) ((hL.2.2.2 t lt).2.1)) pm_X6_mark wI_X6_mark wS_X6_mark wM_X4_42 kX6 ((hL.2.2.2 t lt).1) ⟨by decide, by decide⟩ ⟨by decide, by decide⟩ (nle rfl) dX4_mayCross_19 rfl (dt1 ?_)
  show V X (rmD 2 0 0) M 0 0 [(3, .int (nI (c / 12))), (2, .int (nI (c % 12))), (0, .ref li), (1, .ref (th t))] 22 [.int (nI (m t 0)), .int (nI (c % 12))]
  refine v_isub C dX4_mayCross_22 ?_
  refine v_abs C wM_X4_71 wT_J9_abs_0f7a4 wN_J9 wC_J9_abs_0f7a4 (by decide) (nle rfl) ⟨by decide, by decide⟩ dX4_mayCross_23 ?_
  rw [show (if 0 ≤ nI (c % 12) - nI (m t 0) then nI (c % 12) - nI (m t 0) else 0 - (nI (c % 12) - nI (m t 0))) = nI ((c % 12 - m t 0) + (m t 0 - c % 12)) from iabs_N (by omega) (by omega)]
  show V X (rmD 2 0 0) M 0 0 [(3, .int (nI (c / 12))), (2, .int (nI (c % 12))), (0, .ref li), (1, .ref (th t))] 26 [.int (nI ((c % 12 - m t 0) + (m t 0 - c % 12)))]
  refine v_istore (lv' := [(4, .int (nI ((c % 12 - m t 0) + (m t 0 - c % 12)))), (3, .int (nI (c / 12))), (2, .int (nI (c % 12))), (0, .ref li), (1, .ref (th t))]) C dX4_mayCross_26 hN (by decide) rfl ?_
  refine v_iload_n C dX4_mayCross_28 rfl ?_
  refine v_aload_n C dX4_mayCross_29 rfl ?_
  refine v_iconst C dX4_mayCross_30 (v := 1) rfl ?_
  refine v_callV (As := [.int 1]) (rest := [.int (nI (c / 12))]) (b := th t) C (c_X6_mark (xl X) (xg X) M (th t) (mk t) (dn t) (nI t) (fun w => nI (m t w)) 1 (by decide) ((hL.2.2.2 t lt).1) ((hL.2.2.2 t lt).2.1)) pm_X6_mark wI_X6_mark wS_X6_mark wM_X4_42 kX6 ((hL.2.2.2 t lt).1) ⟨by decide, by decide⟩ ⟨by decide, by decide⟩ (nle rfl) dX4_mayCross_31 rfl (dt1 ?_)
  show V X (rmD 2 0 0) M 0 0 [(4, .int (nI ((c % 12 - m t 0) + (m t 0 - c % 12)))), (3, .int (nI (c / 12))), (2, .int (nI (c % 12))), (0, .ref li), (1, .ref (th t))] 34 [.int (nI (m t 1)), .int (nI (c / 12))]
  refine v_isub C dX4_mayCross_34 ?_
  refine v_abs C wM_X4_71 wT_J9_abs_0f7a4 wN_J9 wC_J9_abs_0f7a4 (by decide) (nle rfl) ⟨by decide, by decide⟩ dX4_mayCross_35 ?_
  rw [show (if 0 ≤ nI (c / 12) - nI (m t 1) then nI (c / 12) - nI (m t 1) else 0 - (nI (c / 12) - nI (m t 1))) = nI ((c / 12 - m t 1) + (m t 1 - c / 12)) from iabs_N (by omega) (by omega)]
  show V X (rmD 2 0 0) M 0 0 [(4, .int (nI ((c % 12 - m t 0) + (m t 0 - c % 12)))), (3, .int (nI (c / 12))), (2, .int (nI (c % 12))), (0, .ref li), (1, .ref (th t))] 38 [.int (nI ((c / 12 - m t 1) + (m t 1 - c / 12)))]
  refine v_istore (lv' := [(5, .int (nI ((c / 12 - m t 1) + (m t 1 - c / 12)))), (4, .int (nI ((c % 12 - m t 0) + (m t 0 - c % 12)))), (3, .int (nI (c / 12))), (2, .int (nI (c % 12))), (0, .ref li), (1, .ref (th t))]) C dX4_mayCross_38 hN (by decide) rfl ?_
  refine v_aload_n C dX4_mayCross_40 rfl ?_
  refine v_iload_n C dX4_mayCross_41 rfl ?_
  refine v_iload_n C dX4_mayCross_42 rfl ?_
  refine v_callV (As := [.int (nI (c % 12)), .int (nI (c / 12))]) (rest := []) (b := th t) C (c_X6_liesOn (xl X) (xg X) M (th t) (mk t) (dn t) (nI t) (fun w => nI (m t w)) (nI (c % 12)) (nI (c / 12)) ((hL.2.2.2 t lt).1) ((hL.2.2.2 t lt).2.1)) pm_X6_liesOn wI_X6_liesOn wS_X6_liesOn wM_X4_54 kX6 ((hL.2.2.2 t lt).1) ⟨by decide, by decide⟩ ⟨by decide, by decide⟩ (nle rfl) dX4_mayCross_43 rfl (dt1 ?_)
  show V X (rmD 2 0 0) M 0 0 [(5, .int (nI ((c / 12 - m t 1) + (m t 1 - c / 12)))), (4, .int (nI ((c % 12 - m t 0) + (m t 0 - c % 12)))), (3, .int (nI (c / 12))), (2, .int (nI (c % 12))), (0, .ref li), (1, .ref (th t))] 46 [.int (bI (lies (fun w => nI (m t w)) (nI (c % 12)) (nI (c / 12))))]
  rw [lies_N hok (by omega) (by omega)]
  show V X (rmD 2 0 0) M 0 0 [(5, .int (nI ((c / 12 - m t 1) + (m t 1 - c / 12)))), (4, .int (nI ((c % 12 - m t 0) + (m t 0 - c % 12)))), (3, .int (nI (c / 12))), (2, .int (nI (c % 12))), (0, .ref li), (1, .ref (th t))] 46 [.int (bI (liesN (m t) (c % 12) (c / 12)))]
  refine v_ifb_ne (tgt := 70) C dX4_mayCross_46 (by decide) (fun h46 => ?_) (fun h46 => ?_)
  · refine v_iconst C dX4_mayCross_70 (v := 0) rfl ?_
    exact v_zret C E dX4_mayCross_71 (nle rfl) (nle rfl) (by decide) ⟨by rw [← may_N hok hc]; first | (rw [h46]; rfl) | (rw [h46, decide_eq_true (nI_eqN (b := 0) (by omega) (by decide) h51)]; rfl) | (rw [h46, decide_eq_false (nI_neN (b := 0) (by omega) (by decide) h51), decide_eq_true (nI_eqN (b := 0) (by omega) (by decide) h56)]; rfl) | (rw [h46, decide_eq_false (nI_neN (b := 0) (by omega) (by decide) h51), decide_eq_false (nI_neN (b := 0) (by omega) (by decide) h56), decide_eq_true (nI_eqN (by omega) (by omega) h63)]; rfl) | (rw [h46, decide_eq_false (nI_neN (b := 0) (by omega) (by decide) h51), decide_eq_false (nI_neN (b := 0) (by omega) (by decide) h56), decide_eq_false (nI_neN (by omega) (by omega) h63)]; rfl), rfl⟩
  · refine v_iload C dX4_mayCross_49 rfl ?_
    refine v_if_eq (tgt := 66) C dX4_mayCross_51 (by decide) (fun h51 => ?_) (fun h51 => ?_)
    · refine v_iconst C dX4_mayCross_66 (v := 1) rfl ?_
      refine v_goto (tgt := 71) C dX4_mayCross_67 (by decide) ?_
      exact v_zret C E dX4_mayCross_71 (nle rfl) (nle rfl) (by decide) ⟨by rw [← may_N hok hc]; first | (rw [h46]; rfl) | (rw [h46, decide_eq_true (nI_eqN (b := 0) (by omega) (by decide) h51)]; rfl) | (rw [h46, decide_eq_false (nI_neN (b := 0) (by omega) (by decide) h51), decide_eq_true (nI_eqN (b := 0) (by omega) (by decide) h56)]; rfl) | (rw [h46, decide_eq_false (nI_neN (b := 0) (by omega) (by decide) h51), decide_eq_false (nI_neN (b := 0) (by omega) (by decide) h56), decide_eq_true (nI_eqN (by omega) (by omega) h63)]; rfl) | (rw [h46, decide_eq_false (nI_neN (b := 0) (by omega) (by decide) h51), decide_eq_false (nI_neN (b := 0) (by omega) (by decide) h56), decide_eq_false (nI_neN (by omega) (by omega) h63)]; rfl), rfl⟩
    · refine v_iload C dX4_mayCross_54 rfl ?_
      refine v_if_eq (tgt := 66) C dX4_mayCross_56 (by decide) (fun h56 => ?_) (fun h56 => ?_)
      · refine v_iconst C dX4_mayCross_66 (v := 1) rfl ?_
        refine v_goto (tgt := 71) C dX4_mayCross_67 (by decide) ?_
        exact v_zret C E dX4_mayCross_71 (nle rfl) (nle rfl) (by decide) ⟨by rw [← may_N hok hc]; first | (rw [h46]; rfl) | (rw [h46, decide_eq_true (nI_eqN (b := 0) (by omega) (by decide) h51)]; rfl) | (rw [h46, decide_eq_false (nI_neN (b := 0) (by omega) (by decide) h51), decide_eq_true (nI_eqN (b := 0) (by omega) (by decide) h56)]; rfl) | (rw [h46, decide_eq_false (nI_neN (b := 0) (by omega) (by decide) h51), decide_eq_false (nI_neN (b := 0) (by omega) (by decide) h56), decide_eq_true (nI_eqN (by omega) (by omega) h63)]; rfl) | (rw [h46, decide_eq_false (nI_neN (b := 0) (by omega) (by decide) h51), decide_eq_false (nI_neN (b := 0) (by omega) (by decide) h56), decide_eq_false (nI_neN (by omega) (by omega) h63)]; rfl), rfl⟩
      · refine v_iload C dX4_mayCross_59 rfl ?_
        refine v_iload C dX4_mayCross_61 rfl ?_
        refine v_icmp_ne (tgt := 70) C dX4_mayCross_63 (by decide) (fun h63 => ?_) (fun h63 => ?_)
        · refine v_iconst C dX4_mayCross_70 (v := 0) rfl ?_
          exact v_zret C E dX4_mayCross_71 (nle rfl) (nle rfl) (by decide) ⟨by rw [← may_N hok hc]; first | (rw [h46]; rfl) | (rw [h46, decide_eq_true (nI_eqN (b := 0) (by omega) (by decide) h51)]; rfl) | (rw [h46, decide_eq_false (nI_neN (b := 0) (by omega) (by decide) h51), decide_eq_true (nI_eqN (b := 0) (by omega) (by decide) h56)]; rfl) | (rw [h46, decide_eq_false (nI_neN (b := 0) (by omega) (by decide) h51), decide_eq_false (nI_neN (b := 0) (by omega) (by decide) h56), decide_eq_true (nI_eqN (by omega) (by omega) h63)]; rfl) | (rw [h46, decide_eq_false (nI_neN (b := 0) (by omega) (by decide) h51), decide_eq_false (nI_neN (b := 0) (by omega) (by decide) h56), decide_eq_false (nI_neN (by omega) (by omega) h63)]; rfl), rfl⟩
        · refine v_iconst C dX4_mayCross_66 (v := 1) rfl ?_
          refine v_goto (tgt := 71) C dX4_mayCross_67 (by decide) ?_
          exact v_zret C E dX4_mayCross_71 (nle rfl) (nle rfl) (by decide) ⟨by rw [← may_N hok hc]; first | (rw [h46]; rfl) | (rw [h46, decide_eq_true (nI_eqN (b := 0) (by omega) (by decide) h51)]; rfl) | (rw [h46, decide_eq_false (nI_neN (b := 0) (by omega) (by decide) h51), decide_eq_true (nI_eqN (b := 0) (by omega) (by decide) h56)]; rfl) | (rw [h46, decide_eq_false (nI_neN (b := 0) (by omega) (by decide) h51), decide_eq_false (nI_neN (b := 0) (by omega) (by decide) h56), decide_eq_true (nI_eqN (by omega) (by omega) h63)]; rfl) | (rw [h46, decide_eq_false (nI_neN (b := 0) (by omega) (by decide) h51), decide_eq_false (nI_neN (b := 0) (by omega) (by decide) h56), decide_eq_false (nI_neN (by omega) (by omega) h63)]; rfl), rfl⟩

set_option maxHeartbeats 4000000 in
set_option maxRecDepth 100000 in
theorem c_X4_allMayCross (l : Launch) (g : Gm) (M : Mem) (li xr : Nat) (mv : Int32) (c : Nat) (f : Nat → Int32) (la ta : Nat) (th mk dn : Nat → Nat) (nT : Nat) (m : Nat → Nat → Nat) (lo hi : Nat → Int64) (d : Nat) (hd : d < 100) (hc : c < 96) (hI : M li = some (.inr (4, [.ref xr, .int (nI c), .int mv]))) (hX : M xr = some (aI g 96 f)) (hL : LandW g M la ta th mk dn nT m lo hi) : Ct l g yX4_allMayCross cX4_allMayCross 5 (some .boolean) 3 0 0 [.ref li, .ref la, .int (nI d)] M (fun v N => v = some (.int (bI (!anyB (fun t => faceN (m t) d && !mayN (m t) c) nT))) ∧ N = M) := by
  refine Ct.of (by decide) (Nat.le_of_ble_eq_true rfl) ?_
  intro X hXl hXg hN C E
  subst hXl; subst hXg
  show V X (rmD 3 0 0) M 0 0 [(0, .ref li), (1, .ref la), (2, .int (nI d))] 0 []
  have h12 := hL.1
  refine v_iconst C dX4_allMayCross_0 (v := 0) rfl ?_
  refine v_istore_n (lv' := [(3, .int 0), (0, .ref li), (1, .ref la), (2, .int (nI d))]) C dX4_allMayCross_1 hN (by decide) rfl ?_
  refine v_sub (lv' := [(0, .ref li), (1, .ref la), (2, .int (nI d)), (3, .int 0)]) [1, 2, 3, 0] rfl ?_
  have lp2 : ∀ (mm : Nat) (i : Nat) (h1 : i ≤ nT) (h2 : anyB (fun t => faceN (m t) d && !mayN (m t) c) i = false), nT - i < mm → V X (rmD 3 0 0) M 0 0 [(0, .ref li), (1, .ref la), (2, .int (nI d)), (3, .int (nI i))] 2 [] := by
    intro mm
    induction mm with
    | zero => intro i h1 h2 hmu; exact absurd hmu (Nat.not_lt_zero _)
    | succ mm ih2 =>
      intro i h1 h2 hmu
      refine v_iload_n C dX4_allMayCross_2 rfl ?_
      refine v_aload_n C dX4_allMayCross_3 rfl ?_
      refine v_callV (As := []) (rest := [.int (nI i)]) (b := la) C (c_X3_size (xl X) (xg X) M la ta th mk dn nT m lo hi hL) pm_X3_size wI_X3_size wS_X3_size wM_X4_22 kX3 hL.2.1 ⟨by decide, by decide⟩ ⟨by decide, by decide⟩ (nle rfl) dX4_allMayCross_4 rfl (dt1 ?_)
      show V X (rmD 3 0 0) M 0 0 [(0, .ref li), (1, .ref la), (2, .int (nI d)), (3, .int (nI i))] 7 [.int (nI nT), .int (nI i)]
      refine v_icmp_ge (tgt := 48) C dX4_allMayCross_7 (by decide) (fun h7 => ?_) (fun h7 => ?_)
      · have g7 : i = nT := Nat.le_antisymm h1 (nI_leN (by omega) (by omega) h7)
        refine v_iconst C dX4_allMayCross_48 (v := 1) rfl ?_
        exact v_zret C E dX4_allMayCross_49 (nle rfl) (nle rfl) (by decide) ⟨by rw [← g7, h2]; rfl, rfl⟩
      · have g7 := nI_nleN (by omega) (by omega) h7
        refine v_aload_n C dX4_allMayCross_10 rfl ?_
        refine v_iload_n C dX4_allMayCross_11 rfl ?_
        refine v_callV (As := [.int (nI i)]) (rest := []) (b := la) C (c_X3_find (xl X) (xg X) M la ta th mk dn nT m lo hi i g7 hL) pm_X3_find wI_X3_find wS_X3_find wM_X4_28 kX3 hL.2.1 ⟨by decide, by decide⟩ ⟨by decide, by decide⟩ (nle rfl) dX4_allMayCross_12 rfl (dt1 ?_)
        show V X (rmD 3 0 0) M 0 0 [(0, .ref li), (1, .ref la), (2, .int (nI d)), (3, .int (nI i))] 15 [.ref (th i)]
        refine v_astore (lv' := [(4, .ref (th i)), (0, .ref li), (1, .ref la), (2, .int (nI d)), (3, .int (nI i))]) C dX4_allMayCross_15 hN (by decide) rfl ?_
        refine v_aload C dX4_allMayCross_17 rfl ?_
        refine v_ifnull C dX4_allMayCross_19 ?_
        refine v_aload C dX4_allMayCross_22 rfl ?_
        refine v_iload_n C dX4_allMayCross_24 rfl ?_
        refine v_callV (As := [.int (nI d)]) (rest := []) (b := th i) C (c_X6_hasLine (xl X) (xg X) M (th i) (mk i) (dn i) (nI i) (fun w => nI (m i w)) (nI d) ((hL.2.2.2 i g7).1) ((hL.2.2.2 i g7).2.1)) pm_X6_hasLine wI_X6_hasLine wS_X6_hasLine wM_X4_32 kX6 ((hL.2.2.2 i g7).1) ⟨by decide, by decide⟩ ⟨by decide, by decide⟩ (nle rfl) dX4_allMayCross_25 rfl (dt1 ?_)
        show V X (rmD 3 0 0) M 0 0 [(4, .ref (th i)), (0, .ref li), (1, .ref la), (2, .int (nI d)), (3, .int (nI i))] 28 [.int (bI (!decide (nI (m i 8) = 8) && qin (nI d) (nI (m i 6)) (nI (m i 7))))]
        rw [hasLine_N (hL.2.2.2 i g7).2.2.2 (by omega)]
        show V X (rmD 3 0 0) M 0 0 [(4, .ref (th i)), (0, .ref li), (1, .ref la), (2, .int (nI d)), (3, .int (nI i))] 28 [.int (bI (faceN (m i) d))]
        refine v_ifb_eq (tgt := 42) C dX4_allMayCross_28 (by decide) (fun h28 => ?_) (fun h28 => ?_)
        · refine v_iinc (lv' := [(3, .int (nI (i + 1))), (4, .ref (th i)), (0, .ref li), (1, .ref la), (2, .int (nI d))]) C dX4_allMayCross_42 4 rfl (nI_1 _) hN (by decide) rfl ?_
          refine v_goto (tgt := 2) C dX4_allMayCross_45 (by decide) ?_
          refine v_sub (lv' := [(0, .ref li), (1, .ref la), (2, .int (nI d)), (3, .int (nI (i + 1)))]) [2, 3, 4, 0] rfl ?_
          exact ih2 (i + 1) (by omega) (by first | (simp [anyB, h2, h28, h37]; done) | (simp [anyB, h2, h28]; done)) (by omega)
        · refine v_aload_n C dX4_allMayCross_31 rfl ?_
          refine v_aload C dX4_allMayCross_32 rfl ?_
          refine v_callV (As := [.ref (th i)]) (rest := []) (b := li) C (c_X4_mayCross (xl X) (xg X) M li xr mv c f la ta th mk dn nT m lo hi i g7 hc hI hX hL) pm_X4_mayCross wI_X4_mayCross wS_X4_mayCross wM_X4_67 kX4 hI ⟨by decide, by decide⟩ ⟨by decide, by decide⟩ (nle rfl) dX4_allMayCross_34 rfl (dt1 ?_)
          show V X (rmD 3 0 0) M 0 0 [(4, .ref (th i)), (0, .ref li), (1, .ref la), (2, .int (nI d)), (3, .int (nI i))] 37 [.int (bI (mayN (m i) c))]
          refine v_ifb_ne (tgt := 42) C dX4_allMayCross_37 (by decide) (fun h37 => ?_) (fun h37 => ?_)
          · refine v_iinc (lv' := [(3, .int (nI (i + 1))), (4, .ref (th i)), (0, .ref li), (1, .ref la), (2, .int (nI d))]) C dX4_allMayCross_42 4 rfl (nI_1 _) hN (by decide) rfl ?_
            refine v_goto (tgt := 2) C dX4_allMayCross_45 (by decide) ?_
            refine v_sub (lv' := [(0, .ref li), (1, .ref la), (2, .int (nI d)), (3, .int (nI (i + 1)))]) [2, 3, 4, 0] rfl ?_
            exact ih2 (i + 1) (by omega) (by first | (simp [anyB, h2, h28, h37]; done) | (simp [anyB, h2, h28]; done)) (by omega)
          · refine v_iconst C dX4_allMayCross_40 (v := 0) rfl ?_
            exact v_zret C E dX4_allMayCross_41 (nle rfl) (nle rfl) (by decide) ⟨by rw [anyB_iff.mpr ⟨i, g7, by simp [h28, h37]⟩]; rfl, rfl⟩
  exact lp2 (_ + 1) 0 (Nat.zero_le _) rfl (Nat.lt_succ_self _)

set_option maxHeartbeats 4000000 in
set_option maxRecDepth 100000 in
theorem c_X4_lots (l : Launch) (g : Gm) (M : Mem) (li xr : Nat) (cv mv : Int32) (f : Nat → Int32) (la ta : Nat) (th mk dn : Nat → Nat) (nT : Nat) (m : Nat → Nat → Nat) (lo hi : Nat → Int64) (d : Nat) (hd : d < 100) (hI : M li = some (.inr (4, [.ref xr, .int cv, .int mv]))) (hX : M xr = some (aI g 96 f)) (hL : LandW g M la ta th mk dn nT m lo hi) : Ct l g yX4_lots cX4_lots 7 (some .long) 3 0 0 [.ref li, .ref la, .int (nI d)] M (fun v N => v = some (.long (pwL 8 (cntB (fun t => faceN (m t) d) nT))) ∧ N = M) := by
  refine Ct.of (by decide) (Nat.le_of_ble_eq_true rfl) ?_
  intro X hXl hXg hN C E
  subst hXl; subst hXg
  show V X (rmD 3 0 0) M 0 0 [(0, .ref li), (1, .ref la), (2, .int (nI d))] 0 []
  have h12 := hL.1
  refine v_lconst C dX4_lots_0 (v := 1) rfl ?_
  refine v_lstore_n (lv' := [(3, .long 1), (0, .ref li), (1, .ref la), (2, .int (nI d))]) C dX4_lots_1 hN (by decide) rfl ?_
  refine v_iconst C dX4_lots_2 (v := 0) rfl ?_
  refine v_istore (lv' := [(5, .int 0), (3, .long 1), (0, .ref li), (1, .ref la), (2, .int (nI d))]) C dX4_lots_3 hN (by decide) rfl ?_
  refine v_sub (lv' := [(0, .ref li), (1, .ref la), (2, .int (nI d)), (3, .long 1), (5, .int 0)]) [2, 3, 4, 1, 0] rfl ?_
  have lp5 : ∀ (mm : Nat) (i : Nat) (h1 : i ≤ nT), nT - i < mm → V X (rmD 3 0 0) M 0 0 [(0, .ref li), (1, .ref la), (2, .int (nI d)), (3, .long (pwL 8 (cntB (fun t => faceN (m t) d) i))), (5, .int (nI i))] 5 [] := by
    intro mm
    induction mm with
    | zero => intro i h1 hmu; exact absurd hmu (Nat.not_lt_zero _)
    | succ mm ih5 =>
      intro i h1 hmu
      refine v_iload C dX4_lots_5 rfl ?_
      refine v_aload_n C dX4_lots_7 rfl ?_
      refine v_callV (As := []) (rest := [.int (nI i)]) (b := la) C (c_X3_size (xl X) (xg X) M la ta th mk dn nT m lo hi hL) pm_X3_size wI_X3_size wS_X3_size wM_X4_22 kX3 hL.2.1 ⟨by decide, by decide⟩ ⟨by decide, by decide⟩ (nle rfl) dX4_lots_8 rfl (dt1 ?_)
      show V X (rmD 3 0 0) M 0 0 [(0, .ref li), (1, .ref la), (2, .int (nI d)), (3, .long (pwL 8 (cntB (fun t => faceN (m t) d) i))), (5, .int (nI i))] 11 [.int (nI nT), .int (nI i)]
      refine v_icmp_ge (tgt := 48) C dX4_lots_11 (by decide) (fun h11 => ?_) (fun h11 => ?_)
      · have g11 : i = nT := Nat.le_antisymm h1 (nI_leN (by omega) (by omega) h11)
        refine v_lload_n C dX4_lots_48 rfl ?_
        exact v_lret C E dX4_lots_49 (nle rfl) (nle rfl) ⟨by rw [g11], rfl⟩
      · have g11 := nI_nleN (by omega) (by omega) h11
        refine v_aload_n C dX4_lots_14 rfl ?_
        refine v_iload C dX4_lots_15 rfl ?_
        refine v_callV (As := [.int (nI i)]) (rest := []) (b := la) C (c_X3_find (xl X) (xg X) M la ta th mk dn nT m lo hi i g11 hL) pm_X3_find wI_X3_find wS_X3_find wM_X4_28 kX3 hL.2.1 ⟨by decide, by decide⟩ ⟨by decide, by decide⟩ (nle rfl) dX4_lots_17 rfl (dt1 ?_)
        show V X (rmD 3 0 0) M 0 0 [(0, .ref li), (1, .ref la), (2, .int (nI d)), (3, .long (pwL 8 (cntB (fun t => faceN (m t) d) i))), (5, .int (nI i))] 20 [.ref (th i)]
        refine v_astore (lv' := [(6, .ref (th i)), (0, .ref li), (1, .ref la), (2, .int (nI d)), (3, .long (pwL 8 (cntB (fun t => faceN (m t) d) i))), (5, .int (nI i))]) C dX4_lots_20 hN (by decide) rfl ?_
        refine v_aload C dX4_lots_22 rfl ?_
        refine v_ifnull C dX4_lots_24 ?_
        refine v_aload C dX4_lots_27 rfl ?_
        refine v_iload_n C dX4_lots_29 rfl ?_
        refine v_callV (As := [.int (nI d)]) (rest := []) (b := th i) C (c_X6_hasLine (xl X) (xg X) M (th i) (mk i) (dn i) (nI i) (fun w => nI (m i w)) (nI d) ((hL.2.2.2 i g11).1) ((hL.2.2.2 i g11).2.1)) pm_X6_hasLine wI_X6_hasLine wS_X6_hasLine wM_X4_32 kX6 ((hL.2.2.2 i g11).1) ⟨by decide, by decide⟩ ⟨by decide, by decide⟩ (nle rfl) dX4_lots_30 rfl (dt1 ?_)
        show V X (rmD 3 0 0) M 0 0 [(6, .ref (th i)), (0, .ref li), (1, .ref la), (2, .int (nI d)), (3, .long (pwL 8 (cntB (fun t => faceN (m t) d) i))), (5, .int (nI i))] 33 [.int (bI (!decide (nI (m i 8) = 8) && qin (nI d) (nI (m i 6)) (nI (m i 7))))]
        rw [hasLine_N (hL.2.2.2 i g11).2.2.2 (by omega)]
        show V X (rmD 3 0 0) M 0 0 [(6, .ref (th i)), (0, .ref li), (1, .ref la), (2, .int (nI d)), (3, .long (pwL 8 (cntB (fun t => faceN (m t) d) i))), (5, .int (nI i))] 33 [.int (bI (faceN (m i) d))]
        refine v_ifb_eq (tgt := 42) C dX4_lots_33 (by decide) (fun h33 => ?_) (fun h33 => ?_)
        · refine v_iinc (lv' := [(5, .int (nI (i + 1))), (6, .ref (th i)), (0, .ref li), (1, .ref la), (2, .int (nI d)), (3, .long (pwL 8 (cntB (fun t => faceN (m t) d) i)))]) C dX4_lots_42 5 rfl (nI_1 _) hN (by decide) rfl ?_
          refine v_goto (tgt := 5) C dX4_lots_45 (by decide) ?_
          refine v_sub (lv' := [(0, .ref li), (1, .ref la), (2, .int (nI d)), (3, .long (pwL 8 (cntB (fun t => faceN (m t) d) i))), (5, .int (nI (i + 1)))]) [2, 3, 4, 5, 0] rfl ?_
          rw [show pwL 8 (cntB (fun t => faceN (m t) d) i) = pwL 8 (cntB (fun t => faceN (m t) d) (i + 1)) by simp [cntB, h33, pwL]]
          exact ih5 (i + 1) (by omega) (by omega)
        · refine v_lload_n C dX4_lots_36 rfl ?_
          refine v_ldc2 C dX4_lots_37 wJ_X4_76 ?_
          refine v_lmul C dX4_lots_40 ?_
          refine v_lstore_n (lv' := [(3, .long ((pwL 8 (cntB (fun t => faceN (m t) d) i)) * 8)), (6, .ref (th i)), (0, .ref li), (1, .ref la), (2, .int (nI d)), (5, .int (nI i))]) C dX4_lots_41 hN (by decide) rfl ?_
          refine v_iinc (lv' := [(5, .int (nI (i + 1))), (3, .long ((pwL 8 (cntB (fun t => faceN (m t) d) i)) * 8)), (6, .ref (th i)), (0, .ref li), (1, .ref la), (2, .int (nI d))]) C dX4_lots_42 5 rfl (nI_1 _) hN (by decide) rfl ?_
          refine v_goto (tgt := 5) C dX4_lots_45 (by decide) ?_
          refine v_sub (lv' := [(0, .ref li), (1, .ref la), (2, .int (nI d)), (3, .long ((pwL 8 (cntB (fun t => faceN (m t) d) i)) * 8)), (5, .int (nI (i + 1)))]) [3, 4, 5, 1, 0] rfl ?_
          rw [show (pwL 8 (cntB (fun t => faceN (m t) d) i)) * 8 = pwL 8 (cntB (fun t => faceN (m t) d) (i + 1)) by simp [cntB, h33, pwL]]
          exact ih5 (i + 1) (by omega) (by omega)
  exact lp5 (_ + 1) 0 (Nat.zero_le _) (Nat.lt_succ_self _)


/-! The desk: thing, picture. -/
theorem tk_0 (d : Nat) : tk 0 0 d = false := by
  unfold tk
  split
  · exact BitVec.getLsbD_zero
  · exact BitVec.getLsbD_zero
theorem end_N {x a : Nat} (hx : x ≤ 11) (ha : 1 ≤ a) (ha2 : a ≤ 4) (n : Nat) (hn : n < 1000) : qin (nI x + nI a - 1) 0 (nI n) = decide (nI x + nI a ≤ nI (n + 1)) := by
  rw [nI_add, show nI (x + a) - 1 = nI (x + a - 1) from pk_sub (a := x + a) (b := 1) (by omega), show qin (nI (x + a - 1)) 0 (nI n) = qin (nI (x + a - 1)) (nI 0) (nI n) from rfl, qin_N (by omega) (by decide) (by omega)]
  rw [Bool.eq_iff_iff, Bool.and_eq_true, decide_eq_true_eq, decide_eq_true_eq, decide_eq_true_eq, nI_leI (by omega) (by omega)]
  omega
theorem nw_row {x y a b h k s t : Nat} : upd (upd (upd (upd (upd (upd (upd (upd (upd (upd (upd (fun _ => 0) 0 (nI x)) 1 (nI y)) 2 (nI a)) 3 (nI b)) 4 (nI h)) 5 (nI k)) 6 (nI s)) 7 (nI t)) 8 8) 9 0) 10 0 = fun w => nI (nw x y a b h k s t w) := by
  funext w
  unfold upd nw
  by_cases h0 : w = 0
  · subst h0; rfl
  by_cases h1 : w = 1
  · subst h1; rfl
  by_cases h2 : w = 2
  · subst h2; rfl
  by_cases h3 : w = 3
  · subst h3; rfl
  by_cases h4 : w = 4
  · subst h4; rfl
  by_cases h5 : w = 5
  · subst h5; rfl
  by_cases h6 : w = 6
  · subst h6; rfl
  by_cases h7 : w = 7
  · subst h7; rfl
  by_cases h8 : w = 8
  · subst h8; rfl
  simp only [h0, h1, h2, h3, h4, h5, h6, h7, h8, if_false]
  by_cases h9 : w = 9
  · subst h9; rfl
  by_cases h10 : w = 10
  · subst h10; rfl
  simp only [h9, h10, if_false]
  rfl
theorem nw_ok {x y a b h k s t : Nat} (h1 : x ≤ 11) (h2 : y ≤ 7) (h3 : 1 ≤ a ∧ a ≤ 4) (h4 : 1 ≤ b ∧ b ≤ 4) (h5 : x + a ≤ 12) (h6 : y + b ≤ 8) (h7 : 1 ≤ h ∧ h ≤ 20) (h8 : k ≤ 5) (h9 : s ≤ t) (h10 : t ≤ 99) : okM (nw x y a b h k s t) := by
  unfold okM nw
  simp
  omega
set_option maxHeartbeats 4000000 in
set_option maxRecDepth 100000 in
theorem c_X9_thing (l : Launch) (g : Gm) (M : Mem) (dk : Nat) (la ta : Nat) (th mk dn : Nat → Nat) (al pt : Nat) (pa ca ka ra : Nat → Nat) (fa va : Nat) (ua sa xa na : Nat) (tA : Nat → Nat) (li xr : Nat) (fy f0 f1 f2 f3 ja jb : Nat) (lo hi pl ph : Nat → Int64) (cn lk : Nat → Nat → Int32) (bc bs : Bool) (vf : Nat → Int32) (cv mv : Int32) (xf : Nat → Int32) (ga gb : Nat → Int64) (nT : Nat) (m : Nat → Nat → Nat) (dB : Nat → Nat → Bool) (nP : Nat) (pf : Nat → Nat → Nat) (cB : Nat → Nat → Bool) (nS : Nat) (sg : Nat → Int32) (ln : Nat → Nat) (tx : Nat → Nat → Int32) (fl : Nat → Nat → Nat) (hD : DeskA g M dk la ta th mk dn al pt pa ca ka ra fa va ua sa xa na tA li xr fy f0 f1 f2 f3 ja jb lo hi pl ph cn lk bc bs vf cv mv xf ga gb nT m dB nP pf cB nS sg ln tx fl) (xx yy aa bb hh kk ss tt : Int32) : Ct l g yX9_thing cX9_thing 11 (some .int) 8 3 16 [.ref dk, .int xx, .int yy, .int aa, .int bb, .int hh, .int kk, .int ss, .int tt] M (fun v N => v = some (.int (aThing nT xx yy aa bb hh kk ss tt)) ∧ (if okT xx yy aa bb hh kk ss tt = true ∧ nT < 12 then DeskW g N dk (nT + 1) (fun i => if i = nT then nw xx.toNatClampNeg yy.toNatClampNeg aa.toNatClampNeg bb.toNatClampNeg hh.toNatClampNeg kk.toNatClampNeg ss.toNatClampNeg tt.toNatClampNeg else m i) (fun i => if i = nT then fun _ => false else dB i) nP pf cB nS sg ln tx fl else DeskW g N dk nT m dB nP pf cB nS sg ln tx fl)) := by
  refine Ct.of (by decide) (Nat.le_of_ble_eq_true rfl) ?_
  intro X hXl hXg hN C E
  subst hXl; subst hXg
  show V X (rmD 8 3 16) M 0 0 [(0, .ref dk), (1, .int xx), (2, .int yy), (3, .int aa), (4, .int bb), (5, .int hh), (6, .int kk), (7, .int ss), (8, .int tt)] 0 []
  obtain ⟨hD1, hL, hA, ⟨hF, hV⟩, hU, ⟨hI, hX⟩, hY, hdB, hcB, hrw, hinj, hxr, hct⟩ := id hD
  have h12 := hL.1
  have h10 := hA.1
  refine v_iload_n C dX9_thing_0 rfl ?_
  refine v_iload_n C dX9_thing_1 rfl ?_
  refine v_callS (As := [.int xx, .int yy]) (rest := []) C (c_X9_isOnLand (xl X) (xg X) xx yy M) pm_X9_isOnLand wT_X9_isOnLand wM_X9_51 ⟨by decide, by decide⟩ ⟨by decide, by decide⟩ (nle rfl) dX9_thing_2 rfl (dt1 ?_)
  show V X (rmD 8 3 16) M 0 0 [(0, .ref dk), (1, .int xx), (2, .int yy), (3, .int aa), (4, .int bb), (5, .int hh), (6, .int kk), (7, .int ss), (8, .int tt)] 5 [.int (bI (qin xx 0 11 && qin yy 0 7))]
  refine v_ifb_eq (tgt := 27) C dX9_thing_5 (by decide) (fun h5 => ?_) (fun h5 => ?_)
  · have hok : okT xx yy aa bb hh kk ss tt = false := by unfold okT; first | (simp [h5, h14, h24]; done) | (simp [h5, h14]; done) | (simp [h5]; done)
    refine v_bipush C dX9_thing_27 (v := (-2)) rfl ?_
    exact v_iret C E dX9_thing_29 (nle rfl) (nle rfl) ⟨by rw [aThing, hok]; rfl, by rw [if_neg (by rw [hok]; simp)]; exact hD.W⟩
  · refine v_iload_n C dX9_thing_8 rfl ?_
    refine v_iconst C dX9_thing_9 (v := 1) rfl ?_
    refine v_iconst C dX9_thing_10 (v := 4) rfl ?_
    refine v_callS (As := [.int aa, .int 1, .int 4]) (rest := []) C (c_X9_isWithin (xl X) (xg X) aa 1 4 M) pm_X9_isWithin wT_X9_isWithin wM_X9_55 ⟨by decide, by decide⟩ ⟨by decide, by decide⟩ (nle rfl) dX9_thing_11 rfl (dt1 ?_)
    show V X (rmD 8 3 16) M 0 0 [(0, .ref dk), (1, .int xx), (2, .int yy), (3, .int aa), (4, .int bb), (5, .int hh), (6, .int kk), (7, .int ss), (8, .int tt)] 14 [.int (bI (qin aa 1 4))]
    refine v_ifb_eq (tgt := 27) C dX9_thing_14 (by decide) (fun h14 => ?_) (fun h14 => ?_)
    · have hok : okT xx yy aa bb hh kk ss tt = false := by unfold okT; first | (simp [h5, h14, h24]; done) | (simp [h5, h14]; done) | (simp [h5]; done)
      refine v_bipush C dX9_thing_27 (v := (-2)) rfl ?_
      exact v_iret C E dX9_thing_29 (nle rfl) (nle rfl) ⟨by rw [aThing, hok]; rfl, by rw [if_neg (by rw [hok]; simp)]; exact hD.W⟩
    · refine v_iload C dX9_thing_17 rfl ?_
      refine v_iconst C dX9_thing_19 (v := 1) rfl ?_
      refine v_iconst C dX9_thing_20 (v := 4) rfl ?_
      refine v_callS (As := [.int bb, .int 1, .int 4]) (rest := []) C (c_X9_isWithin (xl X) (xg X) bb 1 4 M) pm_X9_isWithin wT_X9_isWithin wM_X9_55 ⟨by decide, by decide⟩ ⟨by decide, by decide⟩ (nle rfl) dX9_thing_21 rfl (dt1 ?_)
      show V X (rmD 8 3 16) M 0 0 [(0, .ref dk), (1, .int xx), (2, .int yy), (3, .int aa), (4, .int bb), (5, .int hh), (6, .int kk), (7, .int ss), (8, .int tt)] 24 [.int (bI (qin bb 1 4))]
      refine v_ifb_ne (tgt := 30) C dX9_thing_24 (by decide) (fun h24 => ?_) (fun h24 => ?_)
      · have h5b := h5
        rw [Bool.and_eq_true] at h5b
        obtain ⟨k1, k2⟩ := h5b
        obtain ⟨x, hLx, hjx, rfl⟩ := qin_nJ (x := xx) (L := 0) (N := 11) (by decide) (by decide) k1
        obtain ⟨y, hLy, hjy, rfl⟩ := qin_nJ (x := yy) (L := 0) (N := 7) (by decide) (by decide) k2
        obtain ⟨a, hLa, hja, rfl⟩ := qin_nJ (x := aa) (L := 1) (N := 4) (by decide) (by decide) h14
        obtain ⟨b, hLb, hjb, rfl⟩ := qin_nJ (x := bb) (L := 1) (N := 4) (by decide) (by decide) h24
        show V X (rmD 8 3 16) M 0 0 [(0, .ref dk), (1, .int (nI x)), (2, .int (nI y)), (3, .int (nI a)), (4, .int (nI b)), (5, .int hh), (6, .int kk), (7, .int ss), (8, .int tt)] 30 []
        refine v_iload_n C dX9_thing_30 rfl ?_
        refine v_iload_n C dX9_thing_31 rfl ?_
        refine v_iadd C dX9_thing_32 ?_
        refine v_iconst C dX9_thing_33 (v := 1) rfl ?_
        refine v_isub C dX9_thing_34 ?_
        refine v_iload_n C dX9_thing_35 rfl ?_
        refine v_iload C dX9_thing_36 rfl ?_
        refine v_iadd C dX9_thing_38 ?_
        refine v_iconst C dX9_thing_39 (v := 1) rfl ?_
        refine v_isub C dX9_thing_40 ?_
        refine v_callS (As := [.int (((nI x) + (nI a)) - 1), .int (((nI y) + (nI b)) - 1)]) (rest := []) C (c_X9_isOnLand (xl X) (xg X) (((nI x) + (nI a)) - 1) (((nI y) + (nI b)) - 1) M) pm_X9_isOnLand wT_X9_isOnLand wM_X9_51 ⟨by decide, by decide⟩ ⟨by decide, by decide⟩ (nle rfl) dX9_thing_41 rfl (dt1 ?_)
        show V X (rmD 8 3 16) M 0 0 [(0, .ref dk), (1, .int (nI x)), (2, .int (nI y)), (3, .int (nI a)), (4, .int (nI b)), (5, .int hh), (6, .int kk), (7, .int ss), (8, .int tt)] 44 [.int (bI (qin (((nI x) + (nI a)) - 1) 0 11 && qin (((nI y) + (nI b)) - 1) 0 7))]
        refine v_ifb_ne (tgt := 50) C dX9_thing_44 (by decide) (fun h44 => ?_) (fun h44 => ?_)
        · have g44 : (decide (nI x + nI a ≤ 12) && decide (nI y + nI b ≤ 8)) = true := by rw [show qin (nI x + nI a - 1) 0 11 = _ from end_N hjx hLa hja 11 (by decide), show qin (nI y + nI b - 1) 0 7 = _ from end_N (Nat.le_trans hjy (by decide)) hLb hjb 7 (by decide)] at h44; exact h44
          refine v_iload C dX9_thing_50 rfl ?_
          refine v_iconst C dX9_thing_52 (v := 1) rfl ?_
          refine v_bipush C dX9_thing_53 (v := 20) rfl ?_
          refine v_callS (As := [.int hh, .int 1, .int 20]) (rest := []) C (c_X9_isWithin (xl X) (xg X) hh 1 20 M) pm_X9_isWithin wT_X9_isWithin wM_X9_55 ⟨by decide, by decide⟩ ⟨by decide, by decide⟩ (nle rfl) dX9_thing_55 rfl (dt1 ?_)
          show V X (rmD 8 3 16) M 0 0 [(0, .ref dk), (1, .int (nI x)), (2, .int (nI y)), (3, .int (nI a)), (4, .int (nI b)), (5, .int hh), (6, .int kk), (7, .int ss), (8, .int tt)] 58 [.int (bI (qin hh 1 20))]
          refine v_ifb_eq (tgt := 71) C dX9_thing_58 (by decide) (fun h58 => ?_) (fun h58 => ?_)
          · have hok : okT (nI x) (nI y) (nI a) (nI b) hh kk ss tt = false := by unfold okT; first | (simp [g44, h58, h68]; done) | (simp [g44, h58]; done)
            refine v_bipush C dX9_thing_71 (v := (-2)) rfl ?_
            exact v_iret C E dX9_thing_73 (nle rfl) (nle rfl) ⟨by rw [aThing, hok]; rfl, by rw [if_neg (by rw [hok]; simp)]; exact hD.W⟩
          · refine v_iload C dX9_thing_61 rfl ?_
            refine v_iconst C dX9_thing_63 (v := 0) rfl ?_
            refine v_iconst C dX9_thing_64 (v := 5) rfl ?_
            refine v_callS (As := [.int kk, .int 0, .int 5]) (rest := []) C (c_X9_isWithin (xl X) (xg X) kk 0 5 M) pm_X9_isWithin wT_X9_isWithin wM_X9_55 ⟨by decide, by decide⟩ ⟨by decide, by decide⟩ (nle rfl) dX9_thing_65 rfl (dt1 ?_)
            show V X (rmD 8 3 16) M 0 0 [(0, .ref dk), (1, .int (nI x)), (2, .int (nI y)), (3, .int (nI a)), (4, .int (nI b)), (5, .int hh), (6, .int kk), (7, .int ss), (8, .int tt)] 68 [.int (bI (qin kk 0 5))]
            refine v_ifb_ne (tgt := 74) C dX9_thing_68 (by decide) (fun h68 => ?_) (fun h68 => ?_)
            · refine v_iload C dX9_thing_74 rfl ?_
              refine v_callS (As := [.int ss]) (rest := []) C (c_X9_isDay (xl X) (xg X) ss M) pm_X9_isDay wT_X9_isDay wM_X9_59 ⟨by decide, by decide⟩ ⟨by decide, by decide⟩ (nle rfl) dX9_thing_76 rfl (dt1 ?_)
              show V X (rmD 8 3 16) M 0 0 [(0, .ref dk), (1, .int (nI x)), (2, .int (nI y)), (3, .int (nI a)), (4, .int (nI b)), (5, .int hh), (6, .int kk), (7, .int ss), (8, .int tt)] 79 [.int (bI (qin ss 0 99))]
              refine v_ifb_eq (tgt := 97) C dX9_thing_79 (by decide) (fun h79 => ?_) (fun h79 => ?_)
              · have hok : okT (nI x) (nI y) (nI a) (nI b) hh kk ss tt = false := by unfold okT; first | (simp [h58, h68, h79, h87, show ¬ ss ≤ tt from h94]; done) | (simp [h58, h68, h79, h87]; done) | (simp [h58, h68, h79]; done)
                refine v_bipush C dX9_thing_97 (v := (-2)) rfl ?_
                exact v_iret C E dX9_thing_99 (nle rfl) (nle rfl) ⟨by rw [aThing, hok]; rfl, by rw [if_neg (by rw [hok]; simp)]; exact hD.W⟩
              · refine v_iload C dX9_thing_82 rfl ?_
                refine v_callS (As := [.int tt]) (rest := []) C (c_X9_isDay (xl X) (xg X) tt M) pm_X9_isDay wT_X9_isDay wM_X9_59 ⟨by decide, by decide⟩ ⟨by decide, by decide⟩ (nle rfl) dX9_thing_84 rfl (dt1 ?_)
                show V X (rmD 8 3 16) M 0 0 [(0, .ref dk), (1, .int (nI x)), (2, .int (nI y)), (3, .int (nI a)), (4, .int (nI b)), (5, .int hh), (6, .int kk), (7, .int ss), (8, .int tt)] 87 [.int (bI (qin tt 0 99))]
                refine v_ifb_eq (tgt := 97) C dX9_thing_87 (by decide) (fun h87 => ?_) (fun h87 => ?_)
                · have hok : okT (nI x) (nI y) (nI a) (nI b) hh kk ss tt = false := by unfold okT; first | (simp [h58, h68, h79, h87, show ¬ ss ≤ tt from h94]; done) | (simp [h58, h68, h79, h87]; done) | (simp [h58, h68, h79]; done)
                  refine v_bipush C dX9_thing_97 (v := (-2)) rfl ?_
                  exact v_iret C E dX9_thing_99 (nle rfl) (nle rfl) ⟨by rw [aThing, hok]; rfl, by rw [if_neg (by rw [hok]; simp)]; exact hD.W⟩
                · refine v_iload C dX9_thing_90 rfl ?_
                  refine v_iload C dX9_thing_92 rfl ?_
                  refine v_icmp_le (tgt := 100) C dX9_thing_94 (by decide) (fun h94 => ?_) (fun h94 => ?_)
                  · have hok : okT (nI x) (nI y) (nI a) (nI b) hh kk ss tt = true := by unfold okT; rw [h5, h14, h24, g44, h58, h68, h79, h87, decide_eq_true h94]; rfl
                    refine v_aload_n C dX9_thing_100 rfl ?_
                    refine v_get C kX9 hD1 0 (by decide) wF_X9_10 rfl dX9_thing_101 ?_
                    refine v_callV (As := []) (rest := []) (b := la) C (c_X3_isFull (xl X) (xg X) M la ta th mk dn nT m lo hi hL) pm_X3_isFull wI_X3_isFull wS_X3_isFull wM_X9_63 kX3 hL.2.1 ⟨by decide, by decide⟩ ⟨by decide, by decide⟩ (nle rfl) dX9_thing_104 rfl (dt1 ?_)
                    show V X (rmD 8 3 16) M 0 0 [(0, .ref dk), (1, .int (nI x)), (2, .int (nI y)), (3, .int (nI a)), (4, .int (nI b)), (5, .int hh), (6, .int kk), (7, .int ss), (8, .int tt)] 107 [.int (bI (decide (12 ≤ nT)))]
                    refine v_ifb_eq (tgt := 113) C dX9_thing_107 (by decide) (fun h107 => ?_) (fun h107 => ?_)
                    · have g107 : nT < 12 := by have := of_decide_eq_false h107; omega
                      obtain ⟨h, hLh, hjh, rfl⟩ := qin_nJ (x := hh) (L := 1) (N := 20) (by decide) (by decide) h58
                      obtain ⟨k, hLk, hjk, rfl⟩ := qin_nJ (x := kk) (L := 0) (N := 5) (by decide) (by decide) h68
                      obtain ⟨s, hLs, hjs, rfl⟩ := qin_nJ (x := ss) (L := 0) (N := 99) (by decide) (by decide) h79
                      obtain ⟨t, hLt, hjt, rfl⟩ := qin_nJ (x := tt) (L := 0) (N := 99) (by decide) (by decide) h87
                      have g94 := nI_leN (by omega) (by omega) h94
                      have g44b := g44
                      rw [Bool.and_eq_true, decide_eq_true_eq, decide_eq_true_eq, nI_add, nI_add] at g44b
                      have g1 : x + a ≤ 12 := nI_leN (b := 12) (by omega) (by decide) g44b.1
                      have g2 : y + b ≤ 8 := nI_leN (b := 8) (by omega) (by decide) g44b.2
                      show V X (rmD 8 3 16) M 0 0 [(0, .ref dk), (1, .int (nI x)), (2, .int (nI y)), (3, .int (nI a)), (4, .int (nI b)), (5, .int (nI h)), (6, .int (nI k)), (7, .int (nI s)), (8, .int (nI t))] 113 []
                      refine v_bipush C dX9_thing_113 (v := 11) rfl ?_
                      refine v_newa C 0 (ty0 := .int) (L := 11) (z := (11, .inl (fun _ => 0))) rfl rfl wA_Jvm_ClassFile_FieldType_int (fun U cA h => h) (fun cA => rfl) (by decide) rfl (by decide) (by decide) (by decide) dX9_thing_115 (fun q115 hq115 => ?_)
                      show V X (rmD 8 3 16) (mset M q115 (aI (xg X) 11 (fun _ => 0))) 1 11 [(0, .ref dk), (1, .int (nI x)), (2, .int (nI y)), (3, .int (nI a)), (4, .int (nI b)), (5, .int (nI h)), (6, .int (nI k)), (7, .int (nI s)), (8, .int (nI t))] 117 [.ref q115]
                      refine v_dup C dX9_thing_117 rfl ?_
                      refine v_iconst C dX9_thing_118 (v := 0) rfl ?_
                      refine v_iload_n C dX9_thing_119 rfl ?_
                      refine v_iast C (mset_same _ _ _) (show vp_in (nI 0) 11 from vp_in_nI (by decide) (by decide)) dX9_thing_120 ?_
                      show V X (rmD 8 3 16) (mset (mset M q115 (aI (xg X) 11 (fun _ => 0))) q115 (aI (xg X) 11 (upd (fun _ => 0) (0 : Int32).toNatClampNeg (nI x)))) 1 11 [(0, .ref dk), (1, .int (nI x)), (2, .int (nI y)), (3, .int (nI a)), (4, .int (nI b)), (5, .int (nI h)), (6, .int (nI k)), (7, .int (nI s)), (8, .int (nI t))] 121 [.ref q115]
                      refine v_dup C dX9_thing_121 rfl ?_
                      refine v_iconst C dX9_thing_122 (v := 1) rfl ?_
                      refine v_iload_n C dX9_thing_123 rfl ?_
                      refine v_iast C (mset_same _ _ _) (show vp_in (nI 1) 11 from vp_in_nI (by decide) (by decide)) dX9_thing_124 ?_
                      show V X (rmD 8 3 16) (mset (mset (mset M q115 (aI (xg X) 11 (fun _ => 0))) q115 (aI (xg X) 11 (upd (fun _ => 0) (0 : Int32).toNatClampNeg (nI x)))) q115 (aI (xg X) 11 (upd (upd (fun _ => 0) (0 : Int32).toNatClampNeg (nI x)) (1 : Int32).toNatClampNeg (nI y)))) 1 11 [(0, .ref dk), (1, .int (nI x)), (2, .int (nI y)), (3, .int (nI a)), (4, .int (nI b)), (5, .int (nI h)), (6, .int (nI k)), (7, .int (nI s)), (8, .int (nI t))] 125 [.ref q115]
                      refine v_dup C dX9_thing_125 rfl ?_
                      refine v_iconst C dX9_thing_126 (v := 2) rfl ?_
                      refine v_iload_n C dX9_thing_127 rfl ?_
                      refine v_iast C (mset_same _ _ _) (show vp_in (nI 2) 11 from vp_in_nI (by decide) (by decide)) dX9_thing_128 ?_
                      show V X (rmD 8 3 16) (mset (mset (mset (mset M q115 (aI (xg X) 11 (fun _ => 0))) q115 (aI (xg X) 11 (upd (fun _ => 0) (0 : Int32).toNatClampNeg (nI x)))) q115 (aI (xg X) 11 (upd (upd (fun _ => 0) (0 : Int32).toNatClampNeg (nI x)) (1 : Int32).toNatClampNeg (nI y)))) q115 (aI (xg X) 11 (upd (upd (upd (fun _ => 0) (0 : Int32).toNatClampNeg (nI x)) (1 : Int32).toNatClampNeg (nI y)) (2 : Int32).toNatClampNeg (nI a)))) 1 11 [(0, .ref dk), (1, .int (nI x)), (2, .int (nI y)), (3, .int (nI a)), (4, .int (nI b)), (5, .int (nI h)), (6, .int (nI k)), (7, .int (nI s)), (8, .int (nI t))] 129 [.ref q115]
                      refine v_dup C dX9_thing_129 rfl ?_
                      refine v_iconst C dX9_thing_130 (v := 3) rfl ?_
                      refine v_iload C dX9_thing_131 rfl ?_
                      refine v_iast C (mset_same _ _ _) (show vp_in (nI 3) 11 from vp_in_nI (by decide) (by decide)) dX9_thing_133 ?_
                      show V X (rmD 8 3 16) (mset (mset (mset (mset (mset M q115 (aI (xg X) 11 (fun _ => 0))) q115 (aI (xg X) 11 (upd (fun _ => 0) (0 : Int32).toNatClampNeg (nI x)))) q115 (aI (xg X) 11 (upd (upd (fun _ => 0) (0 : Int32).toNatClampNeg (nI x)) (1 : Int32).toNatClampNeg (nI y)))) q115 (aI (xg X) 11 (upd (upd (upd (fun _ => 0) (0 : Int32).toNatClampNeg (nI x)) (1 : Int32).toNatClampNeg (nI y)) (2 : Int32).toNatClampNeg (nI a)))) q115 (aI (xg X) 11 (upd (upd (upd (upd (fun _ => 0) (0 : Int32).toNatClampNeg (nI x)) (1 : Int32).toNatClampNeg (nI y)) (2 : Int32).toNatClampNeg (nI a)) (3 : Int32).toNatClampNeg (nI b)))) 1 11 [(0, .ref dk), (1, .int (nI x)), (2, .int (nI y)), (3, .int (nI a)), (4, .int (nI b)), (5, .int (nI h)), (6, .int (nI k)), (7, .int (nI s)), (8, .int (nI t))] 134 [.ref q115]
                      refine v_dup C dX9_thing_134 rfl ?_
                      refine v_iconst C dX9_thing_135 (v := 4) rfl ?_
                      refine v_iload C dX9_thing_136 rfl ?_
                      refine v_iast C (mset_same _ _ _) (show vp_in (nI 4) 11 from vp_in_nI (by decide) (by decide)) dX9_thing_138 ?_
                      show V X (rmD 8 3 16) (mset (mset (mset (mset (mset (mset M q115 (aI (xg X) 11 (fun _ => 0))) q115 (aI (xg X) 11 (upd (fun _ => 0) (0 : Int32).toNatClampNeg (nI x)))) q115 (aI (xg X) 11 (upd (upd (fun _ => 0) (0 : Int32).toNatClampNeg (nI x)) (1 : Int32).toNatClampNeg (nI y)))) q115 (aI (xg X) 11 (upd (upd (upd (fun _ => 0) (0 : Int32).toNatClampNeg (nI x)) (1 : Int32).toNatClampNeg (nI y)) (2 : Int32).toNatClampNeg (nI a)))) q115 (aI (xg X) 11 (upd (upd (upd (upd (fun _ => 0) (0 : Int32).toNatClampNeg (nI x)) (1 : Int32).toNatClampNeg (nI y)) (2 : Int32).toNatClampNeg (nI a)) (3 : Int32).toNatClampNeg (nI b)))) q115 (aI (xg X) 11 (upd (upd (upd (upd (upd (fun _ => 0) (0 : Int32).toNatClampNeg (nI x)) (1 : Int32).toNatClampNeg (nI y)) (2 : Int32).toNatClampNeg (nI a)) (3 : Int32).toNatClampNeg (nI b)) (4 : Int32).toNatClampNeg (nI h)))) 1 11 [(0, .ref dk), (1, .int (nI x)), (2, .int (nI y)), (3, .int (nI a)), (4, .int (nI b)), (5, .int (nI h)), (6, .int (nI k)), (7, .int (nI s)), (8, .int (nI t))] 139 [.ref q115]
                      refine v_dup C dX9_thing_139 rfl ?_
                      refine v_iconst C dX9_thing_140 (v := 5) rfl ?_
                      refine v_iload C dX9_thing_141 rfl ?_
                      refine v_iast C (mset_same _ _ _) (show vp_in (nI 5) 11 from vp_in_nI (by decide) (by decide)) dX9_thing_143 ?_
                      show V X (rmD 8 3 16) (mset (mset (mset (mset (mset (mset (mset M q115 (aI (xg X) 11 (fun _ => 0))) q115 (aI (xg X) 11 (upd (fun _ => 0) (0 : Int32).toNatClampNeg (nI x)))) q115 (aI (xg X) 11 (upd (upd (fun _ => 0) (0 : Int32).toNatClampNeg (nI x)) (1 : Int32).toNatClampNeg (nI y)))) q115 (aI (xg X) 11 (upd (upd (upd (fun _ => 0) (0 : Int32).toNatClampNeg (nI x)) (1 : Int32).toNatClampNeg (nI y)) (2 : Int32).toNatClampNeg (nI a)))) q115 (aI (xg X) 11 (upd (upd (upd (upd (fun _ => 0) (0 : Int32).toNatClampNeg (nI x)) (1 : Int32).toNatClampNeg (nI y)) (2 : Int32).toNatClampNeg (nI a)) (3 : Int32).toNatClampNeg (nI b)))) q115 (aI (xg X) 11 (upd (upd (upd (upd (upd (fun _ => 0) (0 : Int32).toNatClampNeg (nI x)) (1 : Int32).toNatClampNeg (nI y)) (2 : Int32).toNatClampNeg (nI a)) (3 : Int32).toNatClampNeg (nI b)) (4 : Int32).toNatClampNeg (nI h)))) q115 (aI (xg X) 11 (upd (upd (upd (upd (upd (upd (fun _ => 0) (0 : Int32).toNatClampNeg (nI x)) (1 : Int32).toNatClampNeg (nI y)) (2 : Int32).toNatClampNeg (nI a)) (3 : Int32).toNatClampNeg (nI b)) (4 : Int32).toNatClampNeg (nI h)) (5 : Int32).toNatClampNeg (nI k)))) 1 11 [(0, .ref dk), (1, .int (nI x)), (2, .int (nI y)), (3, .int (nI a)), (4, .int (nI b)), (5, .int (nI h)), (6, .int (nI k)), (7, .int (nI s)), (8, .int (nI t))] 144 [.ref q115]
                      refine v_dup C dX9_thing_144 rfl ?_
                      refine v_bipush C dX9_thing_145 (v := 6) rfl ?_
                      refine v_iload C dX9_thing_147 rfl ?_
                      refine v_iast C (mset_same _ _ _) (show vp_in (nI 6) 11 from vp_in_nI (by decide) (by decide)) dX9_thing_149 ?_
                      show V X (rmD 8 3 16) (mset (mset (mset (mset (mset (mset (mset (mset M q115 (aI (xg X) 11 (fun _ => 0))) q115 (aI (xg X) 11 (upd (fun _ => 0) (0 : Int32).toNatClampNeg (nI x)))) q115 (aI (xg X) 11 (upd (upd (fun _ => 0) (0 : Int32).toNatClampNeg (nI x)) (1 : Int32).toNatClampNeg (nI y)))) q115 (aI (xg X) 11 (upd (upd (upd (fun _ => 0) (0 : Int32).toNatClampNeg (nI x)) (1 : Int32).toNatClampNeg (nI y)) (2 : Int32).toNatClampNeg (nI a)))) q115 (aI (xg X) 11 (upd (upd (upd (upd (fun _ => 0) (0 : Int32).toNatClampNeg (nI x)) (1 : Int32).toNatClampNeg (nI y)) (2 : Int32).toNatClampNeg (nI a)) (3 : Int32).toNatClampNeg (nI b)))) q115 (aI (xg X) 11 (upd (upd (upd (upd (upd (fun _ => 0) (0 : Int32).toNatClampNeg (nI x)) (1 : Int32).toNatClampNeg (nI y)) (2 : Int32).toNatClampNeg (nI a)) (3 : Int32).toNatClampNeg (nI b)) (4 : Int32).toNatClampNeg (nI h)))) q115 (aI (xg X) 11 (upd (upd (upd (upd (upd (upd (fun _ => 0) (0 : Int32).toNatClampNeg (nI x)) (1 : Int32).toNatClampNeg (nI y)) (2 : Int32).toNatClampNeg (nI a)) (3 : Int32).toNatClampNeg (nI b)) (4 : Int32).toNatClampNeg (nI h)) (5 : Int32).toNatClampNeg (nI k)))) q115 (aI (xg X) 11 (upd (upd (upd (upd (upd (upd (upd (fun _ => 0) (0 : Int32).toNatClampNeg (nI x)) (1 : Int32).toNatClampNeg (nI y)) (2 : Int32).toNatClampNeg (nI a)) (3 : Int32).toNatClampNeg (nI b)) (4 : Int32).toNatClampNeg (nI h)) (5 : Int32).toNatClampNeg (nI k)) (6 : Int32).toNatClampNeg (nI s)))) 1 11 [(0, .ref dk), (1, .int (nI x)), (2, .int (nI y)), (3, .int (nI a)), (4, .int (nI b)), (5, .int (nI h)), (6, .int (nI k)), (7, .int (nI s)), (8, .int (nI t))] 150 [.ref q115]
                      refine v_dup C dX9_thing_150 rfl ?_
                      refine v_bipush C dX9_thing_151 (v := 7) rfl ?_
                      refine v_iload C dX9_thing_153 rfl ?_
                      refine v_iast C (mset_same _ _ _) (show vp_in (nI 7) 11 from vp_in_nI (by decide) (by decide)) dX9_thing_155 ?_
                      show V X (rmD 8 3 16) (mset (mset (mset (mset (mset (mset (mset (mset (mset M q115 (aI (xg X) 11 (fun _ => 0))) q115 (aI (xg X) 11 (upd (fun _ => 0) (0 : Int32).toNatClampNeg (nI x)))) q115 (aI (xg X) 11 (upd (upd (fun _ => 0) (0 : Int32).toNatClampNeg (nI x)) (1 : Int32).toNatClampNeg (nI y)))) q115 (aI (xg X) 11 (upd (upd (upd (fun _ => 0) (0 : Int32).toNatClampNeg (nI x)) (1 : Int32).toNatClampNeg (nI y)) (2 : Int32).toNatClampNeg (nI a)))) q115 (aI (xg X) 11 (upd (upd (upd (upd (fun _ => 0) (0 : Int32).toNatClampNeg (nI x)) (1 : Int32).toNatClampNeg (nI y)) (2 : Int32).toNatClampNeg (nI a)) (3 : Int32).toNatClampNeg (nI b)))) q115 (aI (xg X) 11 (upd (upd (upd (upd (upd (fun _ => 0) (0 : Int32).toNatClampNeg (nI x)) (1 : Int32).toNatClampNeg (nI y)) (2 : Int32).toNatClampNeg (nI a)) (3 : Int32).toNatClampNeg (nI b)) (4 : Int32).toNatClampNeg (nI h)))) q115 (aI (xg X) 11 (upd (upd (upd (upd (upd (upd (fun _ => 0) (0 : Int32).toNatClampNeg (nI x)) (1 : Int32).toNatClampNeg (nI y)) (2 : Int32).toNatClampNeg (nI a)) (3 : Int32).toNatClampNeg (nI b)) (4 : Int32).toNatClampNeg (nI h)) (5 : Int32).toNatClampNeg (nI k)))) q115 (aI (xg X) 11 (upd (upd (upd (upd (upd (upd (upd (fun _ => 0) (0 : Int32).toNatClampNeg (nI x)) (1 : Int32).toNatClampNeg (nI y)) (2 : Int32).toNatClampNeg (nI a)) (3 : Int32).toNatClampNeg (nI b)) (4 : Int32).toNatClampNeg (nI h)) (5 : Int32).toNatClampNeg (nI k)) (6 : Int32).toNatClampNeg (nI s)))) q115 (aI (xg X) 11 (upd (upd (upd (upd (upd (upd (upd (upd (fun _ => 0) (0 : Int32).toNatClampNeg (nI x)) (1 : Int32).toNatClampNeg (nI y)) (2 : Int32).toNatClampNeg (nI a)) (3 : Int32).toNatClampNeg (nI b)) (4 : Int32).toNatClampNeg (nI h)) (5 : Int32).toNatClampNeg (nI k)) (6 : Int32).toNatClampNeg (nI s)) (7 : Int32).toNatClampNeg (nI t)))) 1 11 [(0, .ref dk), (1, .int (nI x)), (2, .int (nI y)), (3, .int (nI a)), (4, .int (nI b)), (5, .int (nI h)), (6, .int (nI k)), (7, .int (nI s)), (8, .int (nI t))] 156 [.ref q115]
                      refine v_dup C dX9_thing_156 rfl ?_
                      refine v_bipush C dX9_thing_157 (v := 8) rfl ?_
                      refine v_bipush C dX9_thing_159 (v := 8) rfl ?_
                      refine v_iast C (mset_same _ _ _) (show vp_in (nI 8) 11 from vp_in_nI (by decide) (by decide)) dX9_thing_161 ?_
                      show V X (rmD 8 3 16) (mset (mset (mset (mset (mset (mset (mset (mset (mset (mset M q115 (aI (xg X) 11 (fun _ => 0))) q115 (aI (xg X) 11 (upd (fun _ => 0) (0 : Int32).toNatClampNeg (nI x)))) q115 (aI (xg X) 11 (upd (upd (fun _ => 0) (0 : Int32).toNatClampNeg (nI x)) (1 : Int32).toNatClampNeg (nI y)))) q115 (aI (xg X) 11 (upd (upd (upd (fun _ => 0) (0 : Int32).toNatClampNeg (nI x)) (1 : Int32).toNatClampNeg (nI y)) (2 : Int32).toNatClampNeg (nI a)))) q115 (aI (xg X) 11 (upd (upd (upd (upd (fun _ => 0) (0 : Int32).toNatClampNeg (nI x)) (1 : Int32).toNatClampNeg (nI y)) (2 : Int32).toNatClampNeg (nI a)) (3 : Int32).toNatClampNeg (nI b)))) q115 (aI (xg X) 11 (upd (upd (upd (upd (upd (fun _ => 0) (0 : Int32).toNatClampNeg (nI x)) (1 : Int32).toNatClampNeg (nI y)) (2 : Int32).toNatClampNeg (nI a)) (3 : Int32).toNatClampNeg (nI b)) (4 : Int32).toNatClampNeg (nI h)))) q115 (aI (xg X) 11 (upd (upd (upd (upd (upd (upd (fun _ => 0) (0 : Int32).toNatClampNeg (nI x)) (1 : Int32).toNatClampNeg (nI y)) (2 : Int32).toNatClampNeg (nI a)) (3 : Int32).toNatClampNeg (nI b)) (4 : Int32).toNatClampNeg (nI h)) (5 : Int32).toNatClampNeg (nI k)))) q115 (aI (xg X) 11 (upd (upd (upd (upd (upd (upd (upd (fun _ => 0) (0 : Int32).toNatClampNeg (nI x)) (1 : Int32).toNatClampNeg (nI y)) (2 : Int32).toNatClampNeg (nI a)) (3 : Int32).toNatClampNeg (nI b)) (4 : Int32).toNatClampNeg (nI h)) (5 : Int32).toNatClampNeg (nI k)) (6 : Int32).toNatClampNeg (nI s)))) q115 (aI (xg X) 11 (upd (upd (upd (upd (upd (upd (upd (upd (fun _ => 0) (0 : Int32).toNatClampNeg (nI x)) (1 : Int32).toNatClampNeg (nI y)) (2 : Int32).toNatClampNeg (nI a)) (3 : Int32).toNatClampNeg (nI b)) (4 : Int32).toNatClampNeg (nI h)) (5 : Int32).toNatClampNeg (nI k)) (6 : Int32).toNatClampNeg (nI s)) (7 : Int32).toNatClampNeg (nI t)))) q115 (aI (xg X) 11 (upd (upd (upd (upd (upd (upd (upd (upd (upd (fun _ => 0) (0 : Int32).toNatClampNeg (nI x)) (1 : Int32).toNatClampNeg (nI y)) (2 : Int32).toNatClampNeg (nI a)) (3 : Int32).toNatClampNeg (nI b)) (4 : Int32).toNatClampNeg (nI h)) (5 : Int32).toNatClampNeg (nI k)) (6 : Int32).toNatClampNeg (nI s)) (7 : Int32).toNatClampNeg (nI t)) (8 : Int32).toNatClampNeg 8))) 1 11 [(0, .ref dk), (1, .int (nI x)), (2, .int (nI y)), (3, .int (nI a)), (4, .int (nI b)), (5, .int (nI h)), (6, .int (nI k)), (7, .int (nI s)), (8, .int (nI t))] 162 [.ref q115]
                      refine v_dup C dX9_thing_162 rfl ?_
                      refine v_bipush C dX9_thing_163 (v := 9) rfl ?_
                      refine v_iconst C dX9_thing_165 (v := 0) rfl ?_
                      refine v_iast C (mset_same _ _ _) (show vp_in (nI 9) 11 from vp_in_nI (by decide) (by decide)) dX9_thing_166 ?_
                      show V X (rmD 8 3 16) (mset (mset (mset (mset (mset (mset (mset (mset (mset (mset (mset M q115 (aI (xg X) 11 (fun _ => 0))) q115 (aI (xg X) 11 (upd (fun _ => 0) (0 : Int32).toNatClampNeg (nI x)))) q115 (aI (xg X) 11 (upd (upd (fun _ => 0) (0 : Int32).toNatClampNeg (nI x)) (1 : Int32).toNatClampNeg (nI y)))) q115 (aI (xg X) 11 (upd (upd (upd (fun _ => 0) (0 : Int32).toNatClampNeg (nI x)) (1 : Int32).toNatClampNeg (nI y)) (2 : Int32).toNatClampNeg (nI a)))) q115 (aI (xg X) 11 (upd (upd (upd (upd (fun _ => 0) (0 : Int32).toNatClampNeg (nI x)) (1 : Int32).toNatClampNeg (nI y)) (2 : Int32).toNatClampNeg (nI a)) (3 : Int32).toNatClampNeg (nI b)))) q115 (aI (xg X) 11 (upd (upd (upd (upd (upd (fun _ => 0) (0 : Int32).toNatClampNeg (nI x)) (1 : Int32).toNatClampNeg (nI y)) (2 : Int32).toNatClampNeg (nI a)) (3 : Int32).toNatClampNeg (nI b)) (4 : Int32).toNatClampNeg (nI h)))) q115 (aI (xg X) 11 (upd (upd (upd (upd (upd (upd (fun _ => 0) (0 : Int32).toNatClampNeg (nI x)) (1 : Int32).toNatClampNeg (nI y)) (2 : Int32).toNatClampNeg (nI a)) (3 : Int32).toNatClampNeg (nI b)) (4 : Int32).toNatClampNeg (nI h)) (5 : Int32).toNatClampNeg (nI k)))) q115 (aI (xg X) 11 (upd (upd (upd (upd (upd (upd (upd (fun _ => 0) (0 : Int32).toNatClampNeg (nI x)) (1 : Int32).toNatClampNeg (nI y)) (2 : Int32).toNatClampNeg (nI a)) (3 : Int32).toNatClampNeg (nI b)) (4 : Int32).toNatClampNeg (nI h)) (5 : Int32).toNatClampNeg (nI k)) (6 : Int32).toNatClampNeg (nI s)))) q115 (aI (xg X) 11 (upd (upd (upd (upd (upd (upd (upd (upd (fun _ => 0) (0 : Int32).toNatClampNeg (nI x)) (1 : Int32).toNatClampNeg (nI y)) (2 : Int32).toNatClampNeg (nI a)) (3 : Int32).toNatClampNeg (nI b)) (4 : Int32).toNatClampNeg (nI h)) (5 : Int32).toNatClampNeg (nI k)) (6 : Int32).toNatClampNeg (nI s)) (7 : Int32).toNatClampNeg (nI t)))) q115 (aI (xg X) 11 (upd (upd (upd (upd (upd (upd (upd (upd (upd (fun _ => 0) (0 : Int32).toNatClampNeg (nI x)) (1 : Int32).toNatClampNeg (nI y)) (2 : Int32).toNatClampNeg (nI a)) (3 : Int32).toNatClampNeg (nI b)) (4 : Int32).toNatClampNeg (nI h)) (5 : Int32).toNatClampNeg (nI k)) (6 : Int32).toNatClampNeg (nI s)) (7 : Int32).toNatClampNeg (nI t)) (8 : Int32).toNatClampNeg 8))) q115 (aI (xg X) 11 (upd (upd (upd (upd (upd (upd (upd (upd (upd (upd (fun _ => 0) (0 : Int32).toNatClampNeg (nI x)) (1 : Int32).toNatClampNeg (nI y)) (2 : Int32).toNatClampNeg (nI a)) (3 : Int32).toNatClampNeg (nI b)) (4 : Int32).toNatClampNeg (nI h)) (5 : Int32).toNatClampNeg (nI k)) (6 : Int32).toNatClampNeg (nI s)) (7 : Int32).toNatClampNeg (nI t)) (8 : Int32).toNatClampNeg 8) (9 : Int32).toNatClampNeg 0))) 1 11 [(0, .ref dk), (1, .int (nI x)), (2, .int (nI y)), (3, .int (nI a)), (4, .int (nI b)), (5, .int (nI h)), (6, .int (nI k)), (7, .int (nI s)), (8, .int (nI t))] 167 [.ref q115]
                      refine v_dup C dX9_thing_167 rfl ?_
                      refine v_bipush C dX9_thing_168 (v := 10) rfl ?_
                      refine v_iconst C dX9_thing_170 (v := 0) rfl ?_
                      refine v_iast C (mset_same _ _ _) (show vp_in (nI 10) 11 from vp_in_nI (by decide) (by decide)) dX9_thing_171 ?_
                      show V X (rmD 8 3 16) (mset (mset (mset (mset (mset (mset (mset (mset (mset (mset (mset (mset M q115 (aI (xg X) 11 (fun _ => 0))) q115 (aI (xg X) 11 (upd (fun _ => 0) (0 : Int32).toNatClampNeg (nI x)))) q115 (aI (xg X) 11 (upd (upd (fun _ => 0) (0 : Int32).toNatClampNeg (nI x)) (1 : Int32).toNatClampNeg (nI y)))) q115 (aI (xg X) 11 (upd (upd (upd (fun _ => 0) (0 : Int32).toNatClampNeg (nI x)) (1 : Int32).toNatClampNeg (nI y)) (2 : Int32).toNatClampNeg (nI a)))) q115 (aI (xg X) 11 (upd (upd (upd (upd (fun _ => 0) (0 : Int32).toNatClampNeg (nI x)) (1 : Int32).toNatClampNeg (nI y)) (2 : Int32).toNatClampNeg (nI a)) (3 : Int32).toNatClampNeg (nI b)))) q115 (aI (xg X) 11 (upd (upd (upd (upd (upd (fun _ => 0) (0 : Int32).toNatClampNeg (nI x)) (1 : Int32).toNatClampNeg (nI y)) (2 : Int32).toNatClampNeg (nI a)) (3 : Int32).toNatClampNeg (nI b)) (4 : Int32).toNatClampNeg (nI h)))) q115 (aI (xg X) 11 (upd (upd (upd (upd (upd (upd (fun _ => 0) (0 : Int32).toNatClampNeg (nI x)) (1 : Int32).toNatClampNeg (nI y)) (2 : Int32).toNatClampNeg (nI a)) (3 : Int32).toNatClampNeg (nI b)) (4 : Int32).toNatClampNeg (nI h)) (5 : Int32).toNatClampNeg (nI k)))) q115 (aI (xg X) 11 (upd (upd (upd (upd (upd (upd (upd (fun _ => 0) (0 : Int32).toNatClampNeg (nI x)) (1 : Int32).toNatClampNeg (nI y)) (2 : Int32).toNatClampNeg (nI a)) (3 : Int32).toNatClampNeg (nI b)) (4 : Int32).toNatClampNeg (nI h)) (5 : Int32).toNatClampNeg (nI k)) (6 : Int32).toNatClampNeg (nI s)))) q115 (aI (xg X) 11 (upd (upd (upd (upd (upd (upd (upd (upd (fun _ => 0) (0 : Int32).toNatClampNeg (nI x)) (1 : Int32).toNatClampNeg (nI y)) (2 : Int32).toNatClampNeg (nI a)) (3 : Int32).toNatClampNeg (nI b)) (4 : Int32).toNatClampNeg (nI h)) (5 : Int32).toNatClampNeg (nI k)) (6 : Int32).toNatClampNeg (nI s)) (7 : Int32).toNatClampNeg (nI t)))) q115 (aI (xg X) 11 (upd (upd (upd (upd (upd (upd (upd (upd (upd (fun _ => 0) (0 : Int32).toNatClampNeg (nI x)) (1 : Int32).toNatClampNeg (nI y)) (2 : Int32).toNatClampNeg (nI a)) (3 : Int32).toNatClampNeg (nI b)) (4 : Int32).toNatClampNeg (nI h)) (5 : Int32).toNatClampNeg (nI k)) (6 : Int32).toNatClampNeg (nI s)) (7 : Int32).toNatClampNeg (nI t)) (8 : Int32).toNatClampNeg 8))) q115 (aI (xg X) 11 (upd (upd (upd (upd (upd (upd (upd (upd (upd (upd (fun _ => 0) (0 : Int32).toNatClampNeg (nI x)) (1 : Int32).toNatClampNeg (nI y)) (2 : Int32).toNatClampNeg (nI a)) (3 : Int32).toNatClampNeg (nI b)) (4 : Int32).toNatClampNeg (nI h)) (5 : Int32).toNatClampNeg (nI k)) (6 : Int32).toNatClampNeg (nI s)) (7 : Int32).toNatClampNeg (nI t)) (8 : Int32).toNatClampNeg 8) (9 : Int32).toNatClampNeg 0))) q115 (aI (xg X) 11 (upd (upd (upd (upd (upd (upd (upd (upd (upd (upd (upd (fun _ => 0) (0 : Int32).toNatClampNeg (nI x)) (1 : Int32).toNatClampNeg (nI y)) (2 : Int32).toNatClampNeg (nI a)) (3 : Int32).toNatClampNeg (nI b)) (4 : Int32).toNatClampNeg (nI h)) (5 : Int32).toNatClampNeg (nI k)) (6 : Int32).toNatClampNeg (nI s)) (7 : Int32).toNatClampNeg (nI t)) (8 : Int32).toNatClampNeg 8) (9 : Int32).toNatClampNeg 0) (10 : Int32).toNatClampNeg 0))) 1 11 [(0, .ref dk), (1, .int (nI x)), (2, .int (nI y)), (3, .int (nI a)), (4, .int (nI b)), (5, .int (nI h)), (6, .int (nI k)), (7, .int (nI s)), (8, .int (nI t))] 172 [.ref q115]
                      simp only [mset_mset]
                      rw [show (0 : Int32).toNatClampNeg = 0 from rfl, show (1 : Int32).toNatClampNeg = 1 from rfl, show (2 : Int32).toNatClampNeg = 2 from rfl, show (3 : Int32).toNatClampNeg = 3 from rfl, show (4 : Int32).toNatClampNeg = 4 from rfl, show (5 : Int32).toNatClampNeg = 5 from rfl, show (6 : Int32).toNatClampNeg = 6 from rfl, show (7 : Int32).toNatClampNeg = 7 from rfl, show (8 : Int32).toNatClampNeg = 8 from rfl, show (9 : Int32).toNatClampNeg = 9 from rfl, show (10 : Int32).toNatClampNeg = 10 from rfl, nw_row]
                      show V X (rmD 8 3 16) (mset M q115 (aI (xg X) 11 (fun w => nI (nw x y a b h k s t w)))) 1 11 [(0, .ref dk), (1, .int (nI x)), (2, .int (nI y)), (3, .int (nI a)), (4, .int (nI b)), (5, .int (nI h)), (6, .int (nI k)), (7, .int (nI s)), (8, .int (nI t))] 172 [.ref q115]
                      refine v_astore (lv' := [(9, .ref q115), (0, .ref dk), (1, .int (nI x)), (2, .int (nI y)), (3, .int (nI a)), (4, .int (nI b)), (5, .int (nI h)), (6, .int (nI k)), (7, .int (nI s)), (8, .int (nI t))]) C dX9_thing_172 hN (by decide) rfl ?_
                      refine v_aload_n C dX9_thing_174 rfl ?_
                      refine v_get C kX9 ((mset_ne (fresh_ne hD1 hq115)).trans hD1) 0 (by decide) wF_X9_10 rfl dX9_thing_175 ?_
                      refine v_aload C dX9_thing_178 rfl ?_
                      refine v_callV (As := [.ref q115]) (rest := []) (b := la) C (c_X3_add (xl X) (xg X) (mset M q115 (aI (xg X) 11 (fun w => nI (nw x y a b h k s t w)))) la ta th mk dn nT m lo hi q115 (nw x y a b h k s t) g107 (mset_same _ _ _) (nw_ok (by omega) (by omega) ⟨hLa, hja⟩ ⟨hLb, hjb⟩ g1 g2 ⟨hLh, hjh⟩ (by omega) g94 (by omega)) (hL.keep (Keep.new hq115 _))) pm_X3_add wI_X3_add wS_X3_add wM_X9_67 kX3 ((mset_ne (fresh_ne hL.2.1 hq115)).trans hL.2.1) ⟨by decide, by decide⟩ ⟨by decide, by decide⟩ (nle rfl) dX9_thing_180 rfl ?_
                      rintro _ N1 ⟨rfl, q, tq, hq, htq, kL, K1⟩
                      have K : ∀ {ks : List Nat}, (∀ z ∈ ks, z ∈ [9, 0, 2010, 5, 7, 196, 1, 109, 8, 140, 2005, 105, 4, 2, 108, 1256, 111]) → Keep M N1 ks := fun h b e hb he => K1 b e ((mset_ne (fresh_ne hb hq115)).trans hb) (h _ he)
                      have kD := K (ks := [9]) (by decide) _ _ hD1 (by simp [kd])
                      have kA := hA.keep (K (by decide))
                      show V X (rmD 8 3 16) N1 3 16 [(9, .ref q115), (0, .ref dk), (1, .int (nI x)), (2, .int (nI y)), (3, .int (nI a)), (4, .int (nI b)), (5, .int (nI h)), (6, .int (nI k)), (7, .int (nI s)), (8, .int (nI t))] 183 [.int (nI nT)]
                      refine v_istore (lv' := [(10, .int (nI nT)), (9, .ref q115), (0, .ref dk), (1, .int (nI x)), (2, .int (nI y)), (3, .int (nI a)), (4, .int (nI b)), (5, .int (nI h)), (6, .int (nI k)), (7, .int (nI s)), (8, .int (nI t))]) C dX9_thing_183 hN (by decide) rfl ?_
                      refine v_aload_n C dX9_thing_185 rfl ?_
                      refine v_get C kX9 kD 1 (by decide) wF_X9_19 rfl dX9_thing_186 ?_
                      refine v_aload_n C dX9_thing_189 rfl ?_
                      refine v_get C kX9 kD 0 (by decide) wF_X9_10 rfl dX9_thing_190 ?_
                      refine v_callV (As := [.ref la]) (rest := []) (b := al) C (c_X0_develop (xl X) (xg X) N1 al pt pa ca ka ra nP pf pl ph cn lk kA la ta (fun i => if i = nT then q else th i) (fun i => if i = nT then q115 else mk i) (fun i => if i = nT then tq else dn i) (nT + 1) (fun i => if i = nT then nw x y a b h k s t else m i) (fun i => if i = nT then 0 else lo i) (fun i => if i = nT then 0 else hi i) kL) pm_X0_develop wI_X0_develop wS_X0_develop wM_X9_71 kX0 kA.2.1 ⟨by decide, by decide⟩ ⟨by decide, by decide⟩ (nle rfl) dX9_thing_193 rfl ?_
                      rintro _ N ⟨rfl, cn', lk', hN, hr, hfr⟩
                      have o2 : ∀ u, u < nT → dn u ≠ tq := fun u hu z => by have := (hL.2.2.2 u hu).2.2.1; rw [z] at this; rw [(mset_ne (fresh_ne this hq115)).trans this] at htq; cases htq
                      have o3 : ∀ p, p < nP → ca p ≠ tq := fun p hp z => by have := (hA.2.2.2.1 p hp).2.2.2.1; rw [z] at this; rw [(mset_ne (fresh_ne this hq115)).trans this] at htq; cases htq
                      have o1 : ∀ u, u < nT → mk u ≠ q115 := fun u hu => fresh_ne (hL.2.2.2 u hu).2.1 hq115
                      have hE := desk_dev (dB := fun i => if i = nT then fun _ => false else dB i) kD kL kA ⟨K (ks := [1, 109]) (by decide) _ _ hF (by simp [kd]), K (ks := [1, 109]) (by decide) _ _ hV (by simp [kd])⟩ (hU.keepN (K (by decide))) ⟨K (ks := [4]) (by decide) _ _ hI (by simp [kd]), K (ks := [196]) (by decide) _ _ hX (by simp [kd])⟩ (hY.keep (K (by decide))) (fun u hu d hd => by
                        by_cases z : u = nT
                        · simp only [if_pos z]; exact tk_0 d
                        · simp only [if_neg z]; exact hdB u (by omega) d hd) hcB (fun u hu v hv huv => by
                        by_cases z : u = nT
                        · by_cases y : v = nT
                          · exact absurd (z.trans y.symm) huv
                          · simp only [if_pos z, if_neg y]; exact ⟨Ne.symm (o1 v (by omega)), Ne.symm (o2 v (by omega))⟩
                        · by_cases y : v = nT
                          · simp only [if_neg z, if_pos y]; exact ⟨o1 u (by omega), o2 u (by omega)⟩
                          · simp only [if_neg z, if_neg y]; exact hinj u (by omega) v (by omega) huv) hxr (fun p hp u hu => by
                        by_cases z : u = nT
                        · simp only [if_pos z]; exact o3 p hp
                        · simp only [if_neg z]; exact hct p hp u (by omega)) hN hr hfr
                      show V X (rmD 8 3 16) N 3 16 [(10, .int (nI nT)), (9, .ref q115), (0, .ref dk), (1, .int (nI x)), (2, .int (nI y)), (3, .int (nI a)), (4, .int (nI b)), (5, .int (nI h)), (6, .int (nI k)), (7, .int (nI s)), (8, .int (nI t))] 196 []
                      refine v_iload C dX9_thing_196 rfl ?_
                      exact v_iret C E dX9_thing_198 (nle rfl) (nle rfl) ⟨by rw [aThing, hok, if_pos rfl, if_neg (by omega)], by rw [if_pos ⟨hok, g107⟩]; simp only [nI_clamp (n := x) (show x < 2 ^ 31 by omega), nI_clamp (n := y) (show y < 2 ^ 31 by omega), nI_clamp (n := a) (show a < 2 ^ 31 by omega), nI_clamp (n := b) (show b < 2 ^ 31 by omega), nI_clamp (n := h) (show h < 2 ^ 31 by omega), nI_clamp (n := k) (show k < 2 ^ 31 by omega), nI_clamp (n := s) (show s < 2 ^ 31 by omega), nI_clamp (n := t) (show t < 2 ^ 31 by omega)]; exact hE.W⟩
                    · refine v_bipush C dX9_thing_110 (v := (-4)) rfl ?_
                      exact v_iret C E dX9_thing_112 (nle rfl) (nle rfl) ⟨by rw [aThing, hok, if_pos rfl, if_pos (show nT = 12 by have := of_decide_eq_true h107; omega)], by rw [if_neg (by have := of_decide_eq_true h107; omega)]; exact hD.W⟩
                  · have hok : okT (nI x) (nI y) (nI a) (nI b) hh kk ss tt = false := by unfold okT; first | (simp [h58, h68, h79, h87, show ¬ ss ≤ tt from h94]; done) | (simp [h58, h68, h79, h87]; done) | (simp [h58, h68, h79]; done)
                    refine v_bipush C dX9_thing_97 (v := (-2)) rfl ?_
                    exact v_iret C E dX9_thing_99 (nle rfl) (nle rfl) ⟨by rw [aThing, hok]; rfl, by rw [if_neg (by rw [hok]; simp)]; exact hD.W⟩
            · have hok : okT (nI x) (nI y) (nI a) (nI b) hh kk ss tt = false := by unfold okT; first | (simp [g44, h58, h68]; done) | (simp [g44, h58]; done)
              refine v_bipush C dX9_thing_71 (v := (-2)) rfl ?_
              exact v_iret C E dX9_thing_73 (nle rfl) (nle rfl) ⟨by rw [aThing, hok]; rfl, by rw [if_neg (by rw [hok]; simp)]; exact hD.W⟩
        · have hok : okT (nI x) (nI y) (nI a) (nI b) hh kk ss tt = false := by unfold okT; rw [show qin (nI x + nI a - 1) 0 11 = _ from end_N hjx hLa hja 11 (by decide), show qin (nI y + nI b - 1) 0 7 = _ from end_N (Nat.le_trans hjy (by decide)) hLb hjb 7 (by decide)] at h44; rw [show (decide (nI x + nI a ≤ 12) && decide (nI y + nI b ≤ 8)) = false from h44]; simp
          refine v_bipush C dX9_thing_47 (v := (-2)) rfl ?_
          exact v_iret C E dX9_thing_49 (nle rfl) (nle rfl) ⟨by rw [aThing, hok]; rfl, by rw [if_neg (by rw [hok]; simp)]; exact hD.W⟩
      · have hok : okT xx yy aa bb hh kk ss tt = false := by unfold okT; first | (simp [h5, h14, h24]; done) | (simp [h5, h14]; done) | (simp [h5]; done)
        refine v_bipush C dX9_thing_27 (v := (-2)) rfl ?_
        exact v_iret C E dX9_thing_29 (nle rfl) (nle rfl) ⟨by rw [aThing, hok]; rfl, by rw [if_neg (by rw [hok]; simp)]; exact hD.W⟩

set_option maxHeartbeats 4000000 in
set_option maxRecDepth 100000 in
theorem c_X9_picture (l : Launch) (g : Gm) (M : Mem) (dk : Nat) (la ta : Nat) (th mk dn : Nat → Nat) (al pt : Nat) (pa ca ka ra : Nat → Nat) (fa va : Nat) (ua sa xa na : Nat) (tA : Nat → Nat) (li xr : Nat) (fy f0 f1 f2 f3 ja jb : Nat) (lo hi pl ph : Nat → Int64) (cn lk : Nat → Nat → Int32) (bc bs : Bool) (vf : Nat → Int32) (cv mv : Int32) (xf : Nat → Int32) (ga gb : Nat → Int64) (nT : Nat) (m : Nat → Nat → Nat) (dB : Nat → Nat → Bool) (nP : Nat) (pf : Nat → Nat → Nat) (cB : Nat → Nat → Bool) (nS : Nat) (sg : Nat → Int32) (ln : Nat → Nat) (tx : Nat → Nat → Int32) (fl : Nat → Nat → Nat) (hD : DeskA g M dk la ta th mk dn al pt pa ca ka ra fa va ua sa xa na tA li xr fy f0 f1 f2 f3 ja jb lo hi pl ph cn lk bc bs vf cv mv xf ga gb nT m dB nP pf cB nS sg ln tx fl) (aa bb dd ss ee : Int32) : Ct l g yX9_picture cX9_picture 7 (some .int) 8 4 202 [.ref dk, .int aa, .int bb, .int dd, .int ss, .int ee] M (fun v N => v = some (.int (aPicture nP aa bb dd ss ee)) ∧ (if okPc aa bb dd ss ee = true ∧ nP < 10 then DeskW g N dk nT m dB (nP + 1) (fun i => if i = nP then np aa.toNatClampNeg bb.toNatClampNeg dd.toNatClampNeg ss.toNatClampNeg ee.toNatClampNeg else pf i) (fun i => if i = nP then fun _ => false else cB i) nS sg ln tx fl else DeskW g N dk nT m dB nP pf cB nS sg ln tx fl)) := by
  refine Ct.of (by decide) (Nat.le_of_ble_eq_true rfl) ?_
  intro X hXl hXg hN C E
  subst hXl; subst hXg
  show V X (rmD 8 4 202) M 0 0 [(0, .ref dk), (1, .int aa), (2, .int bb), (3, .int dd), (4, .int ss), (5, .int ee)] 0 []
  obtain ⟨hD1, hL, hA, ⟨hF, hV⟩, hU, ⟨hI, hX⟩, hY, hdB, hcB, hrw, hinj, hxr, hct⟩ := id hD
  have h12 := hL.1
  have h10 := hA.1
  refine v_iload_n C dX9_picture_0 rfl ?_
  refine v_iload_n C dX9_picture_1 rfl ?_
  refine v_callS (As := [.int aa, .int bb]) (rest := []) C (c_X9_isStrip (xl X) (xg X) aa bb M) pm_X9_isStrip wT_X9_isStrip wM_X9_96 ⟨by decide, by decide⟩ ⟨by decide, by decide⟩ (nle rfl) dX9_picture_2 rfl (dt1 ?_)
  show V X (rmD 8 4 202) M 0 0 [(0, .ref dk), (1, .int aa), (2, .int bb), (3, .int dd), (4, .int ss), (5, .int ee)] 5 [.int (bI (qin aa 0 11 && qin bb aa 11))]
  refine v_ifb_eq (tgt := 15) C dX9_picture_5 (by decide) (fun h5 => ?_) (fun h5 => ?_)
  · have hok : okPc aa bb dd ss ee = false := by unfold okPc; rw [← strip_eq]; first | (simp [h5, h12]; done) | simp [h5]
    refine v_bipush C dX9_picture_15 (v := (-2)) rfl ?_
    exact v_iret C E dX9_picture_17 (nle rfl) (nle rfl) ⟨by rw [aPicture, hok]; rfl, by rw [if_neg (by rw [hok]; simp)]; exact hD.W⟩
  · refine v_iload_n C dX9_picture_8 rfl ?_
    refine v_callS (As := [.int dd]) (rest := []) C (c_X9_isDay (xl X) (xg X) dd M) pm_X9_isDay wT_X9_isDay wM_X9_59 ⟨by decide, by decide⟩ ⟨by decide, by decide⟩ (nle rfl) dX9_picture_9 rfl (dt1 ?_)
    show V X (rmD 8 4 202) M 0 0 [(0, .ref dk), (1, .int aa), (2, .int bb), (3, .int dd), (4, .int ss), (5, .int ee)] 12 [.int (bI (qin dd 0 99))]
    refine v_ifb_ne (tgt := 18) C dX9_picture_12 (by decide) (fun h12 => ?_) (fun h12 => ?_)
    · refine v_iload C dX9_picture_18 rfl ?_
      refine v_iconst C dX9_picture_20 (v := 0) rfl ?_
      refine v_iconst C dX9_picture_21 (v := 3) rfl ?_
      refine v_callS (As := [.int ss, .int 0, .int 3]) (rest := []) C (c_X9_isWithin (xl X) (xg X) ss 0 3 M) pm_X9_isWithin wT_X9_isWithin wM_X9_55 ⟨by decide, by decide⟩ ⟨by decide, by decide⟩ (nle rfl) dX9_picture_22 rfl (dt1 ?_)
      show V X (rmD 8 4 202) M 0 0 [(0, .ref dk), (1, .int aa), (2, .int bb), (3, .int dd), (4, .int ss), (5, .int ee)] 25 [.int (bI (qin ss 0 3))]
      refine v_ifb_eq (tgt := 39) C dX9_picture_25 (by decide) (fun h25 => ?_) (fun h25 => ?_)
      · have hok : okPc aa bb dd ss ee = false := by unfold okPc; rw [← strip_eq]; first | (simp [h25, h36]; done) | simp [h25]
        refine v_bipush C dX9_picture_39 (v := (-2)) rfl ?_
        exact v_iret C E dX9_picture_41 (nle rfl) (nle rfl) ⟨by rw [aPicture, hok]; rfl, by rw [if_neg (by rw [hok]; simp)]; exact hD.W⟩
      · refine v_iload C dX9_picture_28 rfl ?_
        refine v_iconst C dX9_picture_30 (v := 0) rfl ?_
        refine v_bipush C dX9_picture_31 (v := 20) rfl ?_
        refine v_callS (As := [.int ee, .int 0, .int 20]) (rest := []) C (c_X9_isWithin (xl X) (xg X) ee 0 20 M) pm_X9_isWithin wT_X9_isWithin wM_X9_55 ⟨by decide, by decide⟩ ⟨by decide, by decide⟩ (nle rfl) dX9_picture_33 rfl (dt1 ?_)
        show V X (rmD 8 4 202) M 0 0 [(0, .ref dk), (1, .int aa), (2, .int bb), (3, .int dd), (4, .int ss), (5, .int ee)] 36 [.int (bI (qin ee 0 20))]
        refine v_ifb_ne (tgt := 42) C dX9_picture_36 (by decide) (fun h36 => ?_) (fun h36 => ?_)
        · have hok : okPc aa bb dd ss ee = true := by unfold okPc; rw [← strip_eq, h5, h12, h25, h36]; rfl
          refine v_aload_n C dX9_picture_42 rfl ?_
          refine v_get C kX9 hD1 1 (by decide) wF_X9_19 rfl dX9_picture_43 ?_
          refine v_callV (As := []) (rest := []) (b := al) C (c_X0_isFull (xl X) (xg X) M al pt pa ca ka ra nP pf pl ph cn lk hA) pm_X0_isFull wI_X0_isFull wS_X0_isFull wM_X9_99 kX0 hA.2.1 ⟨by decide, by decide⟩ ⟨by decide, by decide⟩ (nle rfl) dX9_picture_46 rfl (dt1 ?_)
          show V X (rmD 8 4 202) M 0 0 [(0, .ref dk), (1, .int aa), (2, .int bb), (3, .int dd), (4, .int ss), (5, .int ee)] 49 [.int (bI (decide (10 ≤ nP)))]
          refine v_ifb_eq (tgt := 55) C dX9_picture_49 (by decide) (fun h49 => ?_) (fun h49 => ?_)
          · have g49 : nP < 10 := by have := of_decide_eq_false h49; omega
            have h5b := h5
            rw [strip_eq, Bool.and_eq_true, Bool.and_eq_true] at h5b
            obtain ⟨⟨k1, k2⟩, k3⟩ := h5b
            obtain ⟨a, hLa, hja, rfl⟩ := qin_nJ (x := aa) (L := 0) (N := 11) (by decide) (by decide) k1
            obtain ⟨b, hLb, hjb, rfl⟩ := qin_nJ (x := bb) (L := 0) (N := 11) (by decide) (by decide) k2
            obtain ⟨d, hLd, hjd, rfl⟩ := qin_nJ (x := dd) (L := 0) (N := 99) (by decide) (by decide) h12
            obtain ⟨s, hLs, hjs, rfl⟩ := qin_nJ (x := ss) (L := 0) (N := 3) (by decide) (by decide) h25
            obtain ⟨e, hLe, hje, rfl⟩ := qin_nJ (x := ee) (L := 0) (N := 20) (by decide) (by decide) h36
            have g5 : a ≤ b := nI_leN (by omega) (by omega) (of_decide_eq_true k3)
            show V X (rmD 8 4 202) M 0 0 [(0, .ref dk), (1, .int (nI a)), (2, .int (nI b)), (3, .int (nI d)), (4, .int (nI s)), (5, .int (nI e))] 55 []
            refine v_new (fs := [.int 0, .int 0, .int 0, .int 0, .int 0, .null, .null, .null]) C kX5 wL_X9_100 wB_X5 wN_X5 (by decide +kernel) (by decide) (by decide) dX9_picture_55 (fun q55 hq55 => ?_)
            show V X (rmD 8 4 202) (mset M q55 (.inr (5, [.int 0, .int 0, .int 0, .int 0, .int 0, .null, .null, .null]))) 1 8 [(0, .ref dk), (1, .int (nI a)), (2, .int (nI b)), (3, .int (nI d)), (4, .int (nI s)), (5, .int (nI e))] 58 [.ref q55]
            refine v_dup C dX9_picture_58 rfl ?_
            refine v_iload_n C dX9_picture_59 rfl ?_
            refine v_iload_n C dX9_picture_60 rfl ?_
            refine v_iload_n C dX9_picture_61 rfl ?_
            refine v_iload C dX9_picture_62 rfl ?_
            refine v_iload C dX9_picture_64 rfl ?_
            refine v_callI (As := [.int (nI a), .int (nI b), .int (nI d), .int (nI s), .int (nI e)]) (rest := [.ref q55]) (b := q55) C (c_X5_init (xl X) (xg X) (mset M q55 (.inr (5, [.int 0, .int 0, .int 0, .int 0, .int 0, .null, .null, .null]))) q55 (nI a) (nI b) (nI d) (nI s) (nI e) (mset_same _ _ _)) pm_X5_init wI_X5_init rfl wM_X9_102 ⟨by decide, by decide⟩ ⟨by decide, by decide⟩ (nle rfl) dX9_picture_66 rfl ?_
            rintro _ N1 ⟨rfl, q1, q2, q3, w1, w2, w3, n12, n13, n23, na1, na2, na3, hN1⟩
            have u1 : M q1 = none := by rw [mset_ne (Ne.symm na1)] at w1; exact w1
            have u2 : M q2 = none := by rw [mset_ne (Ne.symm na2)] at w2; exact w2
            have u3 : M q3 = none := by rw [mset_ne (Ne.symm na3)] at w3; exact w3
            have K1 : ∀ b x, M b = some x → N1 b = some x := fun b x hb => by rw [hN1, mset_ne (fresh_ne hb hq55), mset_ne (fresh_ne hb u3), mset_ne (fresh_ne hb u2), mset_ne (fresh_ne hb u1), mset_ne (fresh_ne hb hq55)]; exact hb
            have kP : PicW (xg X) N1 q55 q1 q2 q3 (np a b d s e) 0 0 (fun _ => 0) (fun _ => 0) := ⟨by unfold okP np; simp; omega, n23, by rw [hN1, mset_same]; rfl, by rw [hN1, mset_ne (Ne.symm na1), mset_ne n13, mset_ne n12, mset_same], by rw [hN1, mset_ne (Ne.symm na2), mset_ne n23, mset_same], by rw [hN1, mset_ne (Ne.symm na3), mset_same]⟩
            have K : ∀ {ks : List Nat}, Keep M N1 ks := fun b x hb _ => K1 b x hb
            have kD := K1 _ _ hD1
            have kL := hL.keep K
            have kA := hA.keep K
            show V X (rmD 8 4 202) N1 4 202 [(0, .ref dk), (1, .int (nI a)), (2, .int (nI b)), (3, .int (nI d)), (4, .int (nI s)), (5, .int (nI e))] 69 [.ref q55]
            refine v_astore (lv' := [(6, .ref q55), (0, .ref dk), (1, .int (nI a)), (2, .int (nI b)), (3, .int (nI d)), (4, .int (nI s)), (5, .int (nI e))]) C dX9_picture_69 hN (by decide) rfl ?_
            refine v_aload C dX9_picture_71 rfl ?_
            refine v_aload_n C dX9_picture_73 rfl ?_
            refine v_get C kX9 kD 0 (by decide) wF_X9_10 rfl dX9_picture_74 ?_
            refine v_callV (As := [.ref la]) (rest := []) (b := q55) C (c_X5_develop (xl X) (xg X) N1 q55 q1 q2 q3 (np a b d s e) 0 0 (fun _ => 0) (fun _ => 0) kP la ta th mk dn nT m lo hi kL) pm_X5_develop wI_X5_develop wS_X5_develop wM_X9_105 kX5 kP.2.2.1 ⟨by decide, by decide⟩ ⟨by decide, by decide⟩ (nle rfl) dX9_picture_77 rfl ?_
            rintro _ N2 ⟨rfl, fr1, fr2, hN2, hfr1, hfr2⟩
            have K2 : ∀ b x, M b = some x → N2 b = some x := fun b x hb => by rw [hN2, mset_ne (fresh_ne hb u3), mset_ne (fresh_ne hb u2)]; exact K1 b x hb
            have K : ∀ {ks : List Nat}, Keep M N2 ks := fun b x hb _ => K2 b x hb
            have jD := K2 _ _ hD1
            have jA := hA.keep (K (ks := _))
            have jP : PicW (xg X) N2 q55 q1 q2 q3 (np a b d s e) 0 0 fr1 fr2 := by rw [hN2]; exact (kP.setK fr1).setR fr2
            show V X (rmD 8 4 202) N2 4 202 [(6, .ref q55), (0, .ref dk), (1, .int (nI a)), (2, .int (nI b)), (3, .int (nI d)), (4, .int (nI s)), (5, .int (nI e))] 80 []
            refine v_aload_n C dX9_picture_80 rfl ?_
            refine v_get C kX9 jD 1 (by decide) wF_X9_19 rfl dX9_picture_81 ?_
            refine v_aload C dX9_picture_84 rfl ?_
            refine v_callV (As := [.ref q55]) (rest := []) (b := al) C (c_X0_add (xl X) (xg X) N2 al pt pa ca ka ra nP pf pl ph cn lk q55 _ g49 jP.2.2.1 jA) pm_X0_add wI_X0_add wS_X0_add wM_X9_106 kX0 jA.2.1 ⟨by decide, by decide⟩ ⟨by decide, by decide⟩ (nle rfl) dX9_picture_86 rfl ?_
            rintro _ N3 ⟨rfl, hN3⟩
            have o : ∀ i, i < nP → ka i ≠ q2 ∧ ra i ≠ q3 ∧ ca i ≠ q1 ∧ ka i ≠ q3 ∧ q2 ≠ ra i := fun i hi => by
              have z := hA.2.2.2.1 i hi
              exact ⟨fresh_ne z.2.2.2.2.1 u2, fresh_ne z.2.2.2.2.2 u3, fresh_ne z.2.2.2.1 u1, fresh_ne z.2.2.2.2.1 u3, Ne.symm (fresh_ne z.2.2.2.2.2 u2)⟩
            have kA3 := jA.add g49 jP o
            rw [← hN3] at kA3
            have K3 : ∀ {ks : List Nat}, (0 ∉ ks ∧ 2010 ∉ ks) → Keep M N3 ks := fun h b x hb hk => by rw [hN3, mset_ne (fun z => by rw [z, hA.2.1] at hb; cases hb; exact h.1 hk), mset_ne (fun z => by rw [z, hA.2.2.1] at hb; cases hb; exact h.2 hk)]; exact K2 b x hb
            have hE : DeskA (xg X) N3 dk la ta th mk dn al pt (fun i => if i = nP then q55 else pa i) (fun i => if i = nP then q1 else ca i) (fun i => if i = nP then q2 else ka i) (fun i => if i = nP then q3 else ra i) fa va ua sa xa na tA li xr fy f0 f1 f2 f3 ja jb lo hi (fun i => if i = nP then 0 else pl i) (fun i => if i = nP then 0 else ph i) (fun i => if i = nP then fr1 else cn i) (fun i => if i = nP then fr2 else lk i) bc bs vf cv mv xf ga gb nT m dB (nP + 1) (fun i => if i = nP then np a b d s e else pf i) (fun i => if i = nP then fun _ => false else cB i) nS sg ln tx fl := ⟨K3 (ks := [9]) (by decide) _ _ hD1 (by simp [kd]), hL.keep (K3 (by decide)), kA3, ⟨K3 (ks := [1, 109]) (by decide) _ _ hF (by simp [kd]), K3 (ks := [1, 109]) (by decide) _ _ hV (by simp [kd])⟩, hU.keepN (K3 (by decide)), ⟨K3 (ks := [4]) (by decide) _ _ hI (by simp [kd]), K3 (ks := [196]) (by decide) _ _ hX (by simp [kd])⟩, hY.keep (K3 (by decide)), hdB, fun p hp c hc => by
                by_cases z : p = nP
                · simp only [if_pos z]; exact tk_0 c
                · simp only [if_neg z]; exact hcB p (by omega) c hc, fun p hp c hc => by
                by_cases z : p = nP
                · simp only [if_pos z]; exact ⟨hfr1 c hc, hfr2 c hc⟩
                · simp only [if_neg z]; exact hrw p (by omega) c hc, hinj, fun p hp => by
                by_cases z : p = nP
                · simp only [if_pos z]; exact ⟨fresh_ne hX u2, fresh_ne hX u3⟩
                · simp only [if_neg z]; exact hxr p (by omega), fun p hp u hu => by
                by_cases z : p = nP
                · simp only [if_pos z]; exact Ne.symm (fresh_ne (hL.2.2.2 u hu).2.2.1 u1)
                · simp only [if_neg z]; exact hct p (by omega) u hu⟩
            show V X (rmD 8 4 202) N3 4 202 [(6, .ref q55), (0, .ref dk), (1, .int (nI a)), (2, .int (nI b)), (3, .int (nI d)), (4, .int (nI s)), (5, .int (nI e))] 89 [.int (nI nP)]
            exact v_iret C E dX9_picture_89 (nle rfl) (nle rfl) ⟨by rw [aPicture, hok, if_pos rfl, if_neg (by omega)], by rw [if_pos ⟨hok, g49⟩]; simp only [nI_clamp (n := a) (show a < 2 ^ 31 by omega), nI_clamp (n := b) (show b < 2 ^ 31 by omega), nI_clamp (n := d) (show d < 2 ^ 31 by omega), nI_clamp (n := s) (show s < 2 ^ 31 by omega), nI_clamp (n := e) (show e < 2 ^ 31 by omega)]; exact hE.W⟩
          · refine v_bipush C dX9_picture_52 (v := (-4)) rfl ?_
            exact v_iret C E dX9_picture_54 (nle rfl) (nle rfl) ⟨by rw [aPicture, hok, if_pos rfl, if_pos (show nP = 10 by have := of_decide_eq_true h49; omega)], by rw [if_neg (by have := of_decide_eq_true h49; omega)]; exact hD.W⟩
        · have hok : okPc aa bb dd ss ee = false := by unfold okPc; rw [← strip_eq]; first | (simp [h25, h36]; done) | simp [h25]
          refine v_bipush C dX9_picture_39 (v := (-2)) rfl ?_
          exact v_iret C E dX9_picture_41 (nle rfl) (nle rfl) ⟨by rw [aPicture, hok]; rfl, by rw [if_neg (by rw [hok]; simp)]; exact hD.W⟩
    · have hok : okPc aa bb dd ss ee = false := by unfold okPc; rw [← strip_eq]; first | (simp [h5, h12]; done) | simp [h5]
      refine v_bipush C dX9_picture_15 (v := (-2)) rfl ?_
      exact v_iret C E dX9_picture_17 (nle rfl) (nle rfl) ⟨by rw [aPicture, hok]; rfl, by rw [if_neg (by rw [hok]; simp)]; exact hD.W⟩


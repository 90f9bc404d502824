/-! The desk's methods: flights, told, lean. -/
set_option maxHeartbeats 4000000 in
set_option maxRecDepth 100000 in
theorem c_X9_flight (l : Launch) (g : Gm) (M : Mem) (dk : Nat) (la ta : Nat) (th mk dn : Nat → Nat) (al pt : Nat) (pa ca ka ra : Nat → Nat) (fa va : Nat) (ua sa xa na : Nat) (tA : Nat → Nat) (li xr : Nat) (fy f0 f1 f2 f3 ja jb : Nat) (lo hi pl ph : Nat → Int64) (cn lk : Nat → Nat → Int32) (bc bs : Bool) (vf : Nat → Int32) (cv mv : Int32) (xf : Nat → Int32) (ga gb : Nat → Int64) (nT : Nat) (m : Nat → Nat → Nat) (dB : Nat → Nat → Bool) (nP : Nat) (pf : Nat → Nat → Nat) (cB : Nat → Nat → Bool) (nS : Nat) (sg : Nat → Int32) (ln : Nat → Nat) (tx : Nat → Nat → Int32) (fl : Nat → Nat → Nat) (hD : DeskA g M dk la ta th mk dn al pt pa ca ka ra fa va ua sa xa na tA li xr fy f0 f1 f2 f3 ja jb lo hi pl ph cn lk bc bs vf cv mv xf ga gb nT m dB nP pf cB nS sg ln tx fl) (f aa bb ww rr : Int32) : Ct l g yX9_flight cX9_flight 6 (some .int) 8 0 0 [.ref dk, .int f, .int aa, .int bb, .int ww, .int rr] M (fun v N => v = some (.int (aFlight f aa bb ww rr)) ∧ DeskW g N dk nT m dB nP pf cB nS sg ln tx (sFlight fl f aa bb ww rr)) := by
  refine Ct.of (by decide) (Nat.le_of_ble_eq_true rfl) ?_
  intro X hXl hXg hN C E
  subst hXl; subst hXg
  show V X (rmD 8 0 0) M 0 0 [(0, .ref dk), (1, .int f), (2, .int aa), (3, .int bb), (4, .int ww), (5, .int rr)] 0 []
  obtain ⟨hD1, hL, hA, ⟨hF, hV⟩, hU, ⟨hI, hX⟩, hY, hdB, hcB, hrw, hinj, hxr, hct⟩ := id hD
  have h12 := hL.1
  have h10 := hA.1
  rcases idx_cases 8 (by decide) f with ⟨i, lt, rfl, hx⟩ | ⟨hn, hx⟩
  · have hzi := trivial
    show V X (rmD 8 0 0) M 0 0 [(0, .ref dk), (1, .int (nI i)), (2, .int aa), (3, .int bb), (4, .int ww), (5, .int rr)] 0 []
    refine v_iload_n C dX9_flight_0 rfl ?_
    refine v_iconst C dX9_flight_1 (v := 0) rfl ?_
    refine v_bipush C dX9_flight_2 (v := 7) rfl ?_
    refine v_callS (As := [.int (nI i), .int 0, .int 7]) (rest := []) C (c_X9_isWithin (xl X) (xg X) (nI i) 0 7 M) pm_X9_isWithin wT_X9_isWithin wM_X9_55 ⟨by decide, by decide⟩ ⟨by decide, by decide⟩ (nle rfl) dX9_flight_4 rfl (dt1 ?_)
    show V X (rmD 8 0 0) M 0 0 [(0, .ref dk), (1, .int (nI i)), (2, .int aa), (3, .int bb), (4, .int ww), (5, .int rr)] 7 [.int (bI (qin (nI i) 0 7))]
    refine v_ifb_ne (tgt := 12) C dX9_flight_7 (by decide) (fun h7 => ?_) (fun hbad => absurd hbad (by rw [qin_f lt]; decide))
    refine v_iload_n C dX9_flight_12 rfl ?_
    refine v_iload_n C dX9_flight_13 rfl ?_
    refine v_callS (As := [.int aa, .int bb]) (rest := []) C (c_X9_isStrip (xl X) (xg X) aa bb M) pm_X9_isStrip wT_X9_isStrip wM_X9_96 ⟨by decide, by decide⟩ ⟨by decide, by decide⟩ (nle rfl) dX9_flight_14 rfl (dt1 ?_)
    show V X (rmD 8 0 0) M 0 0 [(0, .ref dk), (1, .int (nI i)), (2, .int aa), (3, .int bb), (4, .int ww), (5, .int rr)] 17 [.int (bI (qin aa 0 11 && qin bb aa 11))]
    refine v_ifb_eq (tgt := 42) C dX9_flight_17 (by decide) (fun h17 => ?_) (fun h17 => ?_)
    · have hok : okF aa bb ww rr = false := by unfold okF; rw [← strip_eq]; first | (simp [h17, h28, h39]; done) | (simp [h17, h28]; done) | simp [h17]
      refine v_bipush C dX9_flight_42 (v := (-2)) rfl ?_
      exact v_iret C E dX9_flight_44 (nle rfl) (nle rfl) ⟨by simp only [aFlight, hx]; rw [hok]; rfl, by simp only [sFlight, hx]; rw [hok]; exact hD.W⟩
    · refine v_iload C dX9_flight_20 rfl ?_
      refine v_iconst C dX9_flight_22 (v := 0) rfl ?_
      refine v_bipush C dX9_flight_23 (v := 10) rfl ?_
      refine v_callS (As := [.int ww, .int 0, .int 10]) (rest := []) C (c_X9_isWithin (xl X) (xg X) ww 0 10 M) pm_X9_isWithin wT_X9_isWithin wM_X9_55 ⟨by decide, by decide⟩ ⟨by decide, by decide⟩ (nle rfl) dX9_flight_25 rfl (dt1 ?_)
      show V X (rmD 8 0 0) M 0 0 [(0, .ref dk), (1, .int (nI i)), (2, .int aa), (3, .int bb), (4, .int ww), (5, .int rr)] 28 [.int (bI (qin ww 0 10))]
      refine v_ifb_eq (tgt := 42) C dX9_flight_28 (by decide) (fun h28 => ?_) (fun h28 => ?_)
      · have hok : okF aa bb ww rr = false := by unfold okF; rw [← strip_eq]; first | (simp [h17, h28, h39]; done) | (simp [h17, h28]; done) | simp [h17]
        refine v_bipush C dX9_flight_42 (v := (-2)) rfl ?_
        exact v_iret C E dX9_flight_44 (nle rfl) (nle rfl) ⟨by simp only [aFlight, hx]; rw [hok]; rfl, by simp only [sFlight, hx]; rw [hok]; exact hD.W⟩
      · refine v_iload C dX9_flight_31 rfl ?_
        refine v_iconst C dX9_flight_33 (v := 0) rfl ?_
        refine v_bipush C dX9_flight_34 (v := 100) rfl ?_
        refine v_callS (As := [.int rr, .int 0, .int 100]) (rest := []) C (c_X9_isWithin (xl X) (xg X) rr 0 100 M) pm_X9_isWithin wT_X9_isWithin wM_X9_55 ⟨by decide, by decide⟩ ⟨by decide, by decide⟩ (nle rfl) dX9_flight_36 rfl (dt1 ?_)
        show V X (rmD 8 0 0) M 0 0 [(0, .ref dk), (1, .int (nI i)), (2, .int aa), (3, .int bb), (4, .int ww), (5, .int rr)] 39 [.int (bI (qin rr 0 100))]
        refine v_ifb_ne (tgt := 45) C dX9_flight_39 (by decide) (fun h39 => ?_) (fun h39 => ?_)
        · have hok : okF aa bb ww rr = true := by unfold okF; rw [← strip_eq, h17, h28, h39]; rfl
          have h17b := h17
          rw [strip_eq, Bool.and_eq_true, Bool.and_eq_true] at h17b
          obtain ⟨⟨k1, k2⟩, k3⟩ := h17b
          obtain ⟨a, hLa, hja, rfl⟩ := qin_nJ (x := aa) (L := 0) (N := 11) (by decide) (by decide) k1
          obtain ⟨b, hLb, hjb, rfl⟩ := qin_nJ (x := bb) (L := 0) (N := 11) (by decide) (by decide) k2
          obtain ⟨w, hLw, hjw, rfl⟩ := qin_nJ (x := ww) (L := 0) (N := 10) (by decide) (by decide) h28
          obtain ⟨r, hLr, hjr, rfl⟩ := qin_nJ (x := rr) (L := 0) (N := 100) (by decide) (by decide) h39
          have g17 : a ≤ b := nI_leN (by omega) (by omega) (of_decide_eq_true k3)
          show V X (rmD 8 0 0) M 0 0 [(0, .ref dk), (1, .int (nI i)), (2, .int (nI a)), (3, .int (nI b)), (4, .int (nI w)), (5, .int (nI r))] 45 []
          refine v_aload_n C dX9_flight_45 rfl ?_
          refine v_get C kX9 hD1 5 (by decide) wF_X9_47 rfl dX9_flight_46 ?_
          refine v_iload_n C dX9_flight_49 rfl ?_
          refine v_iload_n C dX9_flight_50 rfl ?_
          refine v_iload_n C dX9_flight_51 rfl ?_
          refine v_iload C dX9_flight_52 rfl ?_
          refine v_iload C dX9_flight_54 rfl ?_
          refine v_callV (As := [.int (nI i), .int (nI a), .int (nI b), .int (nI w), .int (nI r)]) (rest := []) (b := fy) C (c_X2_plan (xl X) (xg X) M fy f0 f1 f2 f3 ja jb fl ga gb i a b w r lt ⟨g17, by omega, by omega, by omega⟩ hY) pm_X2_plan wI_X2_plan wS_X2_plan wM_X9_219 kX2 hY.1 ⟨by decide, by decide⟩ ⟨by decide, by decide⟩ (nle rfl) dX9_flight_56 rfl ?_
          rintro _ _ ⟨rfl, rfl⟩
          have hE := hD.plan (i := i) (z0 := a) (z1 := b) (z2 := w) (z3 := r) lt ⟨g17, by omega, by omega, by omega⟩
          show V X (rmD 8 0 0) (mset (mset (mset (mset M f0 (aI (xg X) 8 (upd (fun j => nI (fl j 0)) i (nI a)))) f1 (aI (xg X) 8 (upd (fun j => nI (fl j 1)) i (nI b)))) f2 (aI (xg X) 8 (upd (fun j => nI (fl j 2)) i (nI w)))) f3 (aI (xg X) 8 (upd (fun j => nI (fl j 3)) i (nI r)))) 0 0 [(0, .ref dk), (1, .int (nI i)), (2, .int (nI a)), (3, .int (nI b)), (4, .int (nI w)), (5, .int (nI r))] 59 []
          refine v_iconst C dX9_flight_59 (v := 1) rfl ?_
          exact v_iret C E dX9_flight_60 (nle rfl) (nle rfl) ⟨by simp only [aFlight, hx]; rw [hok]; rfl, by simp only [sFlight, hx]; rw [hok, nI_clamp (n := a) (by omega), nI_clamp (n := b) (by omega), nI_clamp (n := w) (by omega), nI_clamp (n := r) (by omega)]; exact hE.W⟩
        · have hok : okF aa bb ww rr = false := by unfold okF; rw [← strip_eq]; first | (simp [h17, h28, h39]; done) | (simp [h17, h28]; done) | simp [h17]
          refine v_bipush C dX9_flight_42 (v := (-2)) rfl ?_
          exact v_iret C E dX9_flight_44 (nle rfl) (nle rfl) ⟨by simp only [aFlight, hx]; rw [hok]; rfl, by simp only [sFlight, hx]; rw [hok]; exact hD.W⟩
  · have hzi := trivial
    show V X (rmD 8 0 0) M 0 0 [(0, .ref dk), (1, .int f), (2, .int aa), (3, .int bb), (4, .int ww), (5, .int rr)] 0 []
    refine v_iload_n C dX9_flight_0 rfl ?_
    refine v_iconst C dX9_flight_1 (v := 0) rfl ?_
    refine v_bipush C dX9_flight_2 (v := 7) rfl ?_
    refine v_callS (As := [.int f, .int 0, .int 7]) (rest := []) C (c_X9_isWithin (xl X) (xg X) f 0 7 M) pm_X9_isWithin wT_X9_isWithin wM_X9_55 ⟨by decide, by decide⟩ ⟨by decide, by decide⟩ (nle rfl) dX9_flight_4 rfl (dt1 ?_)
    show V X (rmD 8 0 0) M 0 0 [(0, .ref dk), (1, .int f), (2, .int aa), (3, .int bb), (4, .int ww), (5, .int rr)] 7 [.int (bI (qin f 0 7))]
    refine v_ifb_ne (tgt := 12) C dX9_flight_7 (by decide) (fun hbad => absurd hbad (by rw [show qin f 0 7 = false from qin_no (n := 7) (by decide) hn]; decide)) (fun h7 => ?_)
    refine v_iconst C dX9_flight_10 (v := (-1)) rfl ?_
    exact v_iret C E dX9_flight_11 (nle rfl) (nle rfl) ⟨by simp [aFlight, hx], by simp only [sFlight, hx]; exact hD.W⟩

set_option maxHeartbeats 4000000 in
set_option maxRecDepth 100000 in
theorem c_X9_worth (l : Launch) (g : Gm) (M : Mem) (dk : Nat) (la ta : Nat) (th mk dn : Nat → Nat) (al pt : Nat) (pa ca ka ra : Nat → Nat) (fa va : Nat) (ua sa xa na : Nat) (tA : Nat → Nat) (li xr : Nat) (fy f0 f1 f2 f3 ja jb : Nat) (lo hi pl ph : Nat → Int64) (cn lk : Nat → Nat → Int32) (bc bs : Bool) (vf : Nat → Int32) (cv mv : Int32) (xf : Nat → Int32) (ga gb : Nat → Int64) (nT : Nat) (m : Nat → Nat → Nat) (dB : Nat → Nat → Bool) (nP : Nat) (pf : Nat → Nat → Nat) (cB : Nat → Nat → Bool) (nS : Nat) (sg : Nat → Int32) (ln : Nat → Nat) (tx : Nat → Nat → Int32) (fl : Nat → Nat → Nat) (hD : DeskA g M dk la ta th mk dn al pt pa ca ka ra fa va ua sa xa na tA li xr fy f0 f1 f2 f3 ja jb lo hi pl ph cn lk bc bs vf cv mv xf ga gb nT m dB nP pf cB nS sg ln tx fl) (ss zz : Int32) : Ct l g yX9_worth cX9_worth 3 (some .long) 8 0 0 [.ref dk, .int ss, .int zz] M (fun v N => v = some (.long (aWorth nT m fl ss zz)) ∧ DeskW g N dk nT m dB nP pf cB nS sg ln tx fl) := by
  refine Ct.of (by decide) (Nat.le_of_ble_eq_true rfl) ?_
  intro X hXl hXg hN C E
  subst hXl; subst hXg
  show V X (rmD 8 0 0) M 0 0 [(0, .ref dk), (1, .int ss), (2, .int zz)] 0 []
  obtain ⟨hD1, hL, hA, ⟨hF, hV⟩, hU, ⟨hI, hX⟩, hY, hdB, hcB, hrw, hinj, hxr, hct⟩ := id hD
  have h12 := hL.1
  have h10 := hA.1
  refine v_iload_n C dX9_worth_0 rfl ?_
  refine v_iconst C dX9_worth_1 (v := 0) rfl ?_
  refine v_sipush C dX9_worth_2 (v := 255) rfl ?_
  refine v_callS (As := [.int ss, .int 0, .int 255]) (rest := []) C (c_X9_isWithin (xl X) (xg X) ss 0 255 M) pm_X9_isWithin wT_X9_isWithin wM_X9_55 ⟨by decide, by decide⟩ ⟨by decide, by decide⟩ (nle rfl) dX9_worth_5 rfl (dt1 ?_)
  show V X (rmD 8 0 0) M 0 0 [(0, .ref dk), (1, .int ss), (2, .int zz)] 8 [.int (bI (qin ss 0 255))]
  refine v_ifb_eq (tgt := 18) C dX9_worth_8 (by decide) (fun h8 => ?_) (fun h8 => ?_)
  · refine v_ldc2 C dX9_worth_18 wJ_X9_187 ?_
    exact v_lret C E dX9_worth_21 (nle rfl) (nle rfl) ⟨by first | (simp [aWorth, h8, h15]; done) | (simp [aWorth, h8]; done), hD.W⟩
  · refine v_iload_n C dX9_worth_11 rfl ?_
    refine v_callS (As := [.int zz]) (rest := []) C (c_X9_isPart (xl X) (xg X) zz M) pm_X9_isPart wT_X9_isPart wM_X9_184 ⟨by decide, by decide⟩ ⟨by decide, by decide⟩ (nle rfl) dX9_worth_12 rfl (dt1 ?_)
    show V X (rmD 8 0 0) M 0 0 [(0, .ref dk), (1, .int ss), (2, .int zz)] 15 [.int (bI (qin zz 0 1))]
    refine v_ifb_ne (tgt := 22) C dX9_worth_15 (by decide) (fun h15 => ?_) (fun h15 => ?_)
    · obtain ⟨s, hLs, hjs, rfl⟩ := qin_nJ (x := ss) (L := 0) (N := 255) (by decide) (by decide) h8
      obtain ⟨z, hLz, hjz, rfl⟩ := qin_nJ (x := zz) (L := 0) (N := 1) (by decide) (by decide) h15
      show V X (rmD 8 0 0) M 0 0 [(0, .ref dk), (1, .int (nI s)), (2, .int (nI z))] 22 []
      refine v_aload_n C dX9_worth_22 rfl ?_
      refine v_get C kX9 hD1 5 (by decide) wF_X9_47 rfl dX9_worth_23 ?_
      refine v_aload_n C dX9_worth_26 rfl ?_
      refine v_get C kX9 hD1 0 (by decide) wF_X9_10 rfl dX9_worth_27 ?_
      refine v_callV (As := [.ref la]) (rest := []) (b := fy) C (c_X2_weigh (xl X) (xg X) M fy f0 f1 f2 f3 ja jb fl ga gb hY la ta th mk dn nT m lo hi hL) pm_X2_weigh wI_X2_weigh wS_X2_weigh wM_X9_222 kX2 hY.1 ⟨by decide, by decide⟩ ⟨by decide, by decide⟩ (nle rfl) dX9_worth_30 rfl ?_
      rintro _ _ ⟨rfl, a, b, rfl, hb⟩
      have hE := hD.weigh a b
      obtain ⟨hD1, hL, hA, ⟨hF, hV⟩, hU, ⟨hI, hX⟩, hY, hdB, hcB, hrw, hinj, hxr, hct⟩ := id hE
      show V X (rmD 8 0 0) (mset (mset M ja (aJ (xg X) 256 a)) jb (aJ (xg X) 256 b)) 0 0 [(0, .ref dk), (1, .int (nI s)), (2, .int (nI z))] 33 []
      refine v_aload_n C dX9_worth_33 rfl ?_
      refine v_get C kX9 hD1 5 (by decide) wF_X9_47 rfl dX9_worth_34 ?_
      refine v_iload_n C dX9_worth_37 rfl ?_
      refine v_callV (As := [.int (nI s)]) (rest := []) (b := fy) C (c_X2_weight (xl X) (xg X) (mset (mset M ja (aJ (xg X) 256 a)) jb (aJ (xg X) 256 b)) fy f0 f1 f2 f3 ja jb fl a b s (by omega) hY) pm_X2_weight wI_X2_weight wS_X2_weight wM_X9_225 kX2 hY.1 ⟨by decide, by decide⟩ ⟨by decide, by decide⟩ (nle rfl) dX9_worth_38 rfl (dt1 ?_)
      show V X (rmD 8 0 0) (mset (mset M ja (aJ (xg X) 256 a)) jb (aJ (xg X) 256 b)) 0 0 [(0, .ref dk), (1, .int (nI s)), (2, .int (nI z))] 41 [.long (b s)]
      rw [hb s (by omega)]
      show V X (rmD 8 0 0) (mset (mset M ja (aJ (xg X) 256 a)) jb (aJ (xg X) 256 b)) 0 0 [(0, .ref dk), (1, .int (nI s)), (2, .int (nI z))] 41 [.long (lN (worN fl m s nT))]
      refine v_ldc2 C dX9_worth_41 wJ_X9_229 ?_
      rw [show (100000000 : Int64) = lN 100000000 from rfl]
      show V X (rmD 8 0 0) (mset (mset M ja (aJ (xg X) 256 a)) jb (aJ (xg X) 256 b)) 0 0 [(0, .ref dk), (1, .int (nI s)), (2, .int (nI z))] 44 [.long (lN 100000000), .long (lN (worN fl m s nT))]
      refine v_iload_n C dX9_worth_44 rfl ?_
      refine v_callS (As := [.long (lN (worN fl m s nT)), .long (lN 100000000), .int (nI z)]) (rest := []) C (c_X9_partOf (xl X) (xg X) (worN fl m s nT) 100000000 z (Nat.lt_of_le_of_lt (worN_le fl m s nT) (Nat.lt_of_le_of_lt (Nat.mul_le_mul_right _ hL.1) (by decide))) (by decide) (by decide) (by omega) (mset (mset M ja (aJ (xg X) 256 a)) jb (aJ (xg X) 256 b))) pm_X9_partOf wT_X9_partOf wM_X9_199 ⟨by decide, by decide⟩ ⟨by decide, by decide⟩ (nle rfl) dX9_worth_45 rfl (dt1 ?_)
      show V X (rmD 8 0 0) (mset (mset M ja (aJ (xg X) 256 a)) jb (aJ (xg X) 256 b)) 0 0 [(0, .ref dk), (1, .int (nI s)), (2, .int (nI z))] 48 [.long (lN (frN (worN fl m s nT) 100000000 z))]
      exact v_lret C E dX9_worth_48 (nle rfl) (nle rfl) ⟨by simp only [aWorth, h8, h15, Bool.and_self, if_true, nI_clamp (n := s) (show s < 2 ^ 31 by omega), nI_clamp (n := z) (show z < 2 ^ 31 by omega)], hE.W⟩
    · refine v_ldc2 C dX9_worth_18 wJ_X9_187 ?_
      exact v_lret C E dX9_worth_21 (nle rfl) (nle rfl) ⟨by first | (simp [aWorth, h8, h15]; done) | (simp [aWorth, h8]; done), hD.W⟩

set_option maxHeartbeats 4000000 in
set_option maxRecDepth 100000 in
theorem c_X9_best (l : Launch) (g : Gm) (M : Mem) (dk : Nat) (la ta : Nat) (th mk dn : Nat → Nat) (al pt : Nat) (pa ca ka ra : Nat → Nat) (fa va : Nat) (ua sa xa na : Nat) (tA : Nat → Nat) (li xr : Nat) (fy f0 f1 f2 f3 ja jb : Nat) (lo hi pl ph : Nat → Int64) (cn lk : Nat → Nat → Int32) (bc bs : Bool) (vf : Nat → Int32) (cv mv : Int32) (xf : Nat → Int32) (ga gb : Nat → Int64) (nT : Nat) (m : Nat → Nat → Nat) (dB : Nat → Nat → Bool) (nP : Nat) (pf : Nat → Nat → Nat) (cB : Nat → Nat → Bool) (nS : Nat) (sg : Nat → Int32) (ln : Nat → Nat) (tx : Nat → Nat → Int32) (fl : Nat → Nat → Nat) (hD : DeskA g M dk la ta th mk dn al pt pa ca ka ra fa va ua sa xa na tA li xr fy f0 f1 f2 f3 ja jb lo hi pl ph cn lk bc bs vf cv mv xf ga gb nT m dB nP pf cB nS sg ln tx fl) (pp zz : Int32) : Ct l g yX9_best cX9_best 4 (some .int) 8 0 0 [.ref dk, .int pp, .int zz] M (fun v N => v = some (.int (aBest nT m fl pp zz)) ∧ DeskW g N dk nT m dB nP pf cB nS sg ln tx fl) := by
  refine Ct.of (by decide) (Nat.le_of_ble_eq_true rfl) ?_
  intro X hXl hXg hN C E
  subst hXl; subst hXg
  show V X (rmD 8 0 0) M 0 0 [(0, .ref dk), (1, .int pp), (2, .int zz)] 0 []
  obtain ⟨hD1, hL, hA, ⟨hF, hV⟩, hU, ⟨hI, hX⟩, hY, hdB, hcB, hrw, hinj, hxr, hct⟩ := id hD
  have h12 := hL.1
  have h10 := hA.1
  refine v_iload_n C dX9_best_0 rfl ?_
  refine v_iconst C dX9_best_1 (v := 0) rfl ?_
  refine v_sipush C dX9_best_2 (v := 800) rfl ?_
  refine v_callS (As := [.int pp, .int 0, .int 800]) (rest := []) C (c_X9_isWithin (xl X) (xg X) pp 0 800 M) pm_X9_isWithin wT_X9_isWithin wM_X9_55 ⟨by decide, by decide⟩ ⟨by decide, by decide⟩ (nle rfl) dX9_best_5 rfl (dt1 ?_)
  show V X (rmD 8 0 0) M 0 0 [(0, .ref dk), (1, .int pp), (2, .int zz)] 8 [.int (bI (qin pp 0 800))]
  refine v_ifb_eq (tgt := 20) C dX9_best_8 (by decide) (fun h8 => ?_) (fun h8 => ?_)
  · refine v_bipush C dX9_best_20 (v := (-2)) rfl ?_
    exact v_iret C E dX9_best_22 (nle rfl) (nle rfl) ⟨by first | (simp [aBest, h8, h17]; done) | (simp [aBest, h8]; done), hD.W⟩
  · refine v_iload_n C dX9_best_11 rfl ?_
    refine v_iconst C dX9_best_12 (v := 0) rfl ?_
    refine v_iconst C dX9_best_13 (v := 1) rfl ?_
    refine v_callS (As := [.int zz, .int 0, .int 1]) (rest := []) C (c_X9_isWithin (xl X) (xg X) zz 0 1 M) pm_X9_isWithin wT_X9_isWithin wM_X9_55 ⟨by decide, by decide⟩ ⟨by decide, by decide⟩ (nle rfl) dX9_best_14 rfl (dt1 ?_)
    show V X (rmD 8 0 0) M 0 0 [(0, .ref dk), (1, .int pp), (2, .int zz)] 17 [.int (bI (qin zz 0 1))]
    refine v_ifb_ne (tgt := 23) C dX9_best_17 (by decide) (fun h17 => ?_) (fun h17 => ?_)
    · obtain ⟨p, hLp, hjp, rfl⟩ := qin_nJ (x := pp) (L := 0) (N := 800) (by decide) (by decide) h8
      show V X (rmD 8 0 0) M 0 0 [(0, .ref dk), (1, .int (nI p)), (2, .int zz)] 23 []
      refine v_aload_n C dX9_best_23 rfl ?_
      refine v_get C kX9 hD1 5 (by decide) wF_X9_47 rfl dX9_best_24 ?_
      refine v_aload_n C dX9_best_27 rfl ?_
      refine v_get C kX9 hD1 0 (by decide) wF_X9_10 rfl dX9_best_28 ?_
      refine v_callV (As := [.ref la]) (rest := []) (b := fy) C (c_X2_weigh (xl X) (xg X) M fy f0 f1 f2 f3 ja jb fl ga gb hY la ta th mk dn nT m lo hi hL) pm_X2_weigh wI_X2_weigh wS_X2_weigh wM_X9_222 kX2 hY.1 ⟨by decide, by decide⟩ ⟨by decide, by decide⟩ (nle rfl) dX9_best_31 rfl ?_
      rintro _ _ ⟨rfl, a, b, rfl, hb⟩
      have hE := hD.weigh a b
      obtain ⟨hD1, hL, hA, ⟨hF, hV⟩, hU, ⟨hI, hX⟩, hY, hdB, hcB, hrw, hinj, hxr, hct⟩ := id hE
      show V X (rmD 8 0 0) (mset (mset M ja (aJ (xg X) 256 a)) jb (aJ (xg X) 256 b)) 0 0 [(0, .ref dk), (1, .int (nI p)), (2, .int zz)] 34 []
      refine v_aload_n C dX9_best_34 rfl ?_
      refine v_get C kX9 hD1 5 (by decide) wF_X9_47 rfl dX9_best_35 ?_
      refine v_iload_n C dX9_best_38 rfl ?_
      refine v_callV (As := [.int (nI p)]) (rest := []) (b := fy) C (c_X2_choose (xl X) (xg X) (mset (mset M ja (aJ (xg X) 256 a)) jb (aJ (xg X) 256 b)) fy f0 f1 f2 f3 ja jb fl a b p (by omega) (fun s => worN fl m s nT) hb (fun s => Nat.le_trans (worN_le fl m s nT) (Nat.le_trans (Nat.mul_le_mul_right _ hL.1) (by decide))) hY) pm_X2_choose wI_X2_choose wS_X2_choose wM_X9_231 kX2 hY.1 ⟨by decide, by decide⟩ ⟨by decide, by decide⟩ (nle rfl) dX9_best_39 rfl (dt1 ?_)
      show V X (rmD 8 0 0) (mset (mset M ja (aJ (xg X) 256 a)) jb (aJ (xg X) 256 b)) 0 0 [(0, .ref dk), (1, .int (nI p)), (2, .int zz)] 42 [.int (nI (bestN nT m fl p))]
      refine v_istore_n (lv' := [(3, .int (nI (bestN nT m fl p))), (0, .ref dk), (1, .int (nI p)), (2, .int zz)]) C dX9_best_42 hN (by decide) rfl ?_
      refine v_iload_n C dX9_best_43 rfl ?_
      refine v_if_ne (tgt := 51) C dX9_best_44 (by decide) (fun h44 => ?_) (fun h44 => ?_)
      · refine v_aload_n C dX9_best_51 rfl ?_
        refine v_get C kX9 hD1 5 (by decide) wF_X9_47 rfl dX9_best_52 ?_
        refine v_iload_n C dX9_best_55 rfl ?_
        refine v_callV (As := [.int (nI (bestN nT m fl p))]) (rest := []) (b := fy) C (c_X2_riskOf (xl X) (xg X) (mset (mset M ja (aJ (xg X) 256 a)) jb (aJ (xg X) 256 b)) fy f0 f1 f2 f3 ja jb fl a b (bestN nT m fl p) (Nat.lt_of_le_of_lt (chsN_le _ _ _ _) (by decide)) hY) pm_X2_riskOf wI_X2_riskOf wS_X2_riskOf wM_X9_234 kX2 hY.1 ⟨by decide, by decide⟩ ⟨by decide, by decide⟩ (nle rfl) dX9_best_56 rfl (dt1 ?_)
        show V X (rmD 8 0 0) (mset (mset M ja (aJ (xg X) 256 a)) jb (aJ (xg X) 256 b)) 0 0 [(3, .int (nI (bestN nT m fl p))), (0, .ref dk), (1, .int (nI p)), (2, .int zz)] 59 [.int (nI (rskN fl (bestN nT m fl p) 8))]
        exact v_iret C E dX9_best_59 (nle rfl) (nle rfl) ⟨by simp only [aBest, h8, h17, Bool.and_self, if_true, nI_clamp (n := p) (show p < 2 ^ 31 by omega)]; first | rw [if_pos h44] | rw [if_neg h44], hE.W⟩
      · refine v_iload_n C dX9_best_47 rfl ?_
        refine v_goto (tgt := 59) C dX9_best_48 (by decide) ?_
        exact v_iret C E dX9_best_59 (nle rfl) (nle rfl) ⟨by simp only [aBest, h8, h17, Bool.and_self, if_true, nI_clamp (n := p) (show p < 2 ^ 31 by omega)]; first | rw [if_pos h44] | rw [if_neg h44], hE.W⟩
    · refine v_bipush C dX9_best_20 (v := (-2)) rfl ?_
      exact v_iret C E dX9_best_22 (nle rfl) (nle rfl) ⟨by first | (simp [aBest, h8, h17]; done) | (simp [aBest, h8]; done), hD.W⟩

theorem cho_le : ∀ n, n < 21 → ∀ k, k ≤ n → chB n k ≤ 184756 := by decide +kernel
theorem choN_le {n k : Nat} (hn : n < 21) : choN n k ≤ 184756 := by
  unfold choN
  split
  · next h => exact cho_le n hn k h
  · exact Nat.zero_le _
theorem leaN_le {n k a b : Nat} (hn : n < 21) (hk : k < 21) : ∀ j, leaN n k a b j ≤ j * 34134779536
  | 0 => Nat.zero_le _
  | j + 1 => by
    have h1 := leaN_le (a := a) (b := b) hn hk j
    have h2 : choN n (a + j) * (if j ≤ b then choN k (b - j) else 0) ≤ 184756 * 184756 := Nat.mul_le_mul (choN_le hn) (by split; exact choN_le hk; exact Nat.zero_le _)
    unfold leaN
    omega
theorem leaN_end {n k a b : Nat} : ∀ {j : Nat}, b < j → ∀ i, leaN n k a b (j + i) = leaN n k a b j
  | j, h, 0 => rfl
  | j, h, i + 1 => by
    show leaN n k a b (j + i) + choN n (a + (j + i)) * (if j + i ≤ b then choN k (b - (j + i)) else 0) = _
    rw [leaN_end h i, if_neg (by omega), Nat.mul_zero, Nat.add_zero]
set_option maxHeartbeats 4000000 in
set_option maxRecDepth 100000 in
theorem c_X9_lean (l : Launch) (g : Gm) (M : Mem) (dk : Nat) (la ta : Nat) (th mk dn : Nat → Nat) (al pt : Nat) (pa ca ka ra : Nat → Nat) (fa va : Nat) (ua sa xa na : Nat) (tA : Nat → Nat) (li xr : Nat) (fy f0 f1 f2 f3 ja jb : Nat) (lo hi pl ph : Nat → Int64) (cn lk : Nat → Nat → Int32) (bc bs : Bool) (vf : Nat → Int32) (cv mv : Int32) (xf : Nat → Int32) (ga gb : Nat → Int64) (nT : Nat) (m : Nat → Nat → Nat) (dB : Nat → Nat → Bool) (nP : Nat) (pf : Nat → Nat → Nat) (cB : Nat → Nat → Bool) (nS : Nat) (sg : Nat → Int32) (ln : Nat → Nat) (tx : Nat → Nat → Int32) (fl : Nat → Nat → Nat) (hD : DeskA g M dk la ta th mk dn al pt pa ca ka ra fa va ua sa xa na tA li xr fy f0 f1 f2 f3 ja jb lo hi pl ph cn lk bc bs vf cv mv xf ga gb nT m dB nP pf cB nS sg ln tx fl) (aa nn bb kk zz : Int32) : Ct l g yX9_lean cX9_lean 10 (some .long) 8 0 0 [.ref dk, .int aa, .int nn, .int bb, .int kk, .int zz] M (fun v N => v = some (.long (aLean aa nn bb kk zz)) ∧ N = M) := by
  refine Ct.of (by decide) (Nat.le_of_ble_eq_true rfl) ?_
  intro X hXl hXg hN C E
  subst hXl; subst hXg
  show V X (rmD 8 0 0) M 0 0 [(0, .ref dk), (1, .int aa), (2, .int nn), (3, .int bb), (4, .int kk), (5, .int zz)] 0 []
  obtain ⟨hD1, hL, hA, ⟨hF, hV⟩, hU, ⟨hI, hX⟩, hY, hdB, hcB, hrw, hinj, hxr, hct⟩ := id hD
  have h12 := hL.1
  have h10 := hA.1
  refine v_iload_n C dX9_lean_0 rfl ?_
  refine v_iconst C dX9_lean_1 (v := 1) rfl ?_
  refine v_bipush C dX9_lean_2 (v := 20) rfl ?_
  refine v_callS (As := [.int nn, .int 1, .int 20]) (rest := []) C (c_X9_isWithin (xl X) (xg X) nn 1 20 M) pm_X9_isWithin wT_X9_isWithin wM_X9_55 ⟨by decide, by decide⟩ ⟨by decide, by decide⟩ (nle rfl) dX9_lean_4 rfl (dt1 ?_)
  show V X (rmD 8 0 0) M 0 0 [(0, .ref dk), (1, .int aa), (2, .int nn), (3, .int bb), (4, .int kk), (5, .int zz)] 7 [.int (bI (qin nn 1 20))]
  refine v_ifb_eq (tgt := 19) C dX9_lean_7 (by decide) (fun h7 => ?_) (fun h7 => ?_)
  · refine v_ldc2 C dX9_lean_19 wJ_X9_187 ?_
    exact v_lret C E dX9_lean_22 (nle rfl) (nle rfl) ⟨by first | (simp [aLean, h7, h16, h31, h41, h53]; done) | (simp [aLean, h7, h16, h31, h41]; done) | (simp [aLean, h7, h16, h31]; done) | (simp [aLean, h7, h16]; done) | (simp [aLean, h7]; done), rfl⟩
  · refine v_iload_n C dX9_lean_10 rfl ?_
    refine v_iconst C dX9_lean_11 (v := 0) rfl ?_
    refine v_iload_n C dX9_lean_12 rfl ?_
    refine v_callS (As := [.int aa, .int 0, .int nn]) (rest := []) C (c_X9_isWithin (xl X) (xg X) aa 0 nn M) pm_X9_isWithin wT_X9_isWithin wM_X9_55 ⟨by decide, by decide⟩ ⟨by decide, by decide⟩ (nle rfl) dX9_lean_13 rfl (dt1 ?_)
    show V X (rmD 8 0 0) M 0 0 [(0, .ref dk), (1, .int aa), (2, .int nn), (3, .int bb), (4, .int kk), (5, .int zz)] 16 [.int (bI (qin aa 0 nn))]
    refine v_ifb_ne (tgt := 23) C dX9_lean_16 (by decide) (fun h16 => ?_) (fun h16 => ?_)
    · refine v_iload C dX9_lean_23 rfl ?_
      refine v_iconst C dX9_lean_25 (v := 1) rfl ?_
      refine v_bipush C dX9_lean_26 (v := 20) rfl ?_
      refine v_callS (As := [.int kk, .int 1, .int 20]) (rest := []) C (c_X9_isWithin (xl X) (xg X) kk 1 20 M) pm_X9_isWithin wT_X9_isWithin wM_X9_55 ⟨by decide, by decide⟩ ⟨by decide, by decide⟩ (nle rfl) dX9_lean_28 rfl (dt1 ?_)
      show V X (rmD 8 0 0) M 0 0 [(0, .ref dk), (1, .int aa), (2, .int nn), (3, .int bb), (4, .int kk), (5, .int zz)] 31 [.int (bI (qin kk 1 20))]
      refine v_ifb_eq (tgt := 44) C dX9_lean_31 (by decide) (fun h31 => ?_) (fun h31 => ?_)
      · refine v_ldc2 C dX9_lean_44 wJ_X9_187 ?_
        exact v_lret C E dX9_lean_47 (nle rfl) (nle rfl) ⟨by first | (simp [aLean, h7, h16, h31, h41, h53]; done) | (simp [aLean, h7, h16, h31, h41]; done) | (simp [aLean, h7, h16, h31]; done) | (simp [aLean, h7, h16]; done) | (simp [aLean, h7]; done), rfl⟩
      · refine v_iload_n C dX9_lean_34 rfl ?_
        refine v_iconst C dX9_lean_35 (v := 0) rfl ?_
        refine v_iload C dX9_lean_36 rfl ?_
        refine v_callS (As := [.int bb, .int 0, .int kk]) (rest := []) C (c_X9_isWithin (xl X) (xg X) bb 0 kk M) pm_X9_isWithin wT_X9_isWithin wM_X9_55 ⟨by decide, by decide⟩ ⟨by decide, by decide⟩ (nle rfl) dX9_lean_38 rfl (dt1 ?_)
        show V X (rmD 8 0 0) M 0 0 [(0, .ref dk), (1, .int aa), (2, .int nn), (3, .int bb), (4, .int kk), (5, .int zz)] 41 [.int (bI (qin bb 0 kk))]
        refine v_ifb_ne (tgt := 48) C dX9_lean_41 (by decide) (fun h41 => ?_) (fun h41 => ?_)
        · refine v_iload C dX9_lean_48 rfl ?_
          refine v_callS (As := [.int zz]) (rest := []) C (c_X9_isPart (xl X) (xg X) zz M) pm_X9_isPart wT_X9_isPart wM_X9_184 ⟨by decide, by decide⟩ ⟨by decide, by decide⟩ (nle rfl) dX9_lean_50 rfl (dt1 ?_)
          show V X (rmD 8 0 0) M 0 0 [(0, .ref dk), (1, .int aa), (2, .int nn), (3, .int bb), (4, .int kk), (5, .int zz)] 53 [.int (bI (qin zz 0 1))]
          refine v_ifb_ne (tgt := 60) C dX9_lean_53 (by decide) (fun h53 => ?_) (fun h53 => ?_)
          · obtain ⟨n, hLn, hjn, rfl⟩ := qin_nJ (x := nn) (L := 1) (N := 20) (by decide) (by decide) h7
            obtain ⟨k, hLk, hjk, rfl⟩ := qin_nJ (x := kk) (L := 1) (N := 20) (by decide) (by decide) h31
            obtain ⟨a, hLa, hja, rfl⟩ := qin_nJ (x := aa) (L := 0) (N := n) (by omega) (by decide) h16
            obtain ⟨b, hLb, hjb, rfl⟩ := qin_nJ (x := bb) (L := 0) (N := k) (by omega) (by decide) h41
            obtain ⟨z, hLz, hjz, rfl⟩ := qin_nJ (x := zz) (L := 0) (N := 1) (by decide) (by decide) h53
            show V X (rmD 8 0 0) M 0 0 [(0, .ref dk), (1, .int (nI a)), (2, .int (nI n)), (3, .int (nI b)), (4, .int (nI k)), (5, .int (nI z))] 60 []
            refine v_iload_n C dX9_lean_60 rfl ?_
            refine v_iload_n C dX9_lean_61 rfl ?_
            refine v_iadd C dX9_lean_62 ?_
            rw [nI_add]
            show V X (rmD 8 0 0) M 0 0 [(0, .ref dk), (1, .int (nI a)), (2, .int (nI n)), (3, .int (nI b)), (4, .int (nI k)), (5, .int (nI z))] 63 [.int (nI (a + b))]
            refine v_istore (lv' := [(6, .int (nI (a + b))), (0, .ref dk), (1, .int (nI a)), (2, .int (nI n)), (3, .int (nI b)), (4, .int (nI k)), (5, .int (nI z))]) C dX9_lean_63 hN (by decide) rfl ?_
            refine v_lconst C dX9_lean_65 (v := 0) rfl ?_
            refine v_lstore (lv' := [(7, .long 0), (6, .int (nI (a + b))), (0, .ref dk), (1, .int (nI a)), (2, .int (nI n)), (3, .int (nI b)), (4, .int (nI k)), (5, .int (nI z))]) C dX9_lean_66 hN (by decide) rfl ?_
            refine v_iload_n C dX9_lean_68 rfl ?_
            refine v_istore (lv' := [(9, .int (nI a)), (7, .long 0), (6, .int (nI (a + b))), (0, .ref dk), (1, .int (nI a)), (2, .int (nI n)), (3, .int (nI b)), (4, .int (nI k)), (5, .int (nI z))]) C dX9_lean_69 hN (by decide) rfl ?_
            refine v_sub (lv' := [(0, .ref dk), (1, .int (nI a)), (2, .int (nI n)), (3, .int (nI b)), (4, .int (nI k)), (5, .int (nI z)), (6, .int (nI (a + b))), (7, .long 0), (9, .int (nI a))]) [3, 4, 5, 6, 7, 8, 2, 1, 0] rfl ?_
            have lp71 : ∀ (mm : Nat) (j : Nat) (h1 : a + j ≤ n + 1) (h2 : j ≤ b + 1), n + 1 - (a + j) < mm → V X (rmD 8 0 0) M 0 0 [(0, .ref dk), (1, .int (nI a)), (2, .int (nI n)), (3, .int (nI b)), (4, .int (nI k)), (5, .int (nI z)), (6, .int (nI (a + b))), (7, .long (lN (leaN n k a b j))), (9, .int (nI (a + j)))] 71 [] := by
              intro mm
              induction mm with
              | zero => intro j h1 h2 hmu; exact absurd hmu (Nat.not_lt_zero _)
              | succ mm ih71 =>
                intro j h1 h2 hmu
                refine v_iload C dX9_lean_71 rfl ?_
                refine v_iload_n C dX9_lean_73 rfl ?_
                refine v_icmp_gt (tgt := 112) C dX9_lean_74 (by decide) (fun h74 => ?_) (fun h74 => ?_)
                · have hend : leaN n k a b j = leaN n k a b (n + 1 - a) := by
                    first
                      | (have q := nI_ltN (by omega) (by omega) h74; rw [show n + 1 - a = j by omega]; done)
                      | (have q := nI_ltN (by omega) (by omega) h81; rw [show n + 1 - a = j + (n + 1 - a - j) by omega, leaN_end (by omega)])
                  rw [hend]
                  show V X (rmD 8 0 0) M 0 0 [(0, .ref dk), (1, .int (nI a)), (2, .int (nI n)), (3, .int (nI b)), (4, .int (nI k)), (5, .int (nI z)), (6, .int (nI (a + b))), (7, .long (lN (leaN n k a b (n + 1 - a)))), (9, .int (nI (a + j)))] 112 []
                  refine v_lload C dX9_lean_112 rfl ?_
                  refine v_iload_n C dX9_lean_114 rfl ?_
                  refine v_iload C dX9_lean_115 rfl ?_
                  refine v_iadd C dX9_lean_117 ?_
                  rw [nI_add]
                  show V X (rmD 8 0 0) M 0 0 [(0, .ref dk), (1, .int (nI a)), (2, .int (nI n)), (3, .int (nI b)), (4, .int (nI k)), (5, .int (nI z)), (6, .int (nI (a + b))), (7, .long (lN (leaN n k a b (n + 1 - a)))), (9, .int (nI (a + j)))] 118 [.int (nI (n + k)), .long (lN (leaN n k a b (n + 1 - a)))]
                  refine v_iload C dX9_lean_118 rfl ?_
                  refine v_callS (As := [.int (nI (n + k)), .int (nI (a + b))]) (rest := [.long (lN (leaN n k a b (n + 1 - a)))]) C (c_X9_choices (xl X) (xg X) (n + k) (a + b) (by omega) (by omega) M) pm_X9_choices wT_X9_choices wM_X9_237 ⟨by decide, by decide⟩ ⟨by decide, by decide⟩ (nle rfl) dX9_lean_120 rfl (dt1 ?_)
                  show V X (rmD 8 0 0) M 0 0 [(0, .ref dk), (1, .int (nI a)), (2, .int (nI n)), (3, .int (nI b)), (4, .int (nI k)), (5, .int (nI z)), (6, .int (nI (a + b))), (7, .long (lN (leaN n k a b (n + 1 - a)))), (9, .int (nI (a + j)))] 123 [.long (lN (choN (n + k) (a + b))), .long (lN (leaN n k a b (n + 1 - a)))]
                  have hch : choN (n + k) (a + b) < 2 ^ 63 ∧ 0 < choN (n + k) (a + b) := by have := (ch_ok (n + k) (by omega) (a + b) (by omega)).2; rw [choN, if_pos (show a + b ≤ n + k by omega)]; omega
                  refine v_iload C dX9_lean_123 rfl ?_
                  refine v_callS (As := [.long (lN (leaN n k a b (n + 1 - a))), .long (lN (choN (n + k) (a + b))), .int (nI z)]) (rest := []) C (c_X9_partOf (xl X) (xg X) (leaN n k a b (n + 1 - a)) (choN (n + k) (a + b)) z (Nat.lt_of_le_of_lt (leaN_le (by omega) (by omega) _) (Nat.lt_of_le_of_lt (Nat.mul_le_mul_right _ (show n + 1 - a ≤ 21 by omega)) (by decide))) hch.1 hch.2 (by omega) M) pm_X9_partOf wT_X9_partOf wM_X9_199 ⟨by decide, by decide⟩ ⟨by decide, by decide⟩ (nle rfl) dX9_lean_125 rfl (dt1 ?_)
                  show V X (rmD 8 0 0) M 0 0 [(0, .ref dk), (1, .int (nI a)), (2, .int (nI n)), (3, .int (nI b)), (4, .int (nI k)), (5, .int (nI z)), (6, .int (nI (a + b))), (7, .long (lN (leaN n k a b (n + 1 - a)))), (9, .int (nI (a + j)))] 128 [.long (lN (frN (leaN n k a b (n + 1 - a)) (choN (n + k) (a + b)) z))]
                  exact v_lret C E dX9_lean_128 (nle rfl) (nle rfl) ⟨by simp only [aLean, h7, h16, h31, h41, h53, Bool.and_self, if_true, nI_clamp (n := a) (show a < 2 ^ 31 by omega), nI_clamp (n := b) (show b < 2 ^ 31 by omega), nI_clamp (n := n) (show n < 2 ^ 31 by omega), nI_clamp (n := k) (show k < 2 ^ 31 by omega), nI_clamp (n := z) (show z < 2 ^ 31 by omega)], rfl⟩
                · have g74 : a + j ≤ n := nI_nltN (by omega) (by omega) h74
                  refine v_iload C dX9_lean_77 rfl ?_
                  refine v_iload C dX9_lean_79 rfl ?_
                  refine v_icmp_gt (tgt := 112) C dX9_lean_81 (by decide) (fun h81 => ?_) (fun h81 => ?_)
                  · have hend : leaN n k a b j = leaN n k a b (n + 1 - a) := by
                      first
                        | (have q := nI_ltN (by omega) (by omega) h74; rw [show n + 1 - a = j by omega]; done)
                        | (have q := nI_ltN (by omega) (by omega) h81; rw [show n + 1 - a = j + (n + 1 - a - j) by omega, leaN_end (by omega)])
                    rw [hend]
                    show V X (rmD 8 0 0) M 0 0 [(0, .ref dk), (1, .int (nI a)), (2, .int (nI n)), (3, .int (nI b)), (4, .int (nI k)), (5, .int (nI z)), (6, .int (nI (a + b))), (7, .long (lN (leaN n k a b (n + 1 - a)))), (9, .int (nI (a + j)))] 112 []
                    refine v_lload C dX9_lean_112 rfl ?_
                    refine v_iload_n C dX9_lean_114 rfl ?_
                    refine v_iload C dX9_lean_115 rfl ?_
                    refine v_iadd C dX9_lean_117 ?_
                    rw [nI_add]
                    show V X (rmD 8 0 0) M 0 0 [(0, .ref dk), (1, .int (nI a)), (2, .int (nI n)), (3, .int (nI b)), (4, .int (nI k)), (5, .int (nI z)), (6, .int (nI (a + b))), (7, .long (lN (leaN n k a b (n + 1 - a)))), (9, .int (nI (a + j)))] 118 [.int (nI (n + k)), .long (lN (leaN n k a b (n + 1 - a)))]
                    refine v_iload C dX9_lean_118 rfl ?_
                    refine v_callS (As := [.int (nI (n + k)), .int (nI (a + b))]) (rest := [.long (lN (leaN n k a b (n + 1 - a)))]) C (c_X9_choices (xl X) (xg X) (n + k) (a + b) (by omega) (by omega) M) pm_X9_choices wT_X9_choices wM_X9_237 ⟨by decide, by decide⟩ ⟨by decide, by decide⟩ (nle rfl) dX9_lean_120 rfl (dt1 ?_)
                    show V X (rmD 8 0 0) M 0 0 [(0, .ref dk), (1, .int (nI a)), (2, .int (nI n)), (3, .int (nI b)), (4, .int (nI k)), (5, .int (nI z)), (6, .int (nI (a + b))), (7, .long (lN (leaN n k a b (n + 1 - a)))), (9, .int (nI (a + j)))] 123 [.long (lN (choN (n + k) (a + b))), .long (lN (leaN n k a b (n + 1 - a)))]
                    have hch : choN (n + k) (a + b) < 2 ^ 63 ∧ 0 < choN (n + k) (a + b) := by have := (ch_ok (n + k) (by omega) (a + b) (by omega)).2; rw [choN, if_pos (show a + b ≤ n + k by omega)]; omega
                    refine v_iload C dX9_lean_123 rfl ?_
                    refine v_callS (As := [.long (lN (leaN n k a b (n + 1 - a))), .long (lN (choN (n + k) (a + b))), .int (nI z)]) (rest := []) C (c_X9_partOf (xl X) (xg X) (leaN n k a b (n + 1 - a)) (choN (n + k) (a + b)) z (Nat.lt_of_le_of_lt (leaN_le (by omega) (by omega) _) (Nat.lt_of_le_of_lt (Nat.mul_le_mul_right _ (show n + 1 - a ≤ 21 by omega)) (by decide))) hch.1 hch.2 (by omega) M) pm_X9_partOf wT_X9_partOf wM_X9_199 ⟨by decide, by decide⟩ ⟨by decide, by decide⟩ (nle rfl) dX9_lean_125 rfl (dt1 ?_)
                    show V X (rmD 8 0 0) M 0 0 [(0, .ref dk), (1, .int (nI a)), (2, .int (nI n)), (3, .int (nI b)), (4, .int (nI k)), (5, .int (nI z)), (6, .int (nI (a + b))), (7, .long (lN (leaN n k a b (n + 1 - a)))), (9, .int (nI (a + j)))] 128 [.long (lN (frN (leaN n k a b (n + 1 - a)) (choN (n + k) (a + b)) z))]
                    exact v_lret C E dX9_lean_128 (nle rfl) (nle rfl) ⟨by simp only [aLean, h7, h16, h31, h41, h53, Bool.and_self, if_true, nI_clamp (n := a) (show a < 2 ^ 31 by omega), nI_clamp (n := b) (show b < 2 ^ 31 by omega), nI_clamp (n := n) (show n < 2 ^ 31 by omega), nI_clamp (n := k) (show k < 2 ^ 31 by omega), nI_clamp (n := z) (show z < 2 ^ 31 by omega)], rfl⟩
                  · have g81 : j ≤ b := by have := nI_nltN (by omega) (by omega) h81; omega
                    refine v_lload C dX9_lean_84 rfl ?_
                    refine v_iload_n C dX9_lean_86 rfl ?_
                    refine v_iload C dX9_lean_87 rfl ?_
                    refine v_callS (As := [.int (nI n), .int (nI (a + j))]) (rest := [.long (lN (leaN n k a b j))]) C (c_X9_choices (xl X) (xg X) n (a + j) (by omega) (by omega) M) pm_X9_choices wT_X9_choices wM_X9_237 ⟨by decide, by decide⟩ ⟨by decide, by decide⟩ (nle rfl) dX9_lean_89 rfl (dt1 ?_)
                    show V X (rmD 8 0 0) M 0 0 [(0, .ref dk), (1, .int (nI a)), (2, .int (nI n)), (3, .int (nI b)), (4, .int (nI k)), (5, .int (nI z)), (6, .int (nI (a + b))), (7, .long (lN (leaN n k a b j))), (9, .int (nI (a + j)))] 92 [.long (lN (choN n (a + j))), .long (lN (leaN n k a b j))]
                    refine v_iload C dX9_lean_92 rfl ?_
                    refine v_iload C dX9_lean_94 rfl ?_
                    refine v_iload C dX9_lean_96 rfl ?_
                    refine v_isub C dX9_lean_98 ?_
                    rw [show nI (a + b) - nI (a + j) = nI (b - j) by rw [pk_sub (by omega)]; congr 1; omega]
                    show V X (rmD 8 0 0) M 0 0 [(0, .ref dk), (1, .int (nI a)), (2, .int (nI n)), (3, .int (nI b)), (4, .int (nI k)), (5, .int (nI z)), (6, .int (nI (a + b))), (7, .long (lN (leaN n k a b j))), (9, .int (nI (a + j)))] 99 [.int (nI (b - j)), .int (nI k), .long (lN (choN n (a + j))), .long (lN (leaN n k a b j))]
                    refine v_callS (As := [.int (nI k), .int (nI (b - j))]) (rest := [.long (lN (choN n (a + j))), .long (lN (leaN n k a b j))]) C (c_X9_choices (xl X) (xg X) k (b - j) (by omega) (by omega) M) pm_X9_choices wT_X9_choices wM_X9_237 ⟨by decide, by decide⟩ ⟨by decide, by decide⟩ (nle rfl) dX9_lean_99 rfl (dt1 ?_)
                    show V X (rmD 8 0 0) M 0 0 [(0, .ref dk), (1, .int (nI a)), (2, .int (nI n)), (3, .int (nI b)), (4, .int (nI k)), (5, .int (nI z)), (6, .int (nI (a + b))), (7, .long (lN (leaN n k a b j))), (9, .int (nI (a + j)))] 102 [.long (lN (choN k (b - j))), .long (lN (choN n (a + j))), .long (lN (leaN n k a b j))]
                    refine v_lmul C dX9_lean_102 ?_
                    refine v_ladd C dX9_lean_103 ?_
                    rw [lN_mul, lN_add, show leaN n k a b j + choN n (a + j) * choN k (b - j) = leaN n k a b (j + 1) from by rw [show leaN n k a b (j + 1) = leaN n k a b j + choN n (a + j) * (if j ≤ b then choN k (b - j) else 0) from rfl, if_pos g81]]
                    show V X (rmD 8 0 0) M 0 0 [(0, .ref dk), (1, .int (nI a)), (2, .int (nI n)), (3, .int (nI b)), (4, .int (nI k)), (5, .int (nI z)), (6, .int (nI (a + b))), (7, .long (lN (leaN n k a b j))), (9, .int (nI (a + j)))] 104 [.long (lN (leaN n k a b (j + 1)))]
                    refine v_lstore (lv' := [(7, .long (lN (leaN n k a b (j + 1)))), (0, .ref dk), (1, .int (nI a)), (2, .int (nI n)), (3, .int (nI b)), (4, .int (nI k)), (5, .int (nI z)), (6, .int (nI (a + b))), (9, .int (nI (a + j)))]) C dX9_lean_104 hN (by decide) rfl ?_
                    refine v_iinc (lv' := [(9, .int (nI (a + (j + 1)))), (7, .long (lN (leaN n k a b (j + 1)))), (0, .ref dk), (1, .int (nI a)), (2, .int (nI n)), (3, .int (nI b)), (4, .int (nI k)), (5, .int (nI z)), (6, .int (nI (a + b)))]) C dX9_lean_106 8 rfl (nI_1 (a + j)) hN (by decide) rfl ?_
                    refine v_goto (tgt := 71) C dX9_lean_109 (by decide) ?_
                    refine v_sub (lv' := [(0, .ref dk), (1, .int (nI a)), (2, .int (nI n)), (3, .int (nI b)), (4, .int (nI k)), (5, .int (nI z)), (6, .int (nI (a + b))), (7, .long (lN (leaN n k a b (j + 1)))), (9, .int (nI (a + (j + 1))))]) [2, 3, 4, 5, 6, 7, 8, 1, 0] rfl ?_
                    exact ih71 (j + 1) (by omega) (by omega) (by omega)
            exact lp71 (_ + 1) 0 (by omega) (by omega) (Nat.lt_succ_self _)
          · refine v_ldc2 C dX9_lean_56 wJ_X9_187 ?_
            exact v_lret C E dX9_lean_59 (nle rfl) (nle rfl) ⟨by first | (simp [aLean, h7, h16, h31, h41, h53]; done) | (simp [aLean, h7, h16, h31, h41]; done) | (simp [aLean, h7, h16, h31]; done) | (simp [aLean, h7, h16]; done) | (simp [aLean, h7]; done), rfl⟩
        · refine v_ldc2 C dX9_lean_44 wJ_X9_187 ?_
          exact v_lret C E dX9_lean_47 (nle rfl) (nle rfl) ⟨by first | (simp [aLean, h7, h16, h31, h41, h53]; done) | (simp [aLean, h7, h16, h31, h41]; done) | (simp [aLean, h7, h16, h31]; done) | (simp [aLean, h7, h16]; done) | (simp [aLean, h7]; done), rfl⟩
    · refine v_ldc2 C dX9_lean_19 wJ_X9_187 ?_
      exact v_lret C E dX9_lean_22 (nle rfl) (nle rfl) ⟨by first | (simp [aLean, h7, h16, h31, h41, h53]; done) | (simp [aLean, h7, h16, h31, h41]; done) | (simp [aLean, h7, h16, h31]; done) | (simp [aLean, h7, h16]; done) | (simp [aLean, h7]; done), rfl⟩

set_option maxHeartbeats 4000000 in
set_option maxRecDepth 100000 in
theorem c_X9_told (l : Launch) (g : Gm) (M : Mem) (dk : Nat) (la ta : Nat) (th mk dn : Nat → Nat) (al pt : Nat) (pa ca ka ra : Nat → Nat) (fa va : Nat) (ua sa xa na : Nat) (tA : Nat → Nat) (li xr : Nat) (fy f0 f1 f2 f3 ja jb : Nat) (lo hi pl ph : Nat → Int64) (cn lk : Nat → Nat → Int32) (bc bs : Bool) (vf : Nat → Int32) (cv mv : Int32) (xf : Nat → Int32) (ga gb : Nat → Int64) (nT : Nat) (m : Nat → Nat → Nat) (dB : Nat → Nat → Bool) (nP : Nat) (pf : Nat → Nat → Nat) (cB : Nat → Nat → Bool) (nS : Nat) (sg : Nat → Int32) (ln : Nat → Nat) (tx : Nat → Nat → Int32) (fl : Nat → Nat → Nat) (hD : DeskA g M dk la ta th mk dn al pt pa ca ka ra fa va ua sa xa na tA li xr fy f0 f1 f2 f3 ja jb lo hi pl ph cn lk bc bs vf cv mv xf ga gb nT m dB nP pf cB nS sg ln tx fl) (w : Int32) : Ct l g yX9_told cX9_told 2 (some .int) 8 0 0 [.ref dk, .int w] M (fun v N => v = some (.int (aTold nT nP nS ln w)) ∧ N = M) := by
  refine Ct.of (by decide) (Nat.le_of_ble_eq_true rfl) ?_
  intro X hXl hXg hN C E
  subst hXl; subst hXg
  show V X (rmD 8 0 0) M 0 0 [(0, .ref dk), (1, .int w)] 0 []
  obtain ⟨hD1, hL, hA, ⟨hF, hV⟩, hU, ⟨hI, hX⟩, hY, hdB, hcB, hrw, hinj, hxr, hct⟩ := id hD
  have h12 := hL.1
  have h10 := hA.1
  rcases idx_cases 4 (by decide) w with ⟨i, lt, rfl, hx⟩ | ⟨hn, hx⟩
  · rcases (show i = 0 ∨ i = 1 ∨ i = 2 ∨ i = 3 by omega) with rfl | rfl | rfl | rfl
    · have hzz := trivial
      show V X (rmD 8 0 0) M 0 0 [(0, .ref dk), (1, .int (nI 0))] 0 []
      refine v_iload_n C dX9_told_0 rfl ?_
      refine v_tableIn (tgt := 32) C dX9_told_1 (by decide) (by decide) (off := 31) rfl (by decide) ?_
      refine v_aload_n C dX9_told_32 rfl ?_
      refine v_get C kX9 hD1 0 (by decide) wF_X9_10 rfl dX9_told_33 ?_
      refine v_callV (As := []) (rest := []) (b := la) C (c_X3_size (xl X) (xg X) M la ta th mk dn nT m lo hi hL) pm_X3_size wI_X3_size wS_X3_size wM_X9_171 kX3 hL.2.1 ⟨by decide, by decide⟩ ⟨by decide, by decide⟩ (nle rfl) dX9_told_36 rfl (dt1 ?_)
      show V X (rmD 8 0 0) M 0 0 [(0, .ref dk), (1, .int (nI 0))] 39 [.int (nI nT)]
      exact v_iret C E dX9_told_39 (nle rfl) (nle rfl) ⟨rfl, rfl⟩
    · have hzz := trivial
      show V X (rmD 8 0 0) M 0 0 [(0, .ref dk), (1, .int (nI 1))] 0 []
      refine v_iload_n C dX9_told_0 rfl ?_
      refine v_tableIn (tgt := 40) C dX9_told_1 (by decide) (by decide) (off := 39) rfl (by decide) ?_
      refine v_aload_n C dX9_told_40 rfl ?_
      refine v_get C kX9 hD1 1 (by decide) wF_X9_19 rfl dX9_told_41 ?_
      refine v_callV (As := []) (rest := []) (b := al) C (c_X0_size (xl X) (xg X) M al pt pa ca ka ra nP pf pl ph cn lk hA) pm_X0_size wI_X0_size wS_X0_size wM_X9_241 kX0 hA.2.1 ⟨by decide, by decide⟩ ⟨by decide, by decide⟩ (nle rfl) dX9_told_44 rfl (dt1 ?_)
      show V X (rmD 8 0 0) M 0 0 [(0, .ref dk), (1, .int (nI 1))] 47 [.int (nI nP)]
      exact v_iret C E dX9_told_47 (nle rfl) (nle rfl) ⟨rfl, rfl⟩
    · have hzz := trivial
      show V X (rmD 8 0 0) M 0 0 [(0, .ref dk), (1, .int (nI 2))] 0 []
      refine v_iload_n C dX9_told_0 rfl ?_
      refine v_tableIn (tgt := 48) C dX9_told_1 (by decide) (by decide) (off := 47) rfl (by decide) ?_
      refine v_aload_n C dX9_told_48 rfl ?_
      refine v_get C kX9 hD1 3 (by decide) wF_X9_33 rfl dX9_told_49 ?_
      refine v_callV (As := []) (rest := []) (b := ua) C (c_X8_signs (xl X) (xg X) M ua sa xa na tA nS sg ln tx hU) pm_X8_signs wI_X8_signs wS_X8_signs wM_X9_242 kX8 hU.2.1 ⟨by decide, by decide⟩ ⟨by decide, by decide⟩ (nle rfl) dX9_told_52 rfl (dt1 ?_)
      show V X (rmD 8 0 0) M 0 0 [(0, .ref dk), (1, .int (nI 2))] 55 [.int (nI nS)]
      exact v_iret C E dX9_told_55 (nle rfl) (nle rfl) ⟨rfl, rfl⟩
    · have hzz := trivial
      show V X (rmD 8 0 0) M 0 0 [(0, .ref dk), (1, .int (nI 3))] 0 []
      refine v_iload_n C dX9_told_0 rfl ?_
      refine v_tableIn (tgt := 56) C dX9_told_1 (by decide) (by decide) (off := 55) rfl (by decide) ?_
      refine v_aload_n C dX9_told_56 rfl ?_
      refine v_get C kX9 hD1 3 (by decide) wF_X9_33 rfl dX9_told_57 ?_
      refine v_callV (As := []) (rest := []) (b := ua) C (c_X8_bits (xl X) (xg X) M ua sa xa na tA nS sg ln tx hU) pm_X8_bits wI_X8_bits wS_X8_bits wM_X9_245 kX8 hU.2.1 ⟨by decide, by decide⟩ ⟨by decide, by decide⟩ (nle rfl) dX9_told_60 rfl (dt1 ?_)
      show V X (rmD 8 0 0) M 0 0 [(0, .ref dk), (1, .int (nI 3))] 63 [.int (orB (fun u => decide (0 < ln u)) 5)]
      exact v_iret C E dX9_told_63 (nle rfl) (nle rfl) ⟨rfl, rfl⟩
  · refine v_iload_n C dX9_told_0 rfl ?_
    refine v_tableOut (tgt := 64) C dX9_told_1 (by have := tab_out (n := 4) (by decide) hn; omega) (by decide) ?_
    refine v_bipush C dX9_told_64 (v := (-2)) rfl ?_
    exact v_iret C E dX9_told_66 (nle rfl) (nle rfl) ⟨by rw [aTold, if_neg (show ¬ w = 0 from hn 0 (by decide)), if_neg (show ¬ w = 1 from hn 1 (by decide)), if_neg (show ¬ w = 2 from hn 2 (by decide)), if_neg (show ¬ w = 3 from hn 3 (by decide))], rfl⟩


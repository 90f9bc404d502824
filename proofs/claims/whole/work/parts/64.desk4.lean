/-! The desk's methods: lines, doings, flights. -/
set_option maxHeartbeats 4000000 in
set_option maxRecDepth 100000 in
theorem c_X9_meet (l : Launch) (g : Gm) (M : Mem) (dk : Nat) (la ta : Nat) (th mk dn : Nat → Nat) (al pt : Nat) (pa ca ka ra : Nat → Nat) (fa va : Nat) (ua sa xa na : Nat) (tA : Nat → Nat) (li xr : Nat) (fy f0 f1 f2 f3 ja jb : Nat) (lo hi pl ph : Nat → Int64) (cn lk : Nat → Nat → Int32) (bc bs : Bool) (vf : Nat → Int32) (cv mv : Int32) (xf : Nat → Int32) (ga gb : Nat → Int64) (nT : Nat) (m : Nat → Nat → Nat) (dB : Nat → Nat → Bool) (nP : Nat) (pf : Nat → Nat → Nat) (cB : Nat → Nat → Bool) (nS : Nat) (sg : Nat → Int32) (ln : Nat → Nat) (tx : Nat → Nat → Int32) (fl : Nat → Nat → Nat) (hD : DeskA g M dk la ta th mk dn al pt pa ca ka ra fa va ua sa xa na tA li xr fy f0 f1 f2 f3 ja jb lo hi pl ph cn lk bc bs vf cv mv xf ga gb nT m dB nP pf cB nS sg ln tx fl) (d z : Int32) : Ct l g yX9_meet cX9_meet 3 (some .int) 8 0 0 [.ref dk, .int d, .int z] M (fun v N => v = some (.int (aMeet nT m d z)) ∧ DeskW g N dk nT m dB nP pf cB nS sg ln tx fl) := by
  refine Ct.of (by decide) (Nat.le_of_ble_eq_true rfl) ?_
  intro X hXl hXg hN C E
  subst hXl; subst hXg
  show V X (rmD 8 0 0) M 0 0 [(0, .ref dk), (1, .int d), (2, .int z)] 0 []
  obtain ⟨hD1, hL, hA, ⟨hF, hV⟩, hU, ⟨hI, hX⟩, hY, hdB, hcB, hrw, hinj, hxr, hct⟩ := id hD
  have h12 := hL.1
  have h10 := hA.1
  refine v_iload_n C dX9_meet_0 rfl ?_
  refine v_callS (As := [.int d]) (rest := []) C (c_X9_isDay (xl X) (xg X) d M) pm_X9_isDay wT_X9_isDay wM_X9_59 ⟨by decide, by decide⟩ ⟨by decide, by decide⟩ (nle rfl) dX9_meet_1 rfl (dt1 ?_)
  show V X (rmD 8 0 0) M 0 0 [(0, .ref dk), (1, .int d), (2, .int z)] 4 [.int (bI (qin d 0 99))]
  refine v_ifb_eq (tgt := 16) C dX9_meet_4 (by decide) (fun h4 => ?_) (fun h4 => ?_)
  · refine v_bipush C dX9_meet_16 (v := (-2)) rfl ?_
    exact v_iret C E dX9_meet_18 (nle rfl) (nle rfl) ⟨by first | (simp [aMeet, h4, h13]; done) | simp [aMeet, h4], hD.W⟩
  · refine v_iload_n C dX9_meet_7 rfl ?_
    refine v_iconst C dX9_meet_8 (v := 0) rfl ?_
    refine v_iconst C dX9_meet_9 (v := 1) rfl ?_
    refine v_callS (As := [.int z, .int 0, .int 1]) (rest := []) C (c_X9_isWithin (xl X) (xg X) z 0 1 M) pm_X9_isWithin wT_X9_isWithin wM_X9_55 ⟨by decide, by decide⟩ ⟨by decide, by decide⟩ (nle rfl) dX9_meet_10 rfl (dt1 ?_)
    show V X (rmD 8 0 0) M 0 0 [(0, .ref dk), (1, .int d), (2, .int z)] 13 [.int (bI (qin z 0 1))]
    refine v_ifb_ne (tgt := 19) C dX9_meet_13 (by decide) (fun h13 => ?_) (fun h13 => ?_)
    · obtain ⟨e, hLe, hje, rfl⟩ := qin_nJ (x := d) (L := 0) (N := 99) (by decide) (by decide) h4
      show V X (rmD 8 0 0) M 0 0 [(0, .ref dk), (1, .int (nI e)), (2, .int z)] 19 []
      refine v_aload_n C dX9_meet_19 rfl ?_
      refine v_get C kX9 hD1 4 (by decide) wF_X9_40 rfl dX9_meet_20 ?_
      refine v_aload_n C dX9_meet_23 rfl ?_
      refine v_get C kX9 hD1 0 (by decide) wF_X9_10 rfl dX9_meet_24 ?_
      refine v_iload_n C dX9_meet_27 rfl ?_
      refine v_callV (As := [.ref la, .int (nI e)]) (rest := []) (b := li) C (c_X4_draw (xl X) (xg X) M li xr cv mv xf hI hX la ta th mk dn nT m lo hi hL e (by omega)) pm_X4_draw wI_X4_draw wS_X4_draw wM_X9_174 kX4 hI ⟨by decide, by decide⟩ ⟨by decide, by decide⟩ (nle rfl) dX9_meet_28 rfl ?_
      rintro _ _ ⟨rfl, f', rfl⟩
      have hE := hD.lines f' (oI (metN nT m e).1) (nI (metN nT m e).2)
      obtain ⟨hD1, hL, hA, ⟨hF, hV⟩, hU, ⟨hI, hX⟩, hY, hdB, hcB, hrw, hinj, hxr, hct⟩ := id hE
      show V X (rmD 8 0 0) (mset (mset M xr (aI (xg X) 96 f')) li (.inr (4, [.ref xr, .int (oI (metN nT m e).1), .int (nI (metN nT m e).2)]))) 0 0 [(0, .ref dk), (1, .int (nI e)), (2, .int z)] 31 []
      refine v_iload_n C dX9_meet_31 rfl ?_
      refine v_if_ne (tgt := 45) C dX9_meet_32 (by decide) (fun h32 => ?_) (fun h32 => ?_)
      · refine v_aload_n C dX9_meet_45 rfl ?_
        refine v_get C kX9 hD1 4 (by decide) wF_X9_40 rfl dX9_meet_46 ?_
        refine v_callV (As := []) (rest := []) (b := li) C (c_X4_most (xl X) (xg X) (mset (mset M xr (aI (xg X) 96 f')) li (.inr (4, [.ref xr, .int (oI (metN nT m e).1), .int (nI (metN nT m e).2)]))) li xr (oI (metN nT m e).1) (nI (metN nT m e).2) f' hI hX) pm_X4_most wI_X4_most wS_X4_most wM_X9_181 kX4 hI ⟨by decide, by decide⟩ ⟨by decide, by decide⟩ (nle rfl) dX9_meet_49 rfl (dt1 ?_)
        show V X (rmD 8 0 0) (mset (mset M xr (aI (xg X) 96 f')) li (.inr (4, [.ref xr, .int (oI (metN nT m e).1), .int (nI (metN nT m e).2)]))) 0 0 [(0, .ref dk), (1, .int (nI e)), (2, .int z)] 52 [.int (nI (metN nT m e).2)]
        exact v_iret C E dX9_meet_52 (nle rfl) (nle rfl) ⟨by simp only [aMeet, h4, h13, Bool.and_self, if_true]; first | rw [if_neg h32, nI_clamp (n := e) (by omega)] | (rw [if_pos h32, nI_clamp (n := e) (by omega)]), hE.W⟩
      · refine v_aload_n C dX9_meet_35 rfl ?_
        refine v_get C kX9 hD1 4 (by decide) wF_X9_40 rfl dX9_meet_36 ?_
        refine v_callV (As := []) (rest := []) (b := li) C (c_X4_cell (xl X) (xg X) (mset (mset M xr (aI (xg X) 96 f')) li (.inr (4, [.ref xr, .int (oI (metN nT m e).1), .int (nI (metN nT m e).2)]))) li xr (oI (metN nT m e).1) (nI (metN nT m e).2) f' hI hX) pm_X4_cell wI_X4_cell wS_X4_cell wM_X9_178 kX4 hI ⟨by decide, by decide⟩ ⟨by decide, by decide⟩ (nle rfl) dX9_meet_39 rfl (dt1 ?_)
        show V X (rmD 8 0 0) (mset (mset M xr (aI (xg X) 96 f')) li (.inr (4, [.ref xr, .int (oI (metN nT m e).1), .int (nI (metN nT m e).2)]))) 0 0 [(0, .ref dk), (1, .int (nI e)), (2, .int z)] 42 [.int (oI (metN nT m e).1)]
        refine v_goto (tgt := 52) C dX9_meet_42 (by decide) ?_
        exact v_iret C E dX9_meet_52 (nle rfl) (nle rfl) ⟨by simp only [aMeet, h4, h13, Bool.and_self, if_true]; first | rw [if_neg h32, nI_clamp (n := e) (by omega)] | (rw [if_pos h32, nI_clamp (n := e) (by omega)]), hE.W⟩
    · refine v_bipush C dX9_meet_16 (v := (-2)) rfl ?_
      exact v_iret C E dX9_meet_18 (nle rfl) (nle rfl) ⟨by first | (simp [aMeet, h4, h13]; done) | simp [aMeet, h4], hD.W⟩

set_option maxHeartbeats 4000000 in
set_option maxRecDepth 100000 in
theorem c_X9_chance (l : Launch) (g : Gm) (M : Mem) (dk : Nat) (la ta : Nat) (th mk dn : Nat → Nat) (al pt : Nat) (pa ca ka ra : Nat → Nat) (fa va : Nat) (ua sa xa na : Nat) (tA : Nat → Nat) (li xr : Nat) (fy f0 f1 f2 f3 ja jb : Nat) (lo hi pl ph : Nat → Int64) (cn lk : Nat → Nat → Int32) (bc bs : Bool) (vf : Nat → Int32) (cv mv : Int32) (xf : Nat → Int32) (ga gb : Nat → Int64) (nT : Nat) (m : Nat → Nat → Nat) (dB : Nat → Nat → Bool) (nP : Nat) (pf : Nat → Nat → Nat) (cB : Nat → Nat → Bool) (nS : Nat) (sg : Nat → Int32) (ln : Nat → Nat) (tx : Nat → Nat → Int32) (fl : Nat → Nat → Nat) (hD : DeskA g M dk la ta th mk dn al pt pa ca ka ra fa va ua sa xa na tA li xr fy f0 f1 f2 f3 ja jb lo hi pl ph cn lk bc bs vf cv mv xf ga gb nT m dB nP pf cB nS sg ln tx fl) (d z : Int32) : Ct l g yX9_chance cX9_chance 5 (some .long) 8 0 0 [.ref dk, .int d, .int z] M (fun v N => v = some (.long (aChance nT m d z)) ∧ DeskW g N dk nT m dB nP pf cB nS sg ln tx fl) := by
  refine Ct.of (by decide) (Nat.le_of_ble_eq_true rfl) ?_
  intro X hXl hXg hN C E
  subst hXl; subst hXg
  show V X (rmD 8 0 0) M 0 0 [(0, .ref dk), (1, .int d), (2, .int z)] 0 []
  obtain ⟨hD1, hL, hA, ⟨hF, hV⟩, hU, ⟨hI, hX⟩, hY, hdB, hcB, hrw, hinj, hxr, hct⟩ := id hD
  have h12 := hL.1
  have h10 := hA.1
  refine v_iload_n C dX9_chance_0 rfl ?_
  refine v_callS (As := [.int d]) (rest := []) C (c_X9_isDay (xl X) (xg X) d M) pm_X9_isDay wT_X9_isDay wM_X9_59 ⟨by decide, by decide⟩ ⟨by decide, by decide⟩ (nle rfl) dX9_chance_1 rfl (dt1 ?_)
  show V X (rmD 8 0 0) M 0 0 [(0, .ref dk), (1, .int d), (2, .int z)] 4 [.int (bI (qin d 0 99))]
  refine v_ifb_eq (tgt := 14) C dX9_chance_4 (by decide) (fun h4 => ?_) (fun h4 => ?_)
  · refine v_ldc2 C dX9_chance_14 wJ_X9_187 ?_
    exact v_lret C E dX9_chance_17 (nle rfl) (nle rfl) ⟨by first | (simp [aChance, h4, h11]; done) | simp [aChance, h4], hD.W⟩
  · refine v_iload_n C dX9_chance_7 rfl ?_
    refine v_callS (As := [.int z]) (rest := []) C (c_X9_isPart (xl X) (xg X) z M) pm_X9_isPart wT_X9_isPart wM_X9_184 ⟨by decide, by decide⟩ ⟨by decide, by decide⟩ (nle rfl) dX9_chance_8 rfl (dt1 ?_)
    show V X (rmD 8 0 0) M 0 0 [(0, .ref dk), (1, .int d), (2, .int z)] 11 [.int (bI (qin z 0 1))]
    refine v_ifb_ne (tgt := 18) C dX9_chance_11 (by decide) (fun h11 => ?_) (fun h11 => ?_)
    · obtain ⟨e, hLe, hje, rfl⟩ := qin_nJ (x := d) (L := 0) (N := 99) (by decide) (by decide) h4
      obtain ⟨q, hLq, hjq, rfl⟩ := qin_nJ (x := z) (L := 0) (N := 1) (by decide) (by decide) h11
      show V X (rmD 8 0 0) M 0 0 [(0, .ref dk), (1, .int (nI e)), (2, .int (nI q))] 18 []
      refine v_aload_n C dX9_chance_18 rfl ?_
      refine v_get C kX9 hD1 4 (by decide) wF_X9_40 rfl dX9_chance_19 ?_
      refine v_aload_n C dX9_chance_22 rfl ?_
      refine v_get C kX9 hD1 0 (by decide) wF_X9_10 rfl dX9_chance_23 ?_
      refine v_iload_n C dX9_chance_26 rfl ?_
      refine v_callV (As := [.ref la, .int (nI e)]) (rest := []) (b := li) C (c_X4_draw (xl X) (xg X) M li xr cv mv xf hI hX la ta th mk dn nT m lo hi hL e (by omega)) pm_X4_draw wI_X4_draw wS_X4_draw wM_X9_174 kX4 hI ⟨by decide, by decide⟩ ⟨by decide, by decide⟩ (nle rfl) dX9_chance_27 rfl ?_
      rintro _ _ ⟨rfl, f', rfl⟩
      have hE := hD.lines f' (oI (metN nT m e).1) (nI (metN nT m e).2)
      obtain ⟨hD1, hL, hA, ⟨hF, hV⟩, hU, ⟨hI, hX⟩, hY, hdB, hcB, hrw, hinj, hxr, hct⟩ := id hE
      show V X (rmD 8 0 0) (mset (mset M xr (aI (xg X) 96 f')) li (.inr (4, [.ref xr, .int (oI (metN nT m e).1), .int (nI (metN nT m e).2)]))) 0 0 [(0, .ref dk), (1, .int (nI e)), (2, .int (nI q))] 30 []
      refine v_aload_n C dX9_chance_30 rfl ?_
      refine v_get C kX9 hD1 4 (by decide) wF_X9_40 rfl dX9_chance_31 ?_
      refine v_callV (As := []) (rest := []) (b := li) C (c_X4_cell (xl X) (xg X) (mset (mset M xr (aI (xg X) 96 f')) li (.inr (4, [.ref xr, .int (oI (metN nT m e).1), .int (nI (metN nT m e).2)]))) li xr (oI (metN nT m e).1) (nI (metN nT m e).2) f' hI hX) pm_X4_cell wI_X4_cell wS_X4_cell wM_X9_178 kX4 hI ⟨by decide, by decide⟩ ⟨by decide, by decide⟩ (nle rfl) dX9_chance_34 rfl (dt1 ?_)
      show V X (rmD 8 0 0) (mset (mset M xr (aI (xg X) 96 f')) li (.inr (4, [.ref xr, .int (oI (metN nT m e).1), .int (nI (metN nT m e).2)]))) 0 0 [(0, .ref dk), (1, .int (nI e)), (2, .int (nI q))] 37 [.int (oI (metN nT m e).1)]
      obtain ⟨o1, ho⟩ : ∃ o1, o1 = (metN nT m e).1 := ⟨_, rfl⟩
      rcases o1 with _ | c
      · have hmet := ho.symm
        have hoi : oI (metN nT m e).1 = -6 := by rw [hmet]; rfl
        rw [hoi]
        rw [hoi] at hE
        obtain ⟨hD1, hL, hA, ⟨hF, hV⟩, hU, ⟨hI, hX⟩, hY, hdB, hcB, hrw, hinj, hxr, hct⟩ := id hE
        show V X (rmD 8 0 0) (mset (mset M xr (aI (xg X) 96 f')) li (.inr (4, [.ref xr, .int ((-6)), .int (nI (metN nT m e).2)]))) 0 0 [(0, .ref dk), (1, .int (nI e)), (2, .int (nI q))] 37 [.int ((-6))]
        refine v_bipush C dX9_chance_37 (v := (-6)) rfl ?_
        refine v_icmp_ne (tgt := 46) C dX9_chance_39 (by decide) (fun hbad => absurd hbad (not_not_intro rfl)) (fun h39 => ?_)
        refine v_ldc2 C dX9_chance_42 wJ_X9_189 ?_
        exact v_lret C E dX9_chance_45 (nle rfl) (nle rfl) ⟨by simp only [aChance, h4, h11, Bool.and_self, if_true]; rw [nI_clamp (n := e) (by omega), hmet], hE.W⟩
      · have hmet := ho.symm
        have hc96 : c < 96 := mxc_lt hmet
        have hoi : oI (metN nT m e).1 = nI c := by rw [hmet]; rfl
        rw [hoi]
        rw [hoi] at hE
        obtain ⟨hD1, hL, hA, ⟨hF, hV⟩, hU, ⟨hI, hX⟩, hY, hdB, hcB, hrw, hinj, hxr, hct⟩ := id hE
        show V X (rmD 8 0 0) (mset (mset M xr (aI (xg X) 96 f')) li (.inr (4, [.ref xr, .int (nI c), .int (nI (metN nT m e).2)]))) 0 0 [(0, .ref dk), (1, .int (nI e)), (2, .int (nI q))] 37 [.int (nI c)]
        refine v_bipush C dX9_chance_37 (v := (-6)) rfl ?_
        refine v_icmp_ne (tgt := 46) C dX9_chance_39 (by decide) (fun h39 => ?_) (fun hbad => absurd hbad (fun q => m6_ne (n := c) (by omega) q.symm))
        refine v_aload_n C dX9_chance_46 rfl ?_
        refine v_get C kX9 hD1 4 (by decide) wF_X9_40 rfl dX9_chance_47 ?_
        refine v_aload_n C dX9_chance_50 rfl ?_
        refine v_get C kX9 hD1 0 (by decide) wF_X9_10 rfl dX9_chance_51 ?_
        refine v_iload_n C dX9_chance_54 rfl ?_
        refine v_callV (As := [.ref la, .int (nI e)]) (rest := []) (b := li) C (c_X4_allMayCross (xl X) (xg X) (mset (mset M xr (aI (xg X) 96 f')) li (.inr (4, [.ref xr, .int (nI c), .int (nI (metN nT m e).2)]))) li xr (nI (metN nT m e).2) c f' la ta th mk dn nT m lo hi e (by omega) hc96 hI hX hL) pm_X4_allMayCross wI_X4_allMayCross wS_X4_allMayCross wM_X9_191 kX4 hI ⟨by decide, by decide⟩ ⟨by decide, by decide⟩ (nle rfl) dX9_chance_55 rfl (dt1 ?_)
        show V X (rmD 8 0 0) (mset (mset M xr (aI (xg X) 96 f')) li (.inr (4, [.ref xr, .int (nI c), .int (nI (metN nT m e).2)]))) 0 0 [(0, .ref dk), (1, .int (nI e)), (2, .int (nI q))] 58 [.int (bI (!anyB (fun t => faceN (m t) e && !mayN (m t) c) nT))]
        refine v_ifb_eq (tgt := 65) C dX9_chance_58 (by decide) (fun h58 => ?_) (fun h58 => ?_)
        · refine v_lconst C dX9_chance_65 (v := 0) rfl ?_
          obtain ⟨upp, hupp⟩ : ∃ u : Nat, u = 0 := ⟨_, rfl⟩
          have hup : upp = if anyB (fun t => faceN (m t) e && !mayN (m t) c) nT then 0 else 1 := by rw [hupp, show anyB (fun t => faceN (m t) e && !mayN (m t) c) nT = true from by revert h58; cases anyB (fun t => faceN (m t) e && !mayN (m t) c) nT <;> simp]; rfl
          rw [show (0 : Int64) = lN upp by rw [hupp]; rfl]
          show V X (rmD 8 0 0) (mset (mset M xr (aI (xg X) 96 f')) li (.inr (4, [.ref xr, .int (nI c), .int (nI (metN nT m e).2)]))) 0 0 [(0, .ref dk), (1, .int (nI e)), (2, .int (nI q))] 66 [.long (lN upp)]
          refine v_lstore_n (lv' := [(3, .long (lN upp)), (0, .ref dk), (1, .int (nI e)), (2, .int (nI q))]) C dX9_chance_66 hN (by decide) rfl ?_
          refine v_lload_n C dX9_chance_67 rfl ?_
          refine v_aload_n C dX9_chance_68 rfl ?_
          refine v_get C kX9 hD1 4 (by decide) wF_X9_40 rfl dX9_chance_69 ?_
          refine v_aload_n C dX9_chance_72 rfl ?_
          refine v_get C kX9 hD1 0 (by decide) wF_X9_10 rfl dX9_chance_73 ?_
          refine v_iload_n C dX9_chance_76 rfl ?_
          refine v_callV (As := [.ref la, .int (nI e)]) (rest := [.long (lN upp)]) (b := li) C (c_X4_lots (xl X) (xg X) (mset (mset M xr (aI (xg X) 96 f')) li (.inr (4, [.ref xr, .int (nI c), .int (nI (metN nT m e).2)]))) li xr (nI c) (nI (metN nT m e).2) f' la ta th mk dn nT m lo hi e (by omega) hI hX hL) pm_X4_lots wI_X4_lots wS_X4_lots wM_X9_195 kX4 hI ⟨by decide, by decide⟩ ⟨by decide, by decide⟩ (nle rfl) dX9_chance_77 rfl (dt1 ?_)
          show V X (rmD 8 0 0) (mset (mset M xr (aI (xg X) 96 f')) li (.inr (4, [.ref xr, .int (nI c), .int (nI (metN nT m e).2)]))) 0 0 [(3, .long (lN upp)), (0, .ref dk), (1, .int (nI e)), (2, .int (nI q))] 80 [.long (pwL 8 (cntB (fun t => faceN (m t) e) nT)), .long (lN upp)]
          rw [show pwL 8 (cntB (fun t => faceN (m t) e) nT) = lN (8 ^ cntB (fun t => faceN (m t) e) nT) from pwL_N 8 _]
          show V X (rmD 8 0 0) (mset (mset M xr (aI (xg X) 96 f')) li (.inr (4, [.ref xr, .int (nI c), .int (nI (metN nT m e).2)]))) 0 0 [(3, .long (lN upp)), (0, .ref dk), (1, .int (nI e)), (2, .int (nI q))] 80 [.long (lN (8 ^ cntB (fun t => faceN (m t) e) nT)), .long (lN upp)]
          refine v_iload_n C dX9_chance_80 rfl ?_
          refine v_callS (As := [.long (lN upp), .long (lN (8 ^ cntB (fun t => faceN (m t) e) nT)), .int (nI q)]) (rest := []) C (c_X9_partOf (xl X) (xg X) upp (8 ^ cntB (fun t => faceN (m t) e) nT) q (by rw [hupp]; decide) (Nat.lt_of_le_of_lt (Nat.pow_le_pow_right (by decide) (Nat.le_trans (cntB_le _ _) hL.1)) (by decide)) (Nat.pow_pos (by decide)) (by omega) (mset (mset M xr (aI (xg X) 96 f')) li (.inr (4, [.ref xr, .int (nI c), .int (nI (metN nT m e).2)])))) pm_X9_partOf wT_X9_partOf wM_X9_199 ⟨by decide, by decide⟩ ⟨by decide, by decide⟩ (nle rfl) dX9_chance_81 rfl (dt1 ?_)
          show V X (rmD 8 0 0) (mset (mset M xr (aI (xg X) 96 f')) li (.inr (4, [.ref xr, .int (nI c), .int (nI (metN nT m e).2)]))) 0 0 [(3, .long (lN upp)), (0, .ref dk), (1, .int (nI e)), (2, .int (nI q))] 84 [.long (lN (frN upp (8 ^ cntB (fun t => faceN (m t) e) nT) q))]
          exact v_lret C E dX9_chance_84 (nle rfl) (nle rfl) ⟨by simp only [aChance, h4, h11, Bool.and_self, if_true]; rw [nI_clamp (n := e) (by omega), hmet, nI_clamp (n := q) (by omega)]; simp only; rw [show (if anyB (fun t => faceN (m t) e && !mayN (m t) c) nT = true then 0 else 1 : Nat) = upp from hup.symm], hE.W⟩
        · refine v_lconst C dX9_chance_61 (v := 1) rfl ?_
          refine v_goto (tgt := 66) C dX9_chance_62 (by decide) ?_
          obtain ⟨upp, hupp⟩ : ∃ u : Nat, u = 1 := ⟨_, rfl⟩
          have hup : upp = if anyB (fun t => faceN (m t) e && !mayN (m t) c) nT then 0 else 1 := by rw [hupp, show anyB (fun t => faceN (m t) e && !mayN (m t) c) nT = false from by revert h58; cases anyB (fun t => faceN (m t) e && !mayN (m t) c) nT <;> simp]; rfl
          rw [show (1 : Int64) = lN upp by rw [hupp]; rfl]
          show V X (rmD 8 0 0) (mset (mset M xr (aI (xg X) 96 f')) li (.inr (4, [.ref xr, .int (nI c), .int (nI (metN nT m e).2)]))) 0 0 [(0, .ref dk), (1, .int (nI e)), (2, .int (nI q))] 66 [.long (lN upp)]
          refine v_lstore_n (lv' := [(3, .long (lN upp)), (0, .ref dk), (1, .int (nI e)), (2, .int (nI q))]) C dX9_chance_66 hN (by decide) rfl ?_
          refine v_lload_n C dX9_chance_67 rfl ?_
          refine v_aload_n C dX9_chance_68 rfl ?_
          refine v_get C kX9 hD1 4 (by decide) wF_X9_40 rfl dX9_chance_69 ?_
          refine v_aload_n C dX9_chance_72 rfl ?_
          refine v_get C kX9 hD1 0 (by decide) wF_X9_10 rfl dX9_chance_73 ?_
          refine v_iload_n C dX9_chance_76 rfl ?_
          refine v_callV (As := [.ref la, .int (nI e)]) (rest := [.long (lN upp)]) (b := li) C (c_X4_lots (xl X) (xg X) (mset (mset M xr (aI (xg X) 96 f')) li (.inr (4, [.ref xr, .int (nI c), .int (nI (metN nT m e).2)]))) li xr (nI c) (nI (metN nT m e).2) f' la ta th mk dn nT m lo hi e (by omega) hI hX hL) pm_X4_lots wI_X4_lots wS_X4_lots wM_X9_195 kX4 hI ⟨by decide, by decide⟩ ⟨by decide, by decide⟩ (nle rfl) dX9_chance_77 rfl (dt1 ?_)
          show V X (rmD 8 0 0) (mset (mset M xr (aI (xg X) 96 f')) li (.inr (4, [.ref xr, .int (nI c), .int (nI (metN nT m e).2)]))) 0 0 [(3, .long (lN upp)), (0, .ref dk), (1, .int (nI e)), (2, .int (nI q))] 80 [.long (pwL 8 (cntB (fun t => faceN (m t) e) nT)), .long (lN upp)]
          rw [show pwL 8 (cntB (fun t => faceN (m t) e) nT) = lN (8 ^ cntB (fun t => faceN (m t) e) nT) from pwL_N 8 _]
          show V X (rmD 8 0 0) (mset (mset M xr (aI (xg X) 96 f')) li (.inr (4, [.ref xr, .int (nI c), .int (nI (metN nT m e).2)]))) 0 0 [(3, .long (lN upp)), (0, .ref dk), (1, .int (nI e)), (2, .int (nI q))] 80 [.long (lN (8 ^ cntB (fun t => faceN (m t) e) nT)), .long (lN upp)]
          refine v_iload_n C dX9_chance_80 rfl ?_
          refine v_callS (As := [.long (lN upp), .long (lN (8 ^ cntB (fun t => faceN (m t) e) nT)), .int (nI q)]) (rest := []) C (c_X9_partOf (xl X) (xg X) upp (8 ^ cntB (fun t => faceN (m t) e) nT) q (by rw [hupp]; decide) (Nat.lt_of_le_of_lt (Nat.pow_le_pow_right (by decide) (Nat.le_trans (cntB_le _ _) hL.1)) (by decide)) (Nat.pow_pos (by decide)) (by omega) (mset (mset M xr (aI (xg X) 96 f')) li (.inr (4, [.ref xr, .int (nI c), .int (nI (metN nT m e).2)])))) pm_X9_partOf wT_X9_partOf wM_X9_199 ⟨by decide, by decide⟩ ⟨by decide, by decide⟩ (nle rfl) dX9_chance_81 rfl (dt1 ?_)
          show V X (rmD 8 0 0) (mset (mset M xr (aI (xg X) 96 f')) li (.inr (4, [.ref xr, .int (nI c), .int (nI (metN nT m e).2)]))) 0 0 [(3, .long (lN upp)), (0, .ref dk), (1, .int (nI e)), (2, .int (nI q))] 84 [.long (lN (frN upp (8 ^ cntB (fun t => faceN (m t) e) nT) q))]
          exact v_lret C E dX9_chance_84 (nle rfl) (nle rfl) ⟨by simp only [aChance, h4, h11, Bool.and_self, if_true]; rw [nI_clamp (n := e) (by omega), hmet, nI_clamp (n := q) (by omega)]; simp only; rw [show (if anyB (fun t => faceN (m t) e && !mayN (m t) c) nT = true then 0 else 1 : Nat) = upp from hup.symm], hE.W⟩
    · refine v_ldc2 C dX9_chance_14 wJ_X9_187 ?_
      exact v_lret C E dX9_chance_17 (nle rfl) (nle rfl) ⟨by first | (simp [aChance, h4, h11]; done) | simp [aChance, h4], hD.W⟩

set_option maxHeartbeats 4000000 in
set_option maxRecDepth 100000 in
theorem c_X9_decoy (l : Launch) (g : Gm) (M : Mem) (dk : Nat) (la ta : Nat) (th mk dn : Nat → Nat) (al pt : Nat) (pa ca ka ra : Nat → Nat) (fa va : Nat) (ua sa xa na : Nat) (tA : Nat → Nat) (li xr : Nat) (fy f0 f1 f2 f3 ja jb : Nat) (lo hi pl ph : Nat → Int64) (cn lk : Nat → Nat → Int32) (bc bs : Bool) (vf : Nat → Int32) (cv mv : Int32) (xf : Nat → Int32) (ga gb : Nat → Int64) (nT : Nat) (m : Nat → Nat → Nat) (dB : Nat → Nat → Bool) (nP : Nat) (pf : Nat → Nat → Nat) (cB : Nat → Nat → Bool) (nS : Nat) (sg : Nat → Int32) (ln : Nat → Nat) (tx : Nat → Nat → Int32) (fl : Nat → Nat → Nat) (hD : DeskA g M dk la ta th mk dn al pt pa ca ka ra fa va ua sa xa na tA li xr fy f0 f1 f2 f3 ja jb lo hi pl ph cn lk bc bs vf cv mv xf ga gb nT m dB nP pf cB nS sg ln tx fl) (t fr to qq zz : Int32) : Ct l g yX9_decoy cX9_decoy 8 (some .long) 8 0 0 [.ref dk, .int t, .int fr, .int to, .int qq, .int zz] M (fun v N => v = some (.long (aDecoy nT dB t fr to qq zz)) ∧ N = M) := by
  refine Ct.of (by decide) (Nat.le_of_ble_eq_true rfl) ?_
  intro X hXl hXg hN C E
  subst hXl; subst hXg
  show V X (rmD 8 0 0) M 0 0 [(0, .ref dk), (1, .int t), (2, .int fr), (3, .int to), (4, .int qq), (5, .int zz)] 0 []
  obtain ⟨hD1, hL, hA, ⟨hF, hV⟩, hU, ⟨hI, hX⟩, hY, hdB, hcB, hrw, hinj, hxr, hct⟩ := id hD
  have h12 := hL.1
  have h10 := hA.1
  rcases idx_cases nT (by omega) t with ⟨i, lt, rfl, hx⟩ | ⟨hn, hx⟩
  · have hzi := trivial
    show V X (rmD 8 0 0) M 0 0 [(0, .ref dk), (1, .int (nI i)), (2, .int fr), (3, .int to), (4, .int qq), (5, .int zz)] 0 []
    refine v_aload_n C dX9_decoy_0 rfl ?_
    refine v_get C kX9 hD1 0 (by decide) wF_X9_10 rfl dX9_decoy_1 ?_
    refine v_iload_n C dX9_decoy_4 rfl ?_
    refine v_callV (As := [.int (nI i)]) (rest := []) (b := la) C (c_X3_find (xl X) (xg X) M la ta th mk dn nT m lo hi i lt hL) pm_X3_find wI_X3_find wS_X3_find wM_X9_75 kX3 hL.2.1 ⟨by decide, by decide⟩ ⟨by decide, by decide⟩ (nle rfl) dX9_decoy_5 rfl (dt1 ?_)
    show V X (rmD 8 0 0) M 0 0 [(0, .ref dk), (1, .int (nI i)), (2, .int fr), (3, .int to), (4, .int qq), (5, .int zz)] 8 [.ref (th i)]
    refine v_astore (lv' := [(6, .ref (th i)), (0, .ref dk), (1, .int (nI i)), (2, .int fr), (3, .int to), (4, .int qq), (5, .int zz)]) C dX9_decoy_8 hN (by decide) rfl ?_
    refine v_aload C dX9_decoy_10 rfl ?_
    refine v_ifnonnull (tgt := 19) C dX9_decoy_12 (by decide) ?_
    refine v_iload_n C dX9_decoy_19 rfl ?_
    refine v_callS (As := [.int fr]) (rest := []) C (c_X9_isDay (xl X) (xg X) fr M) pm_X9_isDay wT_X9_isDay wM_X9_59 ⟨by decide, by decide⟩ ⟨by decide, by decide⟩ (nle rfl) dX9_decoy_20 rfl (dt1 ?_)
    show V X (rmD 8 0 0) M 0 0 [(6, .ref (th i)), (0, .ref dk), (1, .int (nI i)), (2, .int fr), (3, .int to), (4, .int qq), (5, .int zz)] 23 [.int (bI (qin fr 0 99))]
    refine v_ifb_eq (tgt := 38) C dX9_decoy_23 (by decide) (fun h23 => ?_) (fun h23 => ?_)
    · refine v_ldc2 C dX9_decoy_38 wJ_X9_187 ?_
      exact v_lret C E dX9_decoy_41 (nle rfl) (nle rfl) ⟨by first | (simp [aDecoy, hx, h23, h30, h35, h50, h58, nI_clamp (n := a) (by omega), nI_clamp (n := b) (by omega)]; intro hq; exact absurd hq (by omega)) | (simp [aDecoy, hx, h23, h30, h35, h50, h58]; done) | (simp [aDecoy, hx, h23, h30, h35, h50]; done) | (simp [aDecoy, hx, h23, h30, show ¬ fr ≤ to from h35]; done) | (simp [aDecoy, hx, h23, h30]; done) | simp [aDecoy, hx, h23], rfl⟩
    · refine v_iload_n C dX9_decoy_26 rfl ?_
      refine v_callS (As := [.int to]) (rest := []) C (c_X9_isDay (xl X) (xg X) to M) pm_X9_isDay wT_X9_isDay wM_X9_59 ⟨by decide, by decide⟩ ⟨by decide, by decide⟩ (nle rfl) dX9_decoy_27 rfl (dt1 ?_)
      show V X (rmD 8 0 0) M 0 0 [(6, .ref (th i)), (0, .ref dk), (1, .int (nI i)), (2, .int fr), (3, .int to), (4, .int qq), (5, .int zz)] 30 [.int (bI (qin to 0 99))]
      refine v_ifb_eq (tgt := 38) C dX9_decoy_30 (by decide) (fun h30 => ?_) (fun h30 => ?_)
      · refine v_ldc2 C dX9_decoy_38 wJ_X9_187 ?_
        exact v_lret C E dX9_decoy_41 (nle rfl) (nle rfl) ⟨by first | (simp [aDecoy, hx, h23, h30, h35, h50, h58, nI_clamp (n := a) (by omega), nI_clamp (n := b) (by omega)]; intro hq; exact absurd hq (by omega)) | (simp [aDecoy, hx, h23, h30, h35, h50, h58]; done) | (simp [aDecoy, hx, h23, h30, h35, h50]; done) | (simp [aDecoy, hx, h23, h30, show ¬ fr ≤ to from h35]; done) | (simp [aDecoy, hx, h23, h30]; done) | simp [aDecoy, hx, h23], rfl⟩
      · refine v_iload_n C dX9_decoy_33 rfl ?_
        refine v_iload_n C dX9_decoy_34 rfl ?_
        refine v_icmp_le (tgt := 42) C dX9_decoy_35 (by decide) (fun h35 => ?_) (fun h35 => ?_)
        · refine v_iload C dX9_decoy_42 rfl ?_
          refine v_iconst C dX9_decoy_44 (v := 1) rfl ?_
          refine v_bipush C dX9_decoy_45 (v := 19) rfl ?_
          refine v_callS (As := [.int qq, .int 1, .int 19]) (rest := []) C (c_X9_isWithin (xl X) (xg X) qq 1 19 M) pm_X9_isWithin wT_X9_isWithin wM_X9_55 ⟨by decide, by decide⟩ ⟨by decide, by decide⟩ (nle rfl) dX9_decoy_47 rfl (dt1 ?_)
          show V X (rmD 8 0 0) M 0 0 [(6, .ref (th i)), (0, .ref dk), (1, .int (nI i)), (2, .int fr), (3, .int to), (4, .int qq), (5, .int zz)] 50 [.int (bI (qin qq 1 19))]
          refine v_ifb_eq (tgt := 61) C dX9_decoy_50 (by decide) (fun h50 => ?_) (fun h50 => ?_)
          · refine v_ldc2 C dX9_decoy_61 wJ_X9_187 ?_
            exact v_lret C E dX9_decoy_64 (nle rfl) (nle rfl) ⟨by first | (simp [aDecoy, hx, h23, h30, h35, h50, h58, nI_clamp (n := a) (by omega), nI_clamp (n := b) (by omega)]; intro hq; exact absurd hq (by omega)) | (simp [aDecoy, hx, h23, h30, h35, h50, h58]; done) | (simp [aDecoy, hx, h23, h30, h35, h50]; done) | (simp [aDecoy, hx, h23, h30, show ¬ fr ≤ to from h35]; done) | (simp [aDecoy, hx, h23, h30]; done) | simp [aDecoy, hx, h23], rfl⟩
          · refine v_iload C dX9_decoy_53 rfl ?_
            refine v_callS (As := [.int zz]) (rest := []) C (c_X9_isPart (xl X) (xg X) zz M) pm_X9_isPart wT_X9_isPart wM_X9_184 ⟨by decide, by decide⟩ ⟨by decide, by decide⟩ (nle rfl) dX9_decoy_55 rfl (dt1 ?_)
            show V X (rmD 8 0 0) M 0 0 [(6, .ref (th i)), (0, .ref dk), (1, .int (nI i)), (2, .int fr), (3, .int to), (4, .int qq), (5, .int zz)] 58 [.int (bI (qin zz 0 1))]
            refine v_ifb_ne (tgt := 65) C dX9_decoy_58 (by decide) (fun h58 => ?_) (fun h58 => ?_)
            · obtain ⟨a, hLa, hja, rfl⟩ := qin_nJ (x := fr) (L := 0) (N := 99) (by decide) (by decide) h23
              obtain ⟨b, hLb, hjb, rfl⟩ := qin_nJ (x := to) (L := 0) (N := 99) (by decide) (by decide) h30
              obtain ⟨q, hLq, hjq, rfl⟩ := qin_nJ (x := qq) (L := 1) (N := 19) (by decide) (by decide) h50
              obtain ⟨z, hLz, hjz, rfl⟩ := qin_nJ (x := zz) (L := 0) (N := 1) (by decide) (by decide) h58
              have g35 := nI_leN (by omega) (by omega) h35
              show V X (rmD 8 0 0) M 0 0 [(6, .ref (th i)), (0, .ref dk), (1, .int (nI i)), (2, .int (nI a)), (3, .int (nI b)), (4, .int (nI q)), (5, .int (nI z))] 65 []
              refine v_aload C dX9_decoy_65 rfl ?_
              refine v_iload_n C dX9_decoy_67 rfl ?_
              refine v_iload_n C dX9_decoy_68 rfl ?_
              refine v_callV (As := [.int (nI a), .int (nI b)]) (rest := []) (b := th i) C (c_X6_daysWithout (xl X) (xg X) M (th i) (mk i) (dn i) (nI i) (lo i) (hi i) a b (by omega) (by omega) (hL.2.2.2 i lt).1 (hL.2.2.2 i lt).2.2.1) pm_X6_daysWithout wI_X6_daysWithout wS_X6_daysWithout wM_X9_208 kX6 ((hL.2.2.2 i lt).1) ⟨by decide, by decide⟩ ⟨by decide, by decide⟩ (nle rfl) dX9_decoy_69 rfl (dt1 ?_)
              show V X (rmD 8 0 0) M 0 0 [(6, .ref (th i)), (0, .ref dk), (1, .int (nI i)), (2, .int (nI a)), (3, .int (nI b)), (4, .int (nI q)), (5, .int (nI z))] 72 [.int (nI (cntNo (tk (lo i) (hi i)) a (b + 1 - a)))]
              have hcn := cntNo_le (dB i) a (b + 1 - a)
              rw [show cntNo (tk (lo i) (hi i)) a (b + 1 - a) = cntNo (dB i) a (b + 1 - a) from cntNo_cong (fun d hd => hdB i lt _ (by omega))]
              show V X (rmD 8 0 0) M 0 0 [(6, .ref (th i)), (0, .ref dk), (1, .int (nI i)), (2, .int (nI a)), (3, .int (nI b)), (4, .int (nI q)), (5, .int (nI z))] 72 [.int (nI (cntNo (dB i) a (b + 1 - a)))]
              refine v_istore (lv' := [(7, .int (nI (cntNo (dB i) a (b + 1 - a)))), (6, .ref (th i)), (0, .ref dk), (1, .int (nI i)), (2, .int (nI a)), (3, .int (nI b)), (4, .int (nI q)), (5, .int (nI z))]) C dX9_decoy_72 hN (by decide) rfl ?_
              refine v_iload C dX9_decoy_74 rfl ?_
              refine v_bipush C dX9_decoy_76 (v := 12) rfl ?_
              refine v_icmp_le (tgt := 85) C dX9_decoy_78 (by decide) (fun h78 => ?_) (fun h78 => ?_)
              · have g78 := nI_leN (b := 12) (by omega) (by decide) h78
                refine v_bipush C dX9_decoy_85 (v := 20) rfl ?_
                refine v_iload C dX9_decoy_87 rfl ?_
                refine v_isub C dX9_decoy_89 ?_
                refine v_i2l C dX9_decoy_90 ?_
                rw [show (20 : Int32) - nI q = nI (20 - q) from pk_sub (a := 20) (b := q) (by omega), nI_l (by omega)]
                show V X (rmD 8 0 0) M 0 0 [(7, .int (nI (cntNo (dB i) a (b + 1 - a)))), (6, .ref (th i)), (0, .ref dk), (1, .int (nI i)), (2, .int (nI a)), (3, .int (nI b)), (4, .int (nI q)), (5, .int (nI z))] 91 [.long (lN (20 - q))]
                refine v_iload C dX9_decoy_91 rfl ?_
                refine v_callS (As := [.long (lN (20 - q)), .int (nI (cntNo (dB i) a (b + 1 - a)))]) (rest := []) C (c_X9_power (xl X) (xg X) (lN (20 - q)) (cntNo (dB i) a (b + 1 - a)) (by omega) M) pm_X9_power wT_X9_power wM_X9_211 ⟨by decide, by decide⟩ ⟨by decide, by decide⟩ (nle rfl) dX9_decoy_93 rfl (dt1 ?_)
                show V X (rmD 8 0 0) M 0 0 [(7, .int (nI (cntNo (dB i) a (b + 1 - a)))), (6, .ref (th i)), (0, .ref dk), (1, .int (nI i)), (2, .int (nI a)), (3, .int (nI b)), (4, .int (nI q)), (5, .int (nI z))] 96 [.long (pwL (lN (20 - q)) (cntNo (dB i) a (b + 1 - a)))]
                rw [pwL_N]
                show V X (rmD 8 0 0) M 0 0 [(7, .int (nI (cntNo (dB i) a (b + 1 - a)))), (6, .ref (th i)), (0, .ref dk), (1, .int (nI i)), (2, .int (nI a)), (3, .int (nI b)), (4, .int (nI q)), (5, .int (nI z))] 96 [.long (lN ((20 - q) ^ cntNo (dB i) a (b + 1 - a)))]
                refine v_ldc2 C dX9_decoy_96 wJ_X9_215 ?_
                refine v_iload C dX9_decoy_99 rfl ?_
                refine v_callS (As := [.long 20, .int (nI (cntNo (dB i) a (b + 1 - a)))]) (rest := [.long (lN ((20 - q) ^ cntNo (dB i) a (b + 1 - a)))]) C (c_X9_power (xl X) (xg X) 20 (cntNo (dB i) a (b + 1 - a)) (by omega) M) pm_X9_power wT_X9_power wM_X9_211 ⟨by decide, by decide⟩ ⟨by decide, by decide⟩ (nle rfl) dX9_decoy_101 rfl (dt1 ?_)
                show V X (rmD 8 0 0) M 0 0 [(7, .int (nI (cntNo (dB i) a (b + 1 - a)))), (6, .ref (th i)), (0, .ref dk), (1, .int (nI i)), (2, .int (nI a)), (3, .int (nI b)), (4, .int (nI q)), (5, .int (nI z))] 104 [.long (pwL 20 (cntNo (dB i) a (b + 1 - a))), .long (lN ((20 - q) ^ cntNo (dB i) a (b + 1 - a)))]
                rw [show pwL 20 (cntNo (dB i) a (b + 1 - a)) = lN (20 ^ cntNo (dB i) a (b + 1 - a)) from pwL_N 20 _]
                show V X (rmD 8 0 0) M 0 0 [(7, .int (nI (cntNo (dB i) a (b + 1 - a)))), (6, .ref (th i)), (0, .ref dk), (1, .int (nI i)), (2, .int (nI a)), (3, .int (nI b)), (4, .int (nI q)), (5, .int (nI z))] 104 [.long (lN (20 ^ cntNo (dB i) a (b + 1 - a))), .long (lN ((20 - q) ^ cntNo (dB i) a (b + 1 - a)))]
                refine v_iload C dX9_decoy_104 rfl ?_
                refine v_callS (As := [.long (lN ((20 - q) ^ cntNo (dB i) a (b + 1 - a))), .long (lN (20 ^ cntNo (dB i) a (b + 1 - a))), .int (nI z)]) (rest := []) C (c_X9_partOf (xl X) (xg X) ((20 - q) ^ cntNo (dB i) a (b + 1 - a)) (20 ^ cntNo (dB i) a (b + 1 - a)) z (Nat.lt_of_le_of_lt (pow_lt63 (by omega) g78) (by decide)) (Nat.lt_of_le_of_lt (pow_lt63 (by omega) g78) (by decide)) (Nat.pow_pos (by decide)) (by omega) M) pm_X9_partOf wT_X9_partOf wM_X9_199 ⟨by decide, by decide⟩ ⟨by decide, by decide⟩ (nle rfl) dX9_decoy_106 rfl (dt1 ?_)
                show V X (rmD 8 0 0) M 0 0 [(7, .int (nI (cntNo (dB i) a (b + 1 - a)))), (6, .ref (th i)), (0, .ref dk), (1, .int (nI i)), (2, .int (nI a)), (3, .int (nI b)), (4, .int (nI q)), (5, .int (nI z))] 109 [.long (lN (frN ((20 - q) ^ cntNo (dB i) a (b + 1 - a)) (20 ^ cntNo (dB i) a (b + 1 - a)) z))]
                exact v_lret C E dX9_decoy_109 (nle rfl) (nle rfl) ⟨by simp only [aDecoy, hx, h23, h30, h50, h58, decide_eq_true h35, Bool.and_self, Bool.true_and, nI_clamp (n := a) (show a < 2 ^ 31 by omega), nI_clamp (n := b) (show b < 2 ^ 31 by omega), nI_clamp (n := q) (show q < 2 ^ 31 by omega), nI_clamp (n := z) (show z < 2 ^ 31 by omega)]; rw [if_pos (decide_eq_true g78)], rfl⟩
              · refine v_ldc2 C dX9_decoy_81 wJ_X9_187 ?_
                exact v_lret C E dX9_decoy_84 (nle rfl) (nle rfl) ⟨by simp only [aDecoy, hx, nI_clamp (n := a) (show a < 2 ^ 31 by omega), nI_clamp (n := b) (show b < 2 ^ 31 by omega)]; rw [if_neg (fun y => h78 (nI_le (of_decide_eq_true ((Bool.and_eq_true _ _).mp y).2) (by decide)))], rfl⟩
            · refine v_ldc2 C dX9_decoy_61 wJ_X9_187 ?_
              exact v_lret C E dX9_decoy_64 (nle rfl) (nle rfl) ⟨by first | (simp [aDecoy, hx, h23, h30, h35, h50, h58, nI_clamp (n := a) (by omega), nI_clamp (n := b) (by omega)]; intro hq; exact absurd hq (by omega)) | (simp [aDecoy, hx, h23, h30, h35, h50, h58]; done) | (simp [aDecoy, hx, h23, h30, h35, h50]; done) | (simp [aDecoy, hx, h23, h30, show ¬ fr ≤ to from h35]; done) | (simp [aDecoy, hx, h23, h30]; done) | simp [aDecoy, hx, h23], rfl⟩
        · refine v_ldc2 C dX9_decoy_38 wJ_X9_187 ?_
          exact v_lret C E dX9_decoy_41 (nle rfl) (nle rfl) ⟨by first | (simp [aDecoy, hx, h23, h30, h35, h50, h58, nI_clamp (n := a) (by omega), nI_clamp (n := b) (by omega)]; intro hq; exact absurd hq (by omega)) | (simp [aDecoy, hx, h23, h30, h35, h50, h58]; done) | (simp [aDecoy, hx, h23, h30, h35, h50]; done) | (simp [aDecoy, hx, h23, h30, show ¬ fr ≤ to from h35]; done) | (simp [aDecoy, hx, h23, h30]; done) | simp [aDecoy, hx, h23], rfl⟩
  · have hzi := trivial
    show V X (rmD 8 0 0) M 0 0 [(0, .ref dk), (1, .int t), (2, .int fr), (3, .int to), (4, .int qq), (5, .int zz)] 0 []
    refine v_aload_n C dX9_decoy_0 rfl ?_
    refine v_get C kX9 hD1 0 (by decide) wF_X9_10 rfl dX9_decoy_1 ?_
    refine v_iload_n C dX9_decoy_4 rfl ?_
    refine v_callV (As := [.int t]) (rest := []) (b := la) C (c_X3_findN (xl X) (xg X) M la ta th mk dn nT m lo hi t hn hL) pm_X3_find wI_X3_find wS_X3_find wM_X9_75 kX3 hL.2.1 ⟨by decide, by decide⟩ ⟨by decide, by decide⟩ (nle rfl) dX9_decoy_5 rfl (dt1 ?_)
    show V X (rmD 8 0 0) M 0 0 [(0, .ref dk), (1, .int t), (2, .int fr), (3, .int to), (4, .int qq), (5, .int zz)] 8 [.null]
    refine v_astoreN (lv' := [(6, .null), (0, .ref dk), (1, .int t), (2, .int fr), (3, .int to), (4, .int qq), (5, .int zz)]) C dX9_decoy_8 hN (by decide) rfl ?_
    refine v_aloadN C dX9_decoy_10 rfl ?_
    refine v_ifnonnullN C dX9_decoy_12 ?_
    refine v_ldc2 C dX9_decoy_15 wJ_X9_206 ?_
    exact v_lret C E dX9_decoy_18 (nle rfl) (nle rfl) ⟨by simp [aDecoy, hx], rfl⟩

set_option maxHeartbeats 4000000 in
set_option maxRecDepth 100000 in
theorem c_X9_sure (l : Launch) (g : Gm) (M : Mem) (dk : Nat) (la ta : Nat) (th mk dn : Nat → Nat) (al pt : Nat) (pa ca ka ra : Nat → Nat) (fa va : Nat) (ua sa xa na : Nat) (tA : Nat → Nat) (li xr : Nat) (fy f0 f1 f2 f3 ja jb : Nat) (lo hi pl ph : Nat → Int64) (cn lk : Nat → Nat → Int32) (bc bs : Bool) (vf : Nat → Int32) (cv mv : Int32) (xf : Nat → Int32) (ga gb : Nat → Int64) (nT : Nat) (m : Nat → Nat → Nat) (dB : Nat → Nat → Bool) (nP : Nat) (pf : Nat → Nat → Nat) (cB : Nat → Nat → Bool) (nS : Nat) (sg : Nat → Int32) (ln : Nat → Nat) (tx : Nat → Nat → Int32) (fl : Nat → Nat → Nat) (hD : DeskA g M dk la ta th mk dn al pt pa ca ka ra fa va ua sa xa na tA li xr fy f0 f1 f2 f3 ja jb lo hi pl ph cn lk bc bs vf cv mv xf ga gb nT m dB nP pf cB nS sg ln tx fl) (qq ss : Int32) : Ct l g yX9_sure cX9_sure 4 (some .int) 8 0 0 [.ref dk, .int qq, .int ss] M (fun v N => v = some (.int (aSure qq ss)) ∧ N = M) := by
  refine Ct.of (by decide) (Nat.le_of_ble_eq_true rfl) ?_
  intro X hXl hXg hN C E
  subst hXl; subst hXg
  show V X (rmD 8 0 0) M 0 0 [(0, .ref dk), (1, .int qq), (2, .int ss)] 0 []
  obtain ⟨hD1, hL, hA, ⟨hF, hV⟩, hU, ⟨hI, hX⟩, hY, hdB, hcB, hrw, hinj, hxr, hct⟩ := id hD
  have h12 := hL.1
  have h10 := hA.1
  refine v_iload_n C dX9_sure_0 rfl ?_
  refine v_iconst C dX9_sure_1 (v := 1) rfl ?_
  refine v_bipush C dX9_sure_2 (v := 19) rfl ?_
  refine v_callS (As := [.int qq, .int 1, .int 19]) (rest := []) C (c_X9_isWithin (xl X) (xg X) qq 1 19 M) pm_X9_isWithin wT_X9_isWithin wM_X9_55 ⟨by decide, by decide⟩ ⟨by decide, by decide⟩ (nle rfl) dX9_sure_4 rfl (dt1 ?_)
  show V X (rmD 8 0 0) M 0 0 [(0, .ref dk), (1, .int qq), (2, .int ss)] 7 [.int (bI (qin qq 1 19))]
  refine v_ifb_eq (tgt := 20) C dX9_sure_7 (by decide) (fun h7 => ?_) (fun h7 => ?_)
  · refine v_bipush C dX9_sure_20 (v := (-2)) rfl ?_
    exact v_iret C E dX9_sure_22 (nle rfl) (nle rfl) ⟨by first | (simp [aSure, h7, h17]; done) | simp [aSure, h7], rfl⟩
  · refine v_iload_n C dX9_sure_10 rfl ?_
    refine v_iconst C dX9_sure_11 (v := 0) rfl ?_
    refine v_bipush C dX9_sure_12 (v := 100) rfl ?_
    refine v_callS (As := [.int ss, .int 0, .int 100]) (rest := []) C (c_X9_isWithin (xl X) (xg X) ss 0 100 M) pm_X9_isWithin wT_X9_isWithin wM_X9_55 ⟨by decide, by decide⟩ ⟨by decide, by decide⟩ (nle rfl) dX9_sure_14 rfl (dt1 ?_)
    show V X (rmD 8 0 0) M 0 0 [(0, .ref dk), (1, .int qq), (2, .int ss)] 17 [.int (bI (qin ss 0 100))]
    refine v_ifb_ne (tgt := 23) C dX9_sure_17 (by decide) (fun h17 => ?_) (fun h17 => ?_)
    · obtain ⟨q, hLq, hjq, rfl⟩ := qin_nJ (x := qq) (L := 1) (N := 19) (by decide) (by decide) h7
      obtain ⟨s, hLs, hjs, rfl⟩ := qin_nJ (x := ss) (L := 0) (N := 100) (by decide) (by decide) h17
      show V X (rmD 8 0 0) M 0 0 [(0, .ref dk), (1, .int (nI q)), (2, .int (nI s))] 23 []
      refine v_iconst C dX9_sure_23 (v := 0) rfl ?_
      refine v_istore_n (lv' := [(3, .int 0), (0, .ref dk), (1, .int (nI q)), (2, .int (nI s))]) C dX9_sure_24 hN (by decide) rfl ?_
      refine v_sub (lv' := [(0, .ref dk), (1, .int (nI q)), (2, .int (nI s)), (3, .int 0)]) [1, 2, 3, 0] rfl ?_
      have lp25 : ∀ (mm : Nat) (i : Nat) (h1 : i ≤ 13) (h2 : fstB (fun n => decide ((20 - q) ^ n * 100 ≤ 20 ^ n * s)) i = none), 13 - i < mm → V X (rmD 8 0 0) M 0 0 [(0, .ref dk), (1, .int (nI q)), (2, .int (nI s)), (3, .int (nI i))] 25 [] := by
        intro mm
        induction mm with
        | zero => intro i h1 h2 hmu; exact absurd hmu (Nat.not_lt_zero _)
        | succ mm ih25 =>
          intro i h1 h2 hmu
          refine v_iload_n C dX9_sure_25 rfl ?_
          refine v_bipush C dX9_sure_26 (v := 12) rfl ?_
          refine v_icmp_gt (tgt := 66) C dX9_sure_28 (by decide) (fun h28 => ?_) (fun h28 => ?_)
          · refine v_bipush C dX9_sure_66 (v := (-6)) rfl ?_
            exact v_iret C E dX9_sure_68 (nle rfl) (nle rfl) ⟨by simp only [aSure, h7, h17, Bool.and_self, if_true, nI_clamp (n := q) (show q < 2 ^ 31 by omega), nI_clamp (n := s) (show s < 2 ^ 31 by omega)]; rw [← show i = 13 by have := nI_ltN (a := 12) (by decide) (by omega) h28; omega, h2]; rfl, rfl⟩
          · have g28 : i ≤ 12 := nI_nltN (a := 12) (by decide) (by omega) h28
            have b1 := pow_lt63 (b := 20 - q) (n := i) (by omega) (by omega)
            have b2 := pow_lt63 (b := 20) (n := i) (by omega) (by omega)
            have b3 : 20 ^ i * s ≤ 4096000000000000 * 100 := Nat.mul_le_mul b2 (by omega)
            refine v_bipush C dX9_sure_31 (v := 20) rfl ?_
            refine v_iload_n C dX9_sure_33 rfl ?_
            refine v_isub C dX9_sure_34 ?_
            refine v_i2l C dX9_sure_35 ?_
            rw [show (20 : Int32) - nI q = nI (20 - q) from pk_sub (a := 20) (b := q) (by omega), nI_l (by omega)]
            show V X (rmD 8 0 0) M 0 0 [(0, .ref dk), (1, .int (nI q)), (2, .int (nI s)), (3, .int (nI i))] 36 [.long (lN (20 - q))]
            refine v_iload_n C dX9_sure_36 rfl ?_
            refine v_callS (As := [.long (lN (20 - q)), .int (nI i)]) (rest := []) C (c_X9_power (xl X) (xg X) (lN (20 - q)) i (by omega) M) pm_X9_power wT_X9_power wM_X9_211 ⟨by decide, by decide⟩ ⟨by decide, by decide⟩ (nle rfl) dX9_sure_37 rfl (dt1 ?_)
            show V X (rmD 8 0 0) M 0 0 [(0, .ref dk), (1, .int (nI q)), (2, .int (nI s)), (3, .int (nI i))] 40 [.long (pwL (lN (20 - q)) i)]
            refine v_ldc2 C dX9_sure_40 wJ_X9_217 ?_
            refine v_lmul C dX9_sure_43 ?_
            rw [pwL_N, show lN ((20 - q) ^ i) * 100 = lN ((20 - q) ^ i * 100) from lN_mul _ _]
            show V X (rmD 8 0 0) M 0 0 [(0, .ref dk), (1, .int (nI q)), (2, .int (nI s)), (3, .int (nI i))] 44 [.long (lN ((20 - q) ^ i * 100))]
            refine v_ldc2 C dX9_sure_44 wJ_X9_215 ?_
            refine v_iload_n C dX9_sure_47 rfl ?_
            refine v_callS (As := [.long 20, .int (nI i)]) (rest := [.long (lN ((20 - q) ^ i * 100))]) C (c_X9_power (xl X) (xg X) 20 i (by omega) M) pm_X9_power wT_X9_power wM_X9_211 ⟨by decide, by decide⟩ ⟨by decide, by decide⟩ (nle rfl) dX9_sure_48 rfl (dt1 ?_)
            show V X (rmD 8 0 0) M 0 0 [(0, .ref dk), (1, .int (nI q)), (2, .int (nI s)), (3, .int (nI i))] 51 [.long (pwL 20 i), .long (lN ((20 - q) ^ i * 100))]
            refine v_iload_n C dX9_sure_51 rfl ?_
            refine v_i2l C dX9_sure_52 ?_
            refine v_lmul C dX9_sure_53 ?_
            rw [show pwL 20 i = lN (20 ^ i) from pwL_N 20 _, nI_l (by omega), lN_mul]
            show V X (rmD 8 0 0) M 0 0 [(0, .ref dk), (1, .int (nI q)), (2, .int (nI s)), (3, .int (nI i))] 54 [.long (lN (20 ^ i * s)), .long (lN ((20 - q) ^ i * 100))]
            refine v_lcmp C dX9_sure_54 ?_
            refine v_if_gt (tgt := 60) C dX9_sure_55 (by decide) (fun h55 => ?_) (fun h55 => ?_)
            · have g55 : ¬ (20 - q) ^ i * 100 ≤ 20 ^ i * s := fun z => absurd ((pk_lLE (by omega) (by omega)).mpr z) (Int64.not_le.mpr ((lg_cmp_gt _ _).mp h55))
              refine v_iinc (lv' := [(3, .int (nI (i + 1))), (0, .ref dk), (1, .int (nI q)), (2, .int (nI s))]) C dX9_sure_60 3 rfl (nI_1 _) hN (by decide) rfl ?_
              refine v_goto (tgt := 25) C dX9_sure_63 (by decide) ?_
              refine v_sub (lv' := [(0, .ref dk), (1, .int (nI q)), (2, .int (nI s)), (3, .int (nI (i + 1)))]) [1, 2, 3, 0] rfl ?_
              exact ih25 (i + 1) (by omega) (fstB_step h2 (decide_eq_false g55)) (by omega)
            · have g55 : (20 - q) ^ i * 100 ≤ 20 ^ i * s := (pk_lLE (by omega) (by omega)).mp (Int64.not_lt.mp (fun z => h55 ((lg_cmp_gt _ _).mpr z)))
              refine v_iload_n C dX9_sure_58 rfl ?_
              exact v_iret C E dX9_sure_59 (nle rfl) (nle rfl) ⟨by simp only [aSure, h7, h17, Bool.and_self, if_true, nI_clamp (n := q) (show q < 2 ^ 31 by omega), nI_clamp (n := s) (show s < 2 ^ 31 by omega)]; rw [fstB_hit (i := i) h2 (decide_eq_true g55) (by omega)]; rfl, rfl⟩
      exact lp25 (_ + 1) 0 (Nat.zero_le _) rfl (Nat.lt_succ_self _)
    · refine v_bipush C dX9_sure_20 (v := (-2)) rfl ?_
      exact v_iret C E dX9_sure_22 (nle rfl) (nle rfl) ⟨by first | (simp [aSure, h7, h17]; done) | simp [aSure, h7], rfl⟩


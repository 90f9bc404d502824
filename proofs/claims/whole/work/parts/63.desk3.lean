/-! The desk's methods: facts, lines, doings, flights. -/
set_option maxHeartbeats 4000000 in
set_option maxRecDepth 100000 in
theorem c_X9_judge (l : Launch) (g : Gm) (M : Mem) (dk : Nat) (la ta : Nat) (th mk dn : Nat → Nat) (al pt : Nat) (pa ca ka ra : Nat → Nat) (fa va : Nat) (ua sa xa na : Nat) (tA : Nat → Nat) (li xr : Nat) (fy f0 f1 f2 f3 ja jb : Nat) (lo hi pl ph : Nat → Int64) (cn lk : Nat → Nat → Int32) (bc bs : Bool) (vf : Nat → Int32) (cv mv : Int32) (xf : Nat → Int32) (ga gb : Nat → Int64) (nT : Nat) (m : Nat → Nat → Nat) (dB : Nat → Nat → Bool) (nP : Nat) (pf : Nat → Nat → Nat) (cB : Nat → Nat → Bool) (nS : Nat) (sg : Nat → Int32) (ln : Nat → Nat) (tx : Nat → Nat → Int32) (fl : Nat → Nat → Nat) (hD : DeskA g M dk la ta th mk dn al pt pa ca ka ra fa va ua sa xa na tA li xr fy f0 f1 f2 f3 ja jb lo hi pl ph cn lk bc bs vf cv mv xf ga gb nT m dB nP pf cB nS sg ln tx fl) (u i d : Nat) (hu : u < 5) (hpos : 0 < ln u) (lt : i < nT) (hd : d < 100) : Ct l g yX9_judge cX9_judge 4 (some .int) 5 0 0 [.ref dk, .int (nI u), .ref (th i), .int (nI d)] M (fun v N => v = some (.int (fitI nT m nP pf cB ln tx u i d)) ∧ ∃ f' b1 b2, N = mset (mset M va (aI g 9 f')) fa (.inr (1, [.ref va, .int (bI b1), .int (bI b2)]))) := by
  refine Ct.of (by decide) (Nat.le_of_ble_eq_true rfl) ?_
  intro X hXl hXg hN C E
  subst hXl; subst hXg
  show V X (rmD 5 0 0) M 0 0 [(0, .ref dk), (1, .int (nI u)), (2, .ref (th i)), (3, .int (nI d))] 0 []
  obtain ⟨hD1, hL, hA, ⟨hF, hV⟩, hU, ⟨hI, hX⟩, hY, hdB, hcB, hrw, hinj, hxr, hct⟩ := id hD
  have h12 := hL.1
  refine v_aload_n C dX9_judge_0 rfl ?_
  refine v_get C kX9 hD1 2 (by decide) wF_X9_26 rfl dX9_judge_1 ?_
  refine v_aload_n C dX9_judge_4 rfl ?_
  refine v_aload_n C dX9_judge_5 rfl ?_
  refine v_get C kX9 hD1 1 (by decide) wF_X9_19 rfl dX9_judge_6 ?_
  refine v_iload_n C dX9_judge_9 rfl ?_
  refine v_callV (As := [.ref (th i), .ref al, .int (nI d)]) (rest := []) (b := fa) C (c_X1_learn (xl X) (xg X) M fa va bc bs vf hF hV al pt pa ca ka ra nP pf pl ph cn lk hA la ta th mk dn nT m lo hi hL (Lk m nT pf) (Kk m nT pf) (rowsK h12 (fun t ht => (hL.2.2.2 t ht).2.2.2) hrw) i lt d hd) pm_X1_learn wI_X1_learn wS_X1_learn wM_X9_157 kX1 hF ⟨by decide, by decide⟩ ⟨by decide, by decide⟩ (nle rfl) dX9_judge_10 rfl ?_
  rintro _ _ ⟨rfl, f', b1, b2, rfl, hf⟩
  have hE := hD.facts f' b1 b2
  obtain ⟨hD1, hL, hA, ⟨hF, hV⟩, hU, ⟨hI, hX⟩, hY, hdB, hcB, hrw, hinj, hxr, hct⟩ := id hE
  show V X (rmD 5 0 0) (mset (mset M va (aI (xg X) 9 f')) fa (.inr (1, [.ref va, .int (bI b1), .int (bI b2)]))) 0 0 [(0, .ref dk), (1, .int (nI u)), (2, .ref (th i)), (3, .int (nI d))] 13 []
  refine v_aload_n C dX9_judge_13 rfl ?_
  refine v_get C kX9 hD1 3 (by decide) wF_X9_33 rfl dX9_judge_14 ?_
  refine v_iload_n C dX9_judge_17 rfl ?_
  refine v_aload_n C dX9_judge_18 rfl ?_
  refine v_get C kX9 hD1 2 (by decide) wF_X9_26 rfl dX9_judge_19 ?_
  refine v_callV (As := [.int (nI u), .ref fa]) (rest := []) (b := ua) C (c_X8_judge (xl X) (xg X) (mset (mset M va (aI (xg X) 9 f')) fa (.inr (1, [.ref va, .int (bI b1), .int (bI b2)]))) ua sa xa na tA nS sg ln tx hU fa va b1 b2 f' hF hV u hu hpos) pm_X8_judge wI_X8_judge wS_X8_judge wM_X9_248 kX8 hU.2.1 ⟨by decide, by decide⟩ ⟨by decide, by decide⟩ (nle rfl) dX9_judge_22 rfl (dt1 ?_)
  show V X (rmD 5 0 0) (mset (mset M va (aI (xg X) 9 f')) fa (.inr (1, [.ref va, .int (bI b1), .int (bI b2)]))) 0 0 [(0, .ref dk), (1, .int (nI u)), (2, .ref (th i)), (3, .int (nI d))] 25 [.int (jud (knI f') (tx u) (ln u))]
  exact v_iret C E dX9_judge_25 (nle rfl) (nle rfl) ⟨by rw [fitI, knI_congr (f' := fun w => oI (factN nP pf cB (Lk m nT pf) (Kk m nT pf) (m i) i d w)) (fun w hw => by rw [hf w hw, factN_congr (B := tkA pl ph) (B' := cB) hcB])], f', b1, b2, rfl⟩

set_option maxHeartbeats 4000000 in
set_option maxRecDepth 100000 in
theorem c_X9_fact (l : Launch) (g : Gm) (M : Mem) (dk : Nat) (la ta : Nat) (th mk dn : Nat → Nat) (al pt : Nat) (pa ca ka ra : Nat → Nat) (fa va : Nat) (ua sa xa na : Nat) (tA : Nat → Nat) (li xr : Nat) (fy f0 f1 f2 f3 ja jb : Nat) (lo hi pl ph : Nat → Int64) (cn lk : Nat → Nat → Int32) (bc bs : Bool) (vf : Nat → Int32) (cv mv : Int32) (xf : Nat → Int32) (ga gb : Nat → Int64) (nT : Nat) (m : Nat → Nat → Nat) (dB : Nat → Nat → Bool) (nP : Nat) (pf : Nat → Nat → Nat) (cB : Nat → Nat → Bool) (nS : Nat) (sg : Nat → Int32) (ln : Nat → Nat) (tx : Nat → Nat → Int32) (fl : Nat → Nat → Nat) (hD : DeskA g M dk la ta th mk dn al pt pa ca ka ra fa va ua sa xa na tA li xr fy f0 f1 f2 f3 ja jb lo hi pl ph cn lk bc bs vf cv mv xf ga gb nT m dB nP pf cB nS sg ln tx fl) (t d w : Int32) : Ct l g yX9_fact cX9_fact 5 (some .int) 8 0 0 [.ref dk, .int t, .int d, .int w] M (fun v N => v = some (.int (aFact nT m nP pf cB t d w)) ∧ DeskW g N dk nT m dB nP pf cB nS sg ln tx fl) := by
  refine Ct.of (by decide) (Nat.le_of_ble_eq_true rfl) ?_
  intro X hXl hXg hN C E
  subst hXl; subst hXg
  show V X (rmD 8 0 0) M 0 0 [(0, .ref dk), (1, .int t), (2, .int d), (3, .int w)] 0 []
  obtain ⟨hD1, hL, hA, ⟨hF, hV⟩, hU, ⟨hI, hX⟩, hY, hdB, hcB, hrw, hinj, hxr, hct⟩ := id hD
  have h12 := hL.1
  have h10 := hA.1
  rcases idx_cases nT (by omega) t with ⟨i, lt, rfl, hx⟩ | ⟨hn, hx⟩
  · have hzi := trivial
    show V X (rmD 8 0 0) M 0 0 [(0, .ref dk), (1, .int (nI i)), (2, .int d), (3, .int w)] 0 []
    refine v_aload_n C dX9_fact_0 rfl ?_
    refine v_get C kX9 hD1 0 (by decide) wF_X9_10 rfl dX9_fact_1 ?_
    refine v_iload_n C dX9_fact_4 rfl ?_
    refine v_callV (As := [.int (nI i)]) (rest := []) (b := la) C (c_X3_find (xl X) (xg X) M la ta th mk dn nT m lo hi i lt hL) pm_X3_find wI_X3_find wS_X3_find wM_X9_75 kX3 hL.2.1 ⟨by decide, by decide⟩ ⟨by decide, by decide⟩ (nle rfl) dX9_fact_5 rfl (dt1 ?_)
    show V X (rmD 8 0 0) M 0 0 [(0, .ref dk), (1, .int (nI i)), (2, .int d), (3, .int w)] 8 [.ref (th i)]
    refine v_astore (lv' := [(4, .ref (th i)), (0, .ref dk), (1, .int (nI i)), (2, .int d), (3, .int w)]) C dX9_fact_8 hN (by decide) rfl ?_
    refine v_aload C dX9_fact_10 rfl ?_
    refine v_ifnonnull (tgt := 17) C dX9_fact_12 (by decide) ?_
    refine v_iload_n C dX9_fact_17 rfl ?_
    refine v_callS (As := [.int d]) (rest := []) C (c_X9_isDay (xl X) (xg X) d M) pm_X9_isDay wT_X9_isDay wM_X9_59 ⟨by decide, by decide⟩ ⟨by decide, by decide⟩ (nle rfl) dX9_fact_18 rfl (dt1 ?_)
    show V X (rmD 8 0 0) M 0 0 [(4, .ref (th i)), (0, .ref dk), (1, .int (nI i)), (2, .int d), (3, .int w)] 21 [.int (bI (qin d 0 99))]
    refine v_ifb_eq (tgt := 34) C dX9_fact_21 (by decide) (fun h21 => ?_) (fun h21 => ?_)
    · refine v_bipush C dX9_fact_34 (v := (-2)) rfl ?_
      exact v_iret C E dX9_fact_36 (nle rfl) (nle rfl) ⟨by first | (simp [aFact, hx, h21, h31]; done) | simp [aFact, hx, h21], hD.W⟩
    · refine v_iload_n C dX9_fact_24 rfl ?_
      refine v_iconst C dX9_fact_25 (v := 0) rfl ?_
      refine v_bipush C dX9_fact_26 (v := 8) rfl ?_
      refine v_callS (As := [.int w, .int 0, .int 8]) (rest := []) C (c_X9_isWithin (xl X) (xg X) w 0 8 M) pm_X9_isWithin wT_X9_isWithin wM_X9_55 ⟨by decide, by decide⟩ ⟨by decide, by decide⟩ (nle rfl) dX9_fact_28 rfl (dt1 ?_)
      show V X (rmD 8 0 0) M 0 0 [(4, .ref (th i)), (0, .ref dk), (1, .int (nI i)), (2, .int d), (3, .int w)] 31 [.int (bI (qin w 0 8))]
      refine v_ifb_ne (tgt := 37) C dX9_fact_31 (by decide) (fun h31 => ?_) (fun h31 => ?_)
      · obtain ⟨e, hLe, hje, rfl⟩ := qin_nJ (x := d) (L := 0) (N := 99) (by decide) (by decide) h21
        obtain ⟨q, hLq, hjq, rfl⟩ := qin_nJ (x := w) (L := 0) (N := 8) (by decide) (by decide) h31
        show V X (rmD 8 0 0) M 0 0 [(4, .ref (th i)), (0, .ref dk), (1, .int (nI i)), (2, .int (nI e)), (3, .int (nI q))] 37 []
        refine v_aload_n C dX9_fact_37 rfl ?_
        refine v_get C kX9 hD1 2 (by decide) wF_X9_26 rfl dX9_fact_38 ?_
        refine v_aload C dX9_fact_41 rfl ?_
        refine v_aload_n C dX9_fact_43 rfl ?_
        refine v_get C kX9 hD1 1 (by decide) wF_X9_19 rfl dX9_fact_44 ?_
        refine v_iload_n C dX9_fact_47 rfl ?_
        refine v_callV (As := [.ref (th i), .ref al, .int (nI e)]) (rest := []) (b := fa) C (c_X1_learn (xl X) (xg X) M fa va bc bs vf hF hV al pt pa ca ka ra nP pf pl ph cn lk hA la ta th mk dn nT m lo hi hL (Lk m nT pf) (Kk m nT pf) (rowsK h12 (fun t ht => (hL.2.2.2 t ht).2.2.2) hrw) i lt e (by omega)) pm_X1_learn wI_X1_learn wS_X1_learn wM_X9_157 kX1 hF ⟨by decide, by decide⟩ ⟨by decide, by decide⟩ (nle rfl) dX9_fact_48 rfl ?_
        rintro _ _ ⟨rfl, f', b1, b2, rfl, hf⟩
        have hE := hD.facts f' b1 b2
        obtain ⟨hD1, hL, hA, ⟨hF, hV⟩, hU, ⟨hI, hX⟩, hY, hdB, hcB, hrw, hinj, hxr, hct⟩ := id hE
        show V X (rmD 8 0 0) (mset (mset M va (aI (xg X) 9 f')) fa (.inr (1, [.ref va, .int (bI b1), .int (bI b2)]))) 0 0 [(4, .ref (th i)), (0, .ref dk), (1, .int (nI i)), (2, .int (nI e)), (3, .int (nI q))] 51 []
        refine v_aload_n C dX9_fact_51 rfl ?_
        refine v_get C kX9 hD1 2 (by decide) wF_X9_26 rfl dX9_fact_52 ?_
        refine v_iload_n C dX9_fact_55 rfl ?_
        refine v_callV (As := [.int (nI q)]) (rest := []) (b := fa) C (c_X1_known (xl X) (xg X) (mset (mset M va (aI (xg X) 9 f')) fa (.inr (1, [.ref va, .int (bI b1), .int (bI b2)]))) fa va b1 b2 f' q (by omega) hF hV) pm_X1_known wI_X1_known wS_X1_known wM_X9_161 kX1 hF ⟨by decide, by decide⟩ ⟨by decide, by decide⟩ (nle rfl) dX9_fact_56 rfl (dt1 ?_)
        show V X (rmD 8 0 0) (mset (mset M va (aI (xg X) 9 f')) fa (.inr (1, [.ref va, .int (bI b1), .int (bI b2)]))) 0 0 [(4, .ref (th i)), (0, .ref dk), (1, .int (nI i)), (2, .int (nI e)), (3, .int (nI q))] 59 [.int (f' q)]
        exact v_iret C E dX9_fact_59 (nle rfl) (nle rfl) ⟨by simp only [aFact, hx, h21, h31, Bool.and_self, if_true]; rw [nI_clamp (n := e) (by omega), nI_clamp (n := q) (by omega), hf q (by omega), factN_congr (B := tkA pl ph) (B' := cB) hcB], hE.W⟩
      · refine v_bipush C dX9_fact_34 (v := (-2)) rfl ?_
        exact v_iret C E dX9_fact_36 (nle rfl) (nle rfl) ⟨by first | (simp [aFact, hx, h21, h31]; done) | simp [aFact, hx, h21], hD.W⟩
  · have hzi := trivial
    show V X (rmD 8 0 0) M 0 0 [(0, .ref dk), (1, .int t), (2, .int d), (3, .int w)] 0 []
    refine v_aload_n C dX9_fact_0 rfl ?_
    refine v_get C kX9 hD1 0 (by decide) wF_X9_10 rfl dX9_fact_1 ?_
    refine v_iload_n C dX9_fact_4 rfl ?_
    refine v_callV (As := [.int t]) (rest := []) (b := la) C (c_X3_findN (xl X) (xg X) M la ta th mk dn nT m lo hi t hn hL) pm_X3_find wI_X3_find wS_X3_find wM_X9_75 kX3 hL.2.1 ⟨by decide, by decide⟩ ⟨by decide, by decide⟩ (nle rfl) dX9_fact_5 rfl (dt1 ?_)
    show V X (rmD 8 0 0) M 0 0 [(0, .ref dk), (1, .int t), (2, .int d), (3, .int w)] 8 [.null]
    refine v_astoreN (lv' := [(4, .null), (0, .ref dk), (1, .int t), (2, .int d), (3, .int w)]) C dX9_fact_8 hN (by decide) rfl ?_
    refine v_aloadN C dX9_fact_10 rfl ?_
    refine v_ifnonnullN C dX9_fact_12 ?_
    refine v_iconst C dX9_fact_15 (v := (-1)) rfl ?_
    exact v_iret C E dX9_fact_16 (nle rfl) (nle rfl) ⟨by simp [aFact, hx], hD.W⟩

theorem aFit_U {nT : Nat} {m : Nat → Nat → Nat} {nP : Nat} {pf : Nat → Nat → Nat} {cB : Nat → Nat → Bool} {ln : Nat → Nat} {tx : Nat → Nat → Int32} {u t d : Int32} (h : useI ln u = none ∨ idx nT t = none) : aFit nT m nP pf cB ln tx u t d = -1 ∧ aCould nT m nP pf cB ln tx u t = -1 := by
  unfold aFit aCould
  rcases h with h | h
  · rw [h]; exact ⟨rfl, rfl⟩
  · rw [h]; cases useI ln u <;> exact ⟨rfl, rfl⟩
theorem useI_no {ln : Nat → Nat} {u : Int32} (h : idx 5 u = none) : useI ln u = none := by unfold useI; rw [h]
theorem useI_0 {ln : Nat → Nat} {u : Int32} {k : Nat} (h : idx 5 u = some k) (h0 : decide (0 < ln k) = false) : useI ln u = none := by unfold useI; rw [h]; exact if_neg (of_decide_eq_false h0)
theorem useI_1 {ln : Nat → Nat} {u : Int32} {k : Nat} (h : idx 5 u = some k) (h0 : decide (0 < ln k) = true) : useI ln u = some k := by unfold useI; rw [h]; exact if_pos (of_decide_eq_true h0)
set_option maxHeartbeats 4000000 in
set_option maxRecDepth 100000 in
theorem c_X9_fit (l : Launch) (g : Gm) (M : Mem) (dk : Nat) (la ta : Nat) (th mk dn : Nat → Nat) (al pt : Nat) (pa ca ka ra : Nat → Nat) (fa va : Nat) (ua sa xa na : Nat) (tA : Nat → Nat) (li xr : Nat) (fy f0 f1 f2 f3 ja jb : Nat) (lo hi pl ph : Nat → Int64) (cn lk : Nat → Nat → Int32) (bc bs : Bool) (vf : Nat → Int32) (cv mv : Int32) (xf : Nat → Int32) (ga gb : Nat → Int64) (nT : Nat) (m : Nat → Nat → Nat) (dB : Nat → Nat → Bool) (nP : Nat) (pf : Nat → Nat → Nat) (cB : Nat → Nat → Bool) (nS : Nat) (sg : Nat → Int32) (ln : Nat → Nat) (tx : Nat → Nat → Int32) (fl : Nat → Nat → Nat) (hD : DeskA g M dk la ta th mk dn al pt pa ca ka ra fa va ua sa xa na tA li xr fy f0 f1 f2 f3 ja jb lo hi pl ph cn lk bc bs vf cv mv xf ga gb nT m dB nP pf cB nS sg ln tx fl) (u t d : Int32) : Ct l g yX9_fit cX9_fit 5 (some .int) 8 0 0 [.ref dk, .int u, .int t, .int d] M (fun v N => v = some (.int (aFit nT m nP pf cB ln tx u t d)) ∧ DeskW g N dk nT m dB nP pf cB nS sg ln tx fl) := by
  refine Ct.of (by decide) (Nat.le_of_ble_eq_true rfl) ?_
  intro X hXl hXg hN C E
  subst hXl; subst hXg
  show V X (rmD 8 0 0) M 0 0 [(0, .ref dk), (1, .int u), (2, .int t), (3, .int d)] 0 []
  obtain ⟨hD1, hL, hA, ⟨hF, hV⟩, hU, ⟨hI, hX⟩, hY, hdB, hcB, hrw, hinj, hxr, hct⟩ := id hD
  have h12 := hL.1
  have h10 := hA.1
  rcases idx_cases nT (by omega) t with ⟨i, lt, rfl, hx⟩ | ⟨hn, hx⟩
  · have hzi := trivial
    show V X (rmD 8 0 0) M 0 0 [(0, .ref dk), (1, .int u), (2, .int (nI i)), (3, .int d)] 0 []
    refine v_aload_n C dX9_fit_0 rfl ?_
    rcases idx_cases 5 (by decide) u with ⟨k, ltk, rfl, hxu⟩ | ⟨hnu, hxu⟩
    · have hzk := trivial
      show V X (rmD 8 0 0) M 0 0 [(0, .ref dk), (1, .int (nI k)), (2, .int (nI i)), (3, .int d)] 1 [.ref dk]
      refine v_get C kX9 hD1 0 (by decide) wF_X9_10 rfl dX9_fit_1 ?_
      refine v_iload_n C dX9_fit_4 rfl ?_
      refine v_callV (As := [.int (nI i)]) (rest := []) (b := la) C (c_X3_find (xl X) (xg X) M la ta th mk dn nT m lo hi i lt hL) pm_X3_find wI_X3_find wS_X3_find wM_X9_75 kX3 hL.2.1 ⟨by decide, by decide⟩ ⟨by decide, by decide⟩ (nle rfl) dX9_fit_5 rfl (dt1 ?_)
      show V X (rmD 8 0 0) M 0 0 [(0, .ref dk), (1, .int (nI k)), (2, .int (nI i)), (3, .int d)] 8 [.ref (th i)]
      refine v_astore (lv' := [(4, .ref (th i)), (0, .ref dk), (1, .int (nI k)), (2, .int (nI i)), (3, .int d)]) C dX9_fit_8 hN (by decide) rfl ?_
      refine v_aload_n C dX9_fit_10 rfl ?_
      refine v_get C kX9 hD1 3 (by decide) wF_X9_33 rfl dX9_fit_11 ?_
      refine v_iload_n C dX9_fit_14 rfl ?_
      refine v_callV (As := [.int (nI k)]) (rest := []) (b := ua) C (c_X8_has (xl X) (xg X) M ua sa xa na tA nS sg ln tx k ltk hU) pm_X8_has wI_X8_has wS_X8_has wM_X9_150 kX8 hU.2.1 ⟨by decide, by decide⟩ ⟨by decide, by decide⟩ (nle rfl) dX9_fit_15 rfl (dt1 ?_)
      show V X (rmD 8 0 0) M 0 0 [(4, .ref (th i)), (0, .ref dk), (1, .int (nI k)), (2, .int (nI i)), (3, .int d)] 18 [.int (bI (decide (0 < ln k)))]
      refine v_ifb_eq (tgt := 26) C dX9_fit_18 (by decide) (fun h18 => ?_) (fun h18 => ?_)
      · refine v_iconst C dX9_fit_26 (v := (-1)) rfl ?_
        exact v_iret C E dX9_fit_27 (nle rfl) (nle rfl) ⟨(by rw [(aFit_U (Or.inl (useI_0 hxu h18))).1]), hD.W⟩
      · refine v_aload C dX9_fit_21 rfl ?_
        refine v_ifnonnull (tgt := 28) C dX9_fit_23 (by decide) ?_
        refine v_iload_n C dX9_fit_28 rfl ?_
        refine v_callS (As := [.int d]) (rest := []) C (c_X9_isDay (xl X) (xg X) d M) pm_X9_isDay wT_X9_isDay wM_X9_59 ⟨by decide, by decide⟩ ⟨by decide, by decide⟩ (nle rfl) dX9_fit_29 rfl (dt1 ?_)
        show V X (rmD 8 0 0) M 0 0 [(4, .ref (th i)), (0, .ref dk), (1, .int (nI k)), (2, .int (nI i)), (3, .int d)] 32 [.int (bI (qin d 0 99))]
        refine v_ifb_ne (tgt := 38) C dX9_fit_32 (by decide) (fun h32 => ?_) (fun h32 => ?_)
        · obtain ⟨e, hLe, hje, rfl⟩ := qin_nJ (x := d) (L := 0) (N := 99) (by decide) (by decide) h32
          show V X (rmD 8 0 0) M 0 0 [(4, .ref (th i)), (0, .ref dk), (1, .int (nI k)), (2, .int (nI i)), (3, .int (nI e))] 38 []
          refine v_aload_n C dX9_fit_38 rfl ?_
          refine v_iload_n C dX9_fit_39 rfl ?_
          refine v_aload C dX9_fit_40 rfl ?_
          refine v_iload_n C dX9_fit_42 rfl ?_
          refine v_callV (As := [.int (nI k), .ref (th i), .int (nI e)]) (rest := []) (b := dk) C (c_X9_judge (xl X) (xg X) M dk la ta th mk dn al pt pa ca ka ra fa va ua sa xa na tA li xr fy f0 f1 f2 f3 ja jb lo hi pl ph cn lk bc bs vf cv mv xf ga gb nT m dB nP pf cB nS sg ln tx fl hD k i e ltk (of_decide_eq_true h18) lt (by omega)) pm_X9_judge wI_X9_judge wS_X9_judge wM_X9_164 kX9 hD1 ⟨by decide, by decide⟩ ⟨by decide, by decide⟩ (nle rfl) dX9_fit_43 rfl ?_
          rintro _ _ ⟨rfl, f', b1, b2, rfl⟩
          have hE := hD.facts f' b1 b2
          obtain ⟨hD1, hL, hA, ⟨hF, hV⟩, hU, ⟨hI, hX⟩, hY, hdB, hcB, hrw, hinj, hxr, hct⟩ := id hE
          show V X (rmD 8 0 0) (mset (mset M va (aI (xg X) 9 f')) fa (.inr (1, [.ref va, .int (bI b1), .int (bI b2)]))) 0 0 [(4, .ref (th i)), (0, .ref dk), (1, .int (nI k)), (2, .int (nI i)), (3, .int (nI e))] 46 [.int (fitI nT m nP pf cB ln tx k i e)]
          exact v_iret C E dX9_fit_46 (nle rfl) (nle rfl) ⟨by simp only [aFit, hx, useI_1 hxu h18, h32, if_true]; rw [nI_clamp (n := e) (by omega)], hE.W⟩
        · refine v_bipush C dX9_fit_35 (v := (-2)) rfl ?_
          exact v_iret C E dX9_fit_37 (nle rfl) (nle rfl) ⟨by simp [aFit, hx, useI_1 hxu h18, h32], hD.W⟩
    · have hzk := trivial
      show V X (rmD 8 0 0) M 0 0 [(0, .ref dk), (1, .int u), (2, .int (nI i)), (3, .int d)] 1 [.ref dk]
      refine v_get C kX9 hD1 0 (by decide) wF_X9_10 rfl dX9_fit_1 ?_
      refine v_iload_n C dX9_fit_4 rfl ?_
      refine v_callV (As := [.int (nI i)]) (rest := []) (b := la) C (c_X3_find (xl X) (xg X) M la ta th mk dn nT m lo hi i lt hL) pm_X3_find wI_X3_find wS_X3_find wM_X9_75 kX3 hL.2.1 ⟨by decide, by decide⟩ ⟨by decide, by decide⟩ (nle rfl) dX9_fit_5 rfl (dt1 ?_)
      show V X (rmD 8 0 0) M 0 0 [(0, .ref dk), (1, .int u), (2, .int (nI i)), (3, .int d)] 8 [.ref (th i)]
      refine v_astore (lv' := [(4, .ref (th i)), (0, .ref dk), (1, .int u), (2, .int (nI i)), (3, .int d)]) C dX9_fit_8 hN (by decide) rfl ?_
      refine v_aload_n C dX9_fit_10 rfl ?_
      refine v_get C kX9 hD1 3 (by decide) wF_X9_33 rfl dX9_fit_11 ?_
      refine v_iload_n C dX9_fit_14 rfl ?_
      refine v_callV (As := [.int u]) (rest := []) (b := ua) C (c_X8_hasN (xl X) (xg X) M ua sa xa na tA nS sg ln tx u hnu hU) pm_X8_has wI_X8_has wS_X8_has wM_X9_150 kX8 hU.2.1 ⟨by decide, by decide⟩ ⟨by decide, by decide⟩ (nle rfl) dX9_fit_15 rfl (dt1 ?_)
      show V X (rmD 8 0 0) M 0 0 [(4, .ref (th i)), (0, .ref dk), (1, .int u), (2, .int (nI i)), (3, .int d)] 18 [.int (bI false)]
      refine v_ifb_eq (tgt := 26) C dX9_fit_18 (by decide) (fun h18 => ?_) (fun hbad => absurd hbad (by decide))
      refine v_iconst C dX9_fit_26 (v := (-1)) rfl ?_
      exact v_iret C E dX9_fit_27 (nle rfl) (nle rfl) ⟨(by rw [(aFit_U (Or.inl (useI_no hxu))).1]), hD.W⟩
  · have hzi := trivial
    show V X (rmD 8 0 0) M 0 0 [(0, .ref dk), (1, .int u), (2, .int t), (3, .int d)] 0 []
    refine v_aload_n C dX9_fit_0 rfl ?_
    rcases idx_cases 5 (by decide) u with ⟨k, ltk, rfl, hxu⟩ | ⟨hnu, hxu⟩
    · have hzk := trivial
      show V X (rmD 8 0 0) M 0 0 [(0, .ref dk), (1, .int (nI k)), (2, .int t), (3, .int d)] 1 [.ref dk]
      refine v_get C kX9 hD1 0 (by decide) wF_X9_10 rfl dX9_fit_1 ?_
      refine v_iload_n C dX9_fit_4 rfl ?_
      refine v_callV (As := [.int t]) (rest := []) (b := la) C (c_X3_findN (xl X) (xg X) M la ta th mk dn nT m lo hi t hn hL) pm_X3_find wI_X3_find wS_X3_find wM_X9_75 kX3 hL.2.1 ⟨by decide, by decide⟩ ⟨by decide, by decide⟩ (nle rfl) dX9_fit_5 rfl (dt1 ?_)
      show V X (rmD 8 0 0) M 0 0 [(0, .ref dk), (1, .int (nI k)), (2, .int t), (3, .int d)] 8 [.null]
      refine v_astoreN (lv' := [(4, .null), (0, .ref dk), (1, .int (nI k)), (2, .int t), (3, .int d)]) C dX9_fit_8 hN (by decide) rfl ?_
      refine v_aload_n C dX9_fit_10 rfl ?_
      refine v_get C kX9 hD1 3 (by decide) wF_X9_33 rfl dX9_fit_11 ?_
      refine v_iload_n C dX9_fit_14 rfl ?_
      refine v_callV (As := [.int (nI k)]) (rest := []) (b := ua) C (c_X8_has (xl X) (xg X) M ua sa xa na tA nS sg ln tx k ltk hU) pm_X8_has wI_X8_has wS_X8_has wM_X9_150 kX8 hU.2.1 ⟨by decide, by decide⟩ ⟨by decide, by decide⟩ (nle rfl) dX9_fit_15 rfl (dt1 ?_)
      show V X (rmD 8 0 0) M 0 0 [(4, .null), (0, .ref dk), (1, .int (nI k)), (2, .int t), (3, .int d)] 18 [.int (bI (decide (0 < ln k)))]
      refine v_ifb_eq (tgt := 26) C dX9_fit_18 (by decide) (fun h18 => ?_) (fun h18 => ?_)
      · refine v_iconst C dX9_fit_26 (v := (-1)) rfl ?_
        exact v_iret C E dX9_fit_27 (nle rfl) (nle rfl) ⟨(by rw [(aFit_U (Or.inr hx)).1]), hD.W⟩
      · refine v_aloadN C dX9_fit_21 rfl ?_
        refine v_ifnonnullN C dX9_fit_23 ?_
        refine v_iconst C dX9_fit_26 (v := (-1)) rfl ?_
        exact v_iret C E dX9_fit_27 (nle rfl) (nle rfl) ⟨(by rw [(aFit_U (Or.inr hx)).1]), hD.W⟩
    · have hzk := trivial
      show V X (rmD 8 0 0) M 0 0 [(0, .ref dk), (1, .int u), (2, .int t), (3, .int d)] 1 [.ref dk]
      refine v_get C kX9 hD1 0 (by decide) wF_X9_10 rfl dX9_fit_1 ?_
      refine v_iload_n C dX9_fit_4 rfl ?_
      refine v_callV (As := [.int t]) (rest := []) (b := la) C (c_X3_findN (xl X) (xg X) M la ta th mk dn nT m lo hi t hn hL) pm_X3_find wI_X3_find wS_X3_find wM_X9_75 kX3 hL.2.1 ⟨by decide, by decide⟩ ⟨by decide, by decide⟩ (nle rfl) dX9_fit_5 rfl (dt1 ?_)
      show V X (rmD 8 0 0) M 0 0 [(0, .ref dk), (1, .int u), (2, .int t), (3, .int d)] 8 [.null]
      refine v_astoreN (lv' := [(4, .null), (0, .ref dk), (1, .int u), (2, .int t), (3, .int d)]) C dX9_fit_8 hN (by decide) rfl ?_
      refine v_aload_n C dX9_fit_10 rfl ?_
      refine v_get C kX9 hD1 3 (by decide) wF_X9_33 rfl dX9_fit_11 ?_
      refine v_iload_n C dX9_fit_14 rfl ?_
      refine v_callV (As := [.int u]) (rest := []) (b := ua) C (c_X8_hasN (xl X) (xg X) M ua sa xa na tA nS sg ln tx u hnu hU) pm_X8_has wI_X8_has wS_X8_has wM_X9_150 kX8 hU.2.1 ⟨by decide, by decide⟩ ⟨by decide, by decide⟩ (nle rfl) dX9_fit_15 rfl (dt1 ?_)
      show V X (rmD 8 0 0) M 0 0 [(4, .null), (0, .ref dk), (1, .int u), (2, .int t), (3, .int d)] 18 [.int (bI false)]
      refine v_ifb_eq (tgt := 26) C dX9_fit_18 (by decide) (fun h18 => ?_) (fun hbad => absurd hbad (by decide))
      refine v_iconst C dX9_fit_26 (v := (-1)) rfl ?_
      exact v_iret C E dX9_fit_27 (nle rfl) (nle rfl) ⟨(by rw [(aFit_U (Or.inr hx)).1]), hD.W⟩

set_option maxHeartbeats 4000000 in
set_option maxRecDepth 100000 in
theorem c_X9_could (l : Launch) (g : Gm) (M : Mem) (dk : Nat) (la ta : Nat) (th mk dn : Nat → Nat) (al pt : Nat) (pa ca ka ra : Nat → Nat) (fa va : Nat) (ua sa xa na : Nat) (tA : Nat → Nat) (li xr : Nat) (fy f0 f1 f2 f3 ja jb : Nat) (lo hi pl ph : Nat → Int64) (cn lk : Nat → Nat → Int32) (bc bs : Bool) (vf : Nat → Int32) (cv mv : Int32) (xf : Nat → Int32) (ga gb : Nat → Int64) (nT : Nat) (m : Nat → Nat → Nat) (dB : Nat → Nat → Bool) (nP : Nat) (pf : Nat → Nat → Nat) (cB : Nat → Nat → Bool) (nS : Nat) (sg : Nat → Int32) (ln : Nat → Nat) (tx : Nat → Nat → Int32) (fl : Nat → Nat → Nat) (hD : DeskA g M dk la ta th mk dn al pt pa ca ka ra fa va ua sa xa na tA li xr fy f0 f1 f2 f3 ja jb lo hi pl ph cn lk bc bs vf cv mv xf ga gb nT m dB nP pf cB nS sg ln tx fl) (u t : Int32) : Ct l g yX9_could cX9_could 6 (some .int) 8 0 0 [.ref dk, .int u, .int t] M (fun v N => v = some (.int (aCould nT m nP pf cB ln tx u t)) ∧ DeskW g N dk nT m dB nP pf cB nS sg ln tx fl) := by
  refine Ct.of (by decide) (Nat.le_of_ble_eq_true rfl) ?_
  intro X hXl hXg hN C E
  subst hXl; subst hXg
  show V X (rmD 8 0 0) M 0 0 [(0, .ref dk), (1, .int u), (2, .int t)] 0 []
  obtain ⟨hD1, hL, hA, ⟨hF, hV⟩, hU, ⟨hI, hX⟩, hY, hdB, hcB, hrw, hinj, hxr, hct⟩ := id hD
  have h12 := hL.1
  have h10 := hA.1
  rcases idx_cases nT (by omega) t with ⟨i, lt, rfl, hx⟩ | ⟨hn, hx⟩
  · have hzi := trivial
    show V X (rmD 8 0 0) M 0 0 [(0, .ref dk), (1, .int u), (2, .int (nI i))] 0 []
    refine v_aload_n C dX9_could_0 rfl ?_
    rcases idx_cases 5 (by decide) u with ⟨k, ltk, rfl, hxu⟩ | ⟨hnu, hxu⟩
    · have hzk := trivial
      show V X (rmD 8 0 0) M 0 0 [(0, .ref dk), (1, .int (nI k)), (2, .int (nI i))] 1 [.ref dk]
      refine v_get C kX9 hD1 0 (by decide) wF_X9_10 rfl dX9_could_1 ?_
      refine v_iload_n C dX9_could_4 rfl ?_
      refine v_callV (As := [.int (nI i)]) (rest := []) (b := la) C (c_X3_find (xl X) (xg X) M la ta th mk dn nT m lo hi i lt hL) pm_X3_find wI_X3_find wS_X3_find wM_X9_75 kX3 hL.2.1 ⟨by decide, by decide⟩ ⟨by decide, by decide⟩ (nle rfl) dX9_could_5 rfl (dt1 ?_)
      show V X (rmD 8 0 0) M 0 0 [(0, .ref dk), (1, .int (nI k)), (2, .int (nI i))] 8 [.ref (th i)]
      refine v_astore_n (lv' := [(3, .ref (th i)), (0, .ref dk), (1, .int (nI k)), (2, .int (nI i))]) C dX9_could_8 hN (by decide) rfl ?_
      refine v_aload_n C dX9_could_9 rfl ?_
      refine v_get C kX9 hD1 3 (by decide) wF_X9_33 rfl dX9_could_10 ?_
      refine v_iload_n C dX9_could_13 rfl ?_
      refine v_callV (As := [.int (nI k)]) (rest := []) (b := ua) C (c_X8_has (xl X) (xg X) M ua sa xa na tA nS sg ln tx k ltk hU) pm_X8_has wI_X8_has wS_X8_has wM_X9_150 kX8 hU.2.1 ⟨by decide, by decide⟩ ⟨by decide, by decide⟩ (nle rfl) dX9_could_14 rfl (dt1 ?_)
      show V X (rmD 8 0 0) M 0 0 [(3, .ref (th i)), (0, .ref dk), (1, .int (nI k)), (2, .int (nI i))] 17 [.int (bI (decide (0 < ln k)))]
      refine v_ifb_eq (tgt := 24) C dX9_could_17 (by decide) (fun h17 => ?_) (fun h17 => ?_)
      · refine v_iconst C dX9_could_24 (v := (-1)) rfl ?_
        exact v_iret C E dX9_could_25 (nle rfl) (nle rfl) ⟨(by rw [(aFit_U (d := 0) (Or.inl (useI_0 hxu h17))).2]), hD.W⟩
      · refine v_aload_n C dX9_could_20 rfl ?_
        refine v_ifnonnull (tgt := 26) C dX9_could_21 (by decide) ?_
        refine v_iconst C dX9_could_26 (v := 0) rfl ?_
        refine v_istore (lv' := [(4, .int 0), (3, .ref (th i)), (0, .ref dk), (1, .int (nI k)), (2, .int (nI i))]) C dX9_could_27 hN (by decide) rfl ?_
        refine v_sub (lv' := [(0, .ref dk), (1, .int (nI k)), (2, .int (nI i)), (3, .ref (th i)), (4, .int 0)]) [2, 3, 4, 1, 0] rfl ?_
        have lp29 : ∀ (mm : Nat) (j : Nat) (N : Mem) (bc' : Bool) (bs' : Bool) (vf' : Nat → Int32) (h1 : j ≤ 100) (h2 : fstB (fun d => (decide (d = 0) || anyB (fun p => decide (pf p 2 = d)) nP) && decide (fitI nT m nP pf cB ln tx k i d = 2)) j = none) (hD2 : DeskA (xg X) N dk la ta th mk dn al pt pa ca ka ra fa va ua sa xa na tA li xr fy f0 f1 f2 f3 ja jb lo hi pl ph cn lk bc' bs' vf' cv mv xf ga gb nT m dB nP pf cB nS sg ln tx fl), 100 - j < mm → V X (rmD 8 0 0) N 0 0 [(0, .ref dk), (1, .int (nI k)), (2, .int (nI i)), (3, .ref (th i)), (4, .int (nI j))] 29 [] := by
          intro mm
          induction mm with
          | zero => intro j N bc' bs' vf' h1 h2 hD2 hmu; exact absurd hmu (Nat.not_lt_zero _)
          | succ mm ih29 =>
            intro j N bc' bs' vf' h1 h2 hD2 hmu
            obtain ⟨hD1, hL, hA, ⟨hF, hV⟩, hU, ⟨hI, hX⟩, hY, hdB, hcB, hrw, hinj, hxr, hct⟩ := id hD2
            refine v_iload C dX9_could_29 rfl ?_
            refine v_bipush C dX9_could_31 (v := 100) rfl ?_
            refine v_icmp_ge (tgt := 86) C dX9_could_33 (by decide) (fun h33 => ?_) (fun h33 => ?_)
            · refine v_bipush C dX9_could_86 (v := (-6)) rfl ?_
              exact v_iret C E dX9_could_88 (nle rfl) (nle rfl) ⟨by simp only [aCould, hx, useI_1 hxu h17]; rw [← show j = 100 from Nat.le_antisymm h1 (nI_leN (a := 100) (by decide) (by omega) h33), h2]; rfl, hD2.W⟩
            · have g33 := nI_nleN (a := 100) (by decide) (by omega) h33
              refine v_iload C dX9_could_36 rfl ?_
              refine v_if_eq (tgt := 53) C dX9_could_38 (by decide) (fun h38 => ?_) (fun h38 => ?_)
              · refine v_iconst C dX9_could_53 (v := 1) rfl ?_
                refine v_goto (tgt := 58) C dX9_could_54 (by decide) ?_
                have hday : anyB (fun p => decide (nI (pf p 2) = nI j)) nP = anyB (fun p => decide (pf p 2 = j)) nP := anyB_congr (fun p hp => decide_eq_decide.mpr (nI_eq (by have := (hA.2.2.2.1 p hp).1; unfold okP at this; omega) (by omega)))
                have g38 : (decide (j = 0) || anyB (fun p => decide (pf p 2 = j)) nP) = true := by first | exact (by have := nI_eqN (b := 0) (by omega) (by decide) h38; simp [this]) | (rw [Bool.or_eq_true]; refine Or.inr ?_; rw [← hday]; exact h50)
                show V X (rmD 8 0 0) N 0 0 [(0, .ref dk), (1, .int (nI k)), (2, .int (nI i)), (3, .ref (th i)), (4, .int (nI j))] 58 [.int (bI true)]
                refine v_istore (lv' := [(5, .int (bI true)), (0, .ref dk), (1, .int (nI k)), (2, .int (nI i)), (3, .ref (th i)), (4, .int (nI j))]) C dX9_could_58 hN (by decide) rfl ?_
                refine v_iload C dX9_could_60 rfl ?_
                refine v_ifb_eq (tgt := 80) C dX9_could_62 (by decide) (fun hbad => absurd hbad (by decide)) (fun h62 => ?_)
                refine v_aload_n C dX9_could_65 rfl ?_
                refine v_iload_n C dX9_could_66 rfl ?_
                refine v_aload_n C dX9_could_67 rfl ?_
                refine v_iload C dX9_could_68 rfl ?_
                refine v_callV (As := [.int (nI k), .ref (th i), .int (nI j)]) (rest := []) (b := dk) C (c_X9_judge (xl X) (xg X) N dk la ta th mk dn al pt pa ca ka ra fa va ua sa xa na tA li xr fy f0 f1 f2 f3 ja jb lo hi pl ph cn lk bc' bs' vf' cv mv xf ga gb nT m dB nP pf cB nS sg ln tx fl hD2 k i j ltk (of_decide_eq_true h17) lt g33) pm_X9_judge wI_X9_judge wS_X9_judge wM_X9_164 kX9 hD1 ⟨by decide, by decide⟩ ⟨by decide, by decide⟩ (nle rfl) dX9_could_70 rfl ?_
                rintro _ _ ⟨rfl, f', b1, b2, rfl⟩
                have hE := hD2.facts f' b1 b2
                obtain ⟨hD1, hL, hA, ⟨hF, hV⟩, hU, ⟨hI, hX⟩, hY, hdB, hcB, hrw, hinj, hxr, hct⟩ := id hE
                show V X (rmD 8 0 0) (mset (mset N va (aI (xg X) 9 f')) fa (.inr (1, [.ref va, .int (bI b1), .int (bI b2)]))) 0 0 [(5, .int (bI true)), (0, .ref dk), (1, .int (nI k)), (2, .int (nI i)), (3, .ref (th i)), (4, .int (nI j))] 73 [.int (fitI nT m nP pf cB ln tx k i j)]
                refine v_iconst C dX9_could_73 (v := 2) rfl ?_
                refine v_icmp_ne (tgt := 80) C dX9_could_74 (by decide) (fun h74 => ?_) (fun h74 => ?_)
                · refine v_iinc (lv' := [(4, .int (nI (j + 1))), (5, .int (bI true)), (0, .ref dk), (1, .int (nI k)), (2, .int (nI i)), (3, .ref (th i))]) C dX9_could_80 5 rfl (nI_1 _) hN (by decide) rfl ?_
                  refine v_goto (tgt := 29) C dX9_could_83 (by decide) ?_
                  refine v_sub (lv' := [(0, .ref dk), (1, .int (nI k)), (2, .int (nI i)), (3, .ref (th i)), (4, .int (nI (j + 1)))]) [2, 3, 4, 5, 0] rfl ?_
                  exact ih29 (j + 1) (mset (mset N va (aI (xg X) 9 f')) fa (.inr (1, [.ref va, .int (bI b1), .int (bI b2)]))) b1 b2 f' (by omega) (fstB_step h2 (by simp [g38, h74])) hE (by omega)
                · refine v_iload C dX9_could_77 rfl ?_
                  exact v_iret C E dX9_could_79 (nle rfl) (nle rfl) ⟨by simp only [aCould, hx, useI_1 hxu h17]; rw [fstB_hit (i := j) h2 (by simp [g38, h74]) g33]; rfl, hE.W⟩
              · refine v_aload_n C dX9_could_41 rfl ?_
                refine v_get C kX9 hD1 1 (by decide) wF_X9_19 rfl dX9_could_42 ?_
                refine v_iload C dX9_could_45 rfl ?_
                refine v_callV (As := [.int (nI j)]) (rest := []) (b := al) C (c_X0_hasDay (xl X) (xg X) N al pt pa ca ka ra nP pf pl ph cn lk hA (nI j)) pm_X0_hasDay wI_X0_hasDay wS_X0_hasDay wM_X9_168 kX0 hA.2.1 ⟨by decide, by decide⟩ ⟨by decide, by decide⟩ (nle rfl) dX9_could_47 rfl (dt1 ?_)
                show V X (rmD 8 0 0) N 0 0 [(0, .ref dk), (1, .int (nI k)), (2, .int (nI i)), (3, .ref (th i)), (4, .int (nI j))] 50 [.int (bI (anyB (fun p => decide (nI (pf p 2) = nI j)) nP))]
                refine v_ifb_eq (tgt := 57) C dX9_could_50 (by decide) (fun h50 => ?_) (fun h50 => ?_)
                · refine v_iconst C dX9_could_57 (v := 0) rfl ?_
                  have hday : anyB (fun p => decide (nI (pf p 2) = nI j)) nP = anyB (fun p => decide (pf p 2 = j)) nP := anyB_congr (fun p hp => decide_eq_decide.mpr (nI_eq (by have := (hA.2.2.2.1 p hp).1; unfold okP at this; omega) (by omega)))
                  have g38 : (decide (j = 0) || anyB (fun p => decide (pf p 2 = j)) nP) = false := by rw [Bool.or_eq_false_iff]; exact ⟨decide_eq_false (fun q => h38 (by rw [q]; rfl)), by rw [← hday]; exact h50⟩
                  show V X (rmD 8 0 0) N 0 0 [(0, .ref dk), (1, .int (nI k)), (2, .int (nI i)), (3, .ref (th i)), (4, .int (nI j))] 58 [.int (bI false)]
                  refine v_istore (lv' := [(5, .int (bI false)), (0, .ref dk), (1, .int (nI k)), (2, .int (nI i)), (3, .ref (th i)), (4, .int (nI j))]) C dX9_could_58 hN (by decide) rfl ?_
                  refine v_iload C dX9_could_60 rfl ?_
                  refine v_ifb_eq (tgt := 80) C dX9_could_62 (by decide) (fun h62 => ?_) (fun hbad => absurd hbad (by decide))
                  refine v_iinc (lv' := [(4, .int (nI (j + 1))), (5, .int (bI false)), (0, .ref dk), (1, .int (nI k)), (2, .int (nI i)), (3, .ref (th i))]) C dX9_could_80 5 rfl (nI_1 _) hN (by decide) rfl ?_
                  refine v_goto (tgt := 29) C dX9_could_83 (by decide) ?_
                  refine v_sub (lv' := [(0, .ref dk), (1, .int (nI k)), (2, .int (nI i)), (3, .ref (th i)), (4, .int (nI (j + 1)))]) [2, 3, 4, 5, 0] rfl ?_
                  exact ih29 (j + 1) N bc' bs' vf' (by omega) (fstB_step h2 (by simp [g38])) hD2 (by omega)
                · refine v_iconst C dX9_could_53 (v := 1) rfl ?_
                  refine v_goto (tgt := 58) C dX9_could_54 (by decide) ?_
                  have hday : anyB (fun p => decide (nI (pf p 2) = nI j)) nP = anyB (fun p => decide (pf p 2 = j)) nP := anyB_congr (fun p hp => decide_eq_decide.mpr (nI_eq (by have := (hA.2.2.2.1 p hp).1; unfold okP at this; omega) (by omega)))
                  have g38 : (decide (j = 0) || anyB (fun p => decide (pf p 2 = j)) nP) = true := by first | exact (by have := nI_eqN (b := 0) (by omega) (by decide) h38; simp [this]) | (rw [Bool.or_eq_true]; refine Or.inr ?_; rw [← hday]; exact h50)
                  show V X (rmD 8 0 0) N 0 0 [(0, .ref dk), (1, .int (nI k)), (2, .int (nI i)), (3, .ref (th i)), (4, .int (nI j))] 58 [.int (bI true)]
                  refine v_istore (lv' := [(5, .int (bI true)), (0, .ref dk), (1, .int (nI k)), (2, .int (nI i)), (3, .ref (th i)), (4, .int (nI j))]) C dX9_could_58 hN (by decide) rfl ?_
                  refine v_iload C dX9_could_60 rfl ?_
                  refine v_ifb_eq (tgt := 80) C dX9_could_62 (by decide) (fun hbad => absurd hbad (by decide)) (fun h62 => ?_)
                  refine v_aload_n C dX9_could_65 rfl ?_
                  refine v_iload_n C dX9_could_66 rfl ?_
                  refine v_aload_n C dX9_could_67 rfl ?_
                  refine v_iload C dX9_could_68 rfl ?_
                  refine v_callV (As := [.int (nI k), .ref (th i), .int (nI j)]) (rest := []) (b := dk) C (c_X9_judge (xl X) (xg X) N dk la ta th mk dn al pt pa ca ka ra fa va ua sa xa na tA li xr fy f0 f1 f2 f3 ja jb lo hi pl ph cn lk bc' bs' vf' cv mv xf ga gb nT m dB nP pf cB nS sg ln tx fl hD2 k i j ltk (of_decide_eq_true h17) lt g33) pm_X9_judge wI_X9_judge wS_X9_judge wM_X9_164 kX9 hD1 ⟨by decide, by decide⟩ ⟨by decide, by decide⟩ (nle rfl) dX9_could_70 rfl ?_
                  rintro _ _ ⟨rfl, f', b1, b2, rfl⟩
                  have hE := hD2.facts f' b1 b2
                  obtain ⟨hD1, hL, hA, ⟨hF, hV⟩, hU, ⟨hI, hX⟩, hY, hdB, hcB, hrw, hinj, hxr, hct⟩ := id hE
                  show V X (rmD 8 0 0) (mset (mset N va (aI (xg X) 9 f')) fa (.inr (1, [.ref va, .int (bI b1), .int (bI b2)]))) 0 0 [(5, .int (bI true)), (0, .ref dk), (1, .int (nI k)), (2, .int (nI i)), (3, .ref (th i)), (4, .int (nI j))] 73 [.int (fitI nT m nP pf cB ln tx k i j)]
                  refine v_iconst C dX9_could_73 (v := 2) rfl ?_
                  refine v_icmp_ne (tgt := 80) C dX9_could_74 (by decide) (fun h74 => ?_) (fun h74 => ?_)
                  · refine v_iinc (lv' := [(4, .int (nI (j + 1))), (5, .int (bI true)), (0, .ref dk), (1, .int (nI k)), (2, .int (nI i)), (3, .ref (th i))]) C dX9_could_80 5 rfl (nI_1 _) hN (by decide) rfl ?_
                    refine v_goto (tgt := 29) C dX9_could_83 (by decide) ?_
                    refine v_sub (lv' := [(0, .ref dk), (1, .int (nI k)), (2, .int (nI i)), (3, .ref (th i)), (4, .int (nI (j + 1)))]) [2, 3, 4, 5, 0] rfl ?_
                    exact ih29 (j + 1) (mset (mset N va (aI (xg X) 9 f')) fa (.inr (1, [.ref va, .int (bI b1), .int (bI b2)]))) b1 b2 f' (by omega) (fstB_step h2 (by simp [g38, h74])) hE (by omega)
                  · refine v_iload C dX9_could_77 rfl ?_
                    exact v_iret C E dX9_could_79 (nle rfl) (nle rfl) ⟨by simp only [aCould, hx, useI_1 hxu h17]; rw [fstB_hit (i := j) h2 (by simp [g38, h74]) g33]; rfl, hE.W⟩
        exact lp29 (_ + 1) 0 M bc bs vf (Nat.zero_le _) rfl hD (Nat.lt_succ_self _)
    · have hzk := trivial
      show V X (rmD 8 0 0) M 0 0 [(0, .ref dk), (1, .int u), (2, .int (nI i))] 1 [.ref dk]
      refine v_get C kX9 hD1 0 (by decide) wF_X9_10 rfl dX9_could_1 ?_
      refine v_iload_n C dX9_could_4 rfl ?_
      refine v_callV (As := [.int (nI i)]) (rest := []) (b := la) C (c_X3_find (xl X) (xg X) M la ta th mk dn nT m lo hi i lt hL) pm_X3_find wI_X3_find wS_X3_find wM_X9_75 kX3 hL.2.1 ⟨by decide, by decide⟩ ⟨by decide, by decide⟩ (nle rfl) dX9_could_5 rfl (dt1 ?_)
      show V X (rmD 8 0 0) M 0 0 [(0, .ref dk), (1, .int u), (2, .int (nI i))] 8 [.ref (th i)]
      refine v_astore_n (lv' := [(3, .ref (th i)), (0, .ref dk), (1, .int u), (2, .int (nI i))]) C dX9_could_8 hN (by decide) rfl ?_
      refine v_aload_n C dX9_could_9 rfl ?_
      refine v_get C kX9 hD1 3 (by decide) wF_X9_33 rfl dX9_could_10 ?_
      refine v_iload_n C dX9_could_13 rfl ?_
      refine v_callV (As := [.int u]) (rest := []) (b := ua) C (c_X8_hasN (xl X) (xg X) M ua sa xa na tA nS sg ln tx u hnu hU) pm_X8_has wI_X8_has wS_X8_has wM_X9_150 kX8 hU.2.1 ⟨by decide, by decide⟩ ⟨by decide, by decide⟩ (nle rfl) dX9_could_14 rfl (dt1 ?_)
      show V X (rmD 8 0 0) M 0 0 [(3, .ref (th i)), (0, .ref dk), (1, .int u), (2, .int (nI i))] 17 [.int (bI false)]
      refine v_ifb_eq (tgt := 24) C dX9_could_17 (by decide) (fun h17 => ?_) (fun hbad => absurd hbad (by decide))
      refine v_iconst C dX9_could_24 (v := (-1)) rfl ?_
      exact v_iret C E dX9_could_25 (nle rfl) (nle rfl) ⟨(by rw [(aFit_U (d := 0) (Or.inl (useI_no hxu))).2]), hD.W⟩
  · have hzi := trivial
    show V X (rmD 8 0 0) M 0 0 [(0, .ref dk), (1, .int u), (2, .int t)] 0 []
    refine v_aload_n C dX9_could_0 rfl ?_
    rcases idx_cases 5 (by decide) u with ⟨k, ltk, rfl, hxu⟩ | ⟨hnu, hxu⟩
    · have hzk := trivial
      show V X (rmD 8 0 0) M 0 0 [(0, .ref dk), (1, .int (nI k)), (2, .int t)] 1 [.ref dk]
      refine v_get C kX9 hD1 0 (by decide) wF_X9_10 rfl dX9_could_1 ?_
      refine v_iload_n C dX9_could_4 rfl ?_
      refine v_callV (As := [.int t]) (rest := []) (b := la) C (c_X3_findN (xl X) (xg X) M la ta th mk dn nT m lo hi t hn hL) pm_X3_find wI_X3_find wS_X3_find wM_X9_75 kX3 hL.2.1 ⟨by decide, by decide⟩ ⟨by decide, by decide⟩ (nle rfl) dX9_could_5 rfl (dt1 ?_)
      show V X (rmD 8 0 0) M 0 0 [(0, .ref dk), (1, .int (nI k)), (2, .int t)] 8 [.null]
      refine v_astore_nN (lv' := [(3, .null), (0, .ref dk), (1, .int (nI k)), (2, .int t)]) C dX9_could_8 hN (by decide) rfl ?_
      refine v_aload_n C dX9_could_9 rfl ?_
      refine v_get C kX9 hD1 3 (by decide) wF_X9_33 rfl dX9_could_10 ?_
      refine v_iload_n C dX9_could_13 rfl ?_
      refine v_callV (As := [.int (nI k)]) (rest := []) (b := ua) C (c_X8_has (xl X) (xg X) M ua sa xa na tA nS sg ln tx k ltk hU) pm_X8_has wI_X8_has wS_X8_has wM_X9_150 kX8 hU.2.1 ⟨by decide, by decide⟩ ⟨by decide, by decide⟩ (nle rfl) dX9_could_14 rfl (dt1 ?_)
      show V X (rmD 8 0 0) M 0 0 [(3, .null), (0, .ref dk), (1, .int (nI k)), (2, .int t)] 17 [.int (bI (decide (0 < ln k)))]
      refine v_ifb_eq (tgt := 24) C dX9_could_17 (by decide) (fun h17 => ?_) (fun h17 => ?_)
      · refine v_iconst C dX9_could_24 (v := (-1)) rfl ?_
        exact v_iret C E dX9_could_25 (nle rfl) (nle rfl) ⟨(by rw [(aFit_U (d := 0) (Or.inr hx)).2]), hD.W⟩
      · refine v_aload_nN C dX9_could_20 rfl ?_
        refine v_ifnonnullN C dX9_could_21 ?_
        refine v_iconst C dX9_could_24 (v := (-1)) rfl ?_
        exact v_iret C E dX9_could_25 (nle rfl) (nle rfl) ⟨(by rw [(aFit_U (d := 0) (Or.inr hx)).2]), hD.W⟩
    · have hzk := trivial
      show V X (rmD 8 0 0) M 0 0 [(0, .ref dk), (1, .int u), (2, .int t)] 1 [.ref dk]
      refine v_get C kX9 hD1 0 (by decide) wF_X9_10 rfl dX9_could_1 ?_
      refine v_iload_n C dX9_could_4 rfl ?_
      refine v_callV (As := [.int t]) (rest := []) (b := la) C (c_X3_findN (xl X) (xg X) M la ta th mk dn nT m lo hi t hn hL) pm_X3_find wI_X3_find wS_X3_find wM_X9_75 kX3 hL.2.1 ⟨by decide, by decide⟩ ⟨by decide, by decide⟩ (nle rfl) dX9_could_5 rfl (dt1 ?_)
      show V X (rmD 8 0 0) M 0 0 [(0, .ref dk), (1, .int u), (2, .int t)] 8 [.null]
      refine v_astore_nN (lv' := [(3, .null), (0, .ref dk), (1, .int u), (2, .int t)]) C dX9_could_8 hN (by decide) rfl ?_
      refine v_aload_n C dX9_could_9 rfl ?_
      refine v_get C kX9 hD1 3 (by decide) wF_X9_33 rfl dX9_could_10 ?_
      refine v_iload_n C dX9_could_13 rfl ?_
      refine v_callV (As := [.int u]) (rest := []) (b := ua) C (c_X8_hasN (xl X) (xg X) M ua sa xa na tA nS sg ln tx u hnu hU) pm_X8_has wI_X8_has wS_X8_has wM_X9_150 kX8 hU.2.1 ⟨by decide, by decide⟩ ⟨by decide, by decide⟩ (nle rfl) dX9_could_14 rfl (dt1 ?_)
      show V X (rmD 8 0 0) M 0 0 [(3, .null), (0, .ref dk), (1, .int u), (2, .int t)] 17 [.int (bI false)]
      refine v_ifb_eq (tgt := 24) C dX9_could_17 (by decide) (fun h17 => ?_) (fun hbad => absurd hbad (by decide))
      refine v_iconst C dX9_could_24 (v := (-1)) rfl ?_
      exact v_iret C E dX9_could_25 (nle rfl) (nle rfl) ⟨(by rw [(aFit_U (d := 0) (Or.inr hx)).2]), hD.W⟩

set_option maxHeartbeats 4000000 in
set_option maxRecDepth 100000 in
theorem c_X9_all (l : Launch) (g : Gm) (M : Mem) (dk : Nat) (la ta : Nat) (th mk dn : Nat → Nat) (al pt : Nat) (pa ca ka ra : Nat → Nat) (fa va : Nat) (ua sa xa na : Nat) (tA : Nat → Nat) (li xr : Nat) (fy f0 f1 f2 f3 ja jb : Nat) (lo hi pl ph : Nat → Int64) (cn lk : Nat → Nat → Int32) (bc bs : Bool) (vf : Nat → Int32) (cv mv : Int32) (xf : Nat → Int32) (ga gb : Nat → Int64) (nT : Nat) (m : Nat → Nat → Nat) (dB : Nat → Nat → Bool) (nP : Nat) (pf : Nat → Nat → Nat) (cB : Nat → Nat → Bool) (nS : Nat) (sg : Nat → Int32) (ln : Nat → Nat) (tx : Nat → Nat → Int32) (fl : Nat → Nat → Nat) (hD : DeskA g M dk la ta th mk dn al pt pa ca ka ra fa va ua sa xa na tA li xr fy f0 f1 f2 f3 ja jb lo hi pl ph cn lk bc bs vf cv mv xf ga gb nT m dB nP pf cB nS sg ln tx fl) (u d zz : Int32) : Ct l g yX9_all cX9_all 7 (some .int) 8 0 0 [.ref dk, .int u, .int d, .int zz] M (fun v N => v = some (.int (aAll nT m nP pf cB ln tx u d zz)) ∧ DeskW g N dk nT m dB nP pf cB nS sg ln tx fl) := by
  refine Ct.of (by decide) (Nat.le_of_ble_eq_true rfl) ?_
  intro X hXl hXg hN C E
  subst hXl; subst hXg
  show V X (rmD 8 0 0) M 0 0 [(0, .ref dk), (1, .int u), (2, .int d), (3, .int zz)] 0 []
  obtain ⟨hD1, hL, hA, ⟨hF, hV⟩, hU, ⟨hI, hX⟩, hY, hdB, hcB, hrw, hinj, hxr, hct⟩ := id hD
  have h12 := hL.1
  have h10 := hA.1
  rcases idx_cases 5 (by decide) u with ⟨k, ltk, rfl, hxu⟩ | ⟨hnu, hxu⟩
  · have hzk := trivial
    show V X (rmD 8 0 0) M 0 0 [(0, .ref dk), (1, .int (nI k)), (2, .int d), (3, .int zz)] 0 []
    refine v_aload_n C dX9_all_0 rfl ?_
    refine v_get C kX9 hD1 3 (by decide) wF_X9_33 rfl dX9_all_1 ?_
    refine v_iload_n C dX9_all_4 rfl ?_
    refine v_callV (As := [.int (nI k)]) (rest := []) (b := ua) C (c_X8_has (xl X) (xg X) M ua sa xa na tA nS sg ln tx k ltk hU) pm_X8_has wI_X8_has wS_X8_has wM_X9_150 kX8 hU.2.1 ⟨by decide, by decide⟩ ⟨by decide, by decide⟩ (nle rfl) dX9_all_5 rfl (dt1 ?_)
    show V X (rmD 8 0 0) M 0 0 [(0, .ref dk), (1, .int (nI k)), (2, .int d), (3, .int zz)] 8 [.int (bI (decide (0 < ln k)))]
    refine v_ifb_ne (tgt := 13) C dX9_all_8 (by decide) (fun h8 => ?_) (fun h8 => ?_)
    · refine v_iload_n C dX9_all_13 rfl ?_
      refine v_callS (As := [.int d]) (rest := []) C (c_X9_isDay (xl X) (xg X) d M) pm_X9_isDay wT_X9_isDay wM_X9_59 ⟨by decide, by decide⟩ ⟨by decide, by decide⟩ (nle rfl) dX9_all_14 rfl (dt1 ?_)
      show V X (rmD 8 0 0) M 0 0 [(0, .ref dk), (1, .int (nI k)), (2, .int d), (3, .int zz)] 17 [.int (bI (qin d 0 99))]
      refine v_ifb_eq (tgt := 29) C dX9_all_17 (by decide) (fun h17 => ?_) (fun h17 => ?_)
      · refine v_bipush C dX9_all_29 (v := (-2)) rfl ?_
        exact v_iret C E dX9_all_31 (nle rfl) (nle rfl) ⟨by first | (simp [aAll, useI_1 hxu h8, h17, h26]; done) | simp [aAll, useI_1 hxu h8, h17], hD.W⟩
      · refine v_iload_n C dX9_all_20 rfl ?_
        refine v_iconst C dX9_all_21 (v := 0) rfl ?_
        refine v_iconst C dX9_all_22 (v := 2) rfl ?_
        refine v_callS (As := [.int zz, .int 0, .int 2]) (rest := []) C (c_X9_isWithin (xl X) (xg X) zz 0 2 M) pm_X9_isWithin wT_X9_isWithin wM_X9_55 ⟨by decide, by decide⟩ ⟨by decide, by decide⟩ (nle rfl) dX9_all_23 rfl (dt1 ?_)
        show V X (rmD 8 0 0) M 0 0 [(0, .ref dk), (1, .int (nI k)), (2, .int d), (3, .int zz)] 26 [.int (bI (qin zz 0 2))]
        refine v_ifb_ne (tgt := 32) C dX9_all_26 (by decide) (fun h26 => ?_) (fun h26 => ?_)
        · obtain ⟨e, hLe, hje, rfl⟩ := qin_nJ (x := d) (L := 0) (N := 99) (by decide) (by decide) h17
          obtain ⟨z, hLz, hjz, rfl⟩ := qin_nJ (x := zz) (L := 0) (N := 2) (by decide) (by decide) h26
          show V X (rmD 8 0 0) M 0 0 [(0, .ref dk), (1, .int (nI k)), (2, .int (nI e)), (3, .int (nI z))] 32 []
          refine v_iconst C dX9_all_32 (v := 0) rfl ?_
          refine v_istore (lv' := [(4, .int 0), (0, .ref dk), (1, .int (nI k)), (2, .int (nI e)), (3, .int (nI z))]) C dX9_all_33 hN (by decide) rfl ?_
          refine v_iconst C dX9_all_35 (v := 0) rfl ?_
          refine v_istore (lv' := [(5, .int 0), (4, .int 0), (0, .ref dk), (1, .int (nI k)), (2, .int (nI e)), (3, .int (nI z))]) C dX9_all_36 hN (by decide) rfl ?_
          refine v_sub (lv' := [(0, .ref dk), (1, .int (nI k)), (2, .int (nI e)), (3, .int (nI z)), (4, .int 0), (5, .int 0)]) [2, 3, 4, 5, 1, 0] rfl ?_
          have lp38 : ∀ (mm : Nat) (j : Nat) (N : Mem) (bc' : Bool) (bs' : Bool) (vf' : Nat → Int32) (h1 : j ≤ nT) (hD2 : DeskA (xg X) N dk la ta th mk dn al pt pa ca ka ra fa va ua sa xa na tA li xr fy f0 f1 f2 f3 ja jb lo hi pl ph cn lk bc' bs' vf' cv mv xf ga gb nT m dB nP pf cB nS sg ln tx fl), nT - j < mm → V X (rmD 8 0 0) N 0 0 [(0, .ref dk), (1, .int (nI k)), (2, .int (nI e)), (3, .int (nI z)), (4, .int (orB (fun i => decide (fitI nT m nP pf cB ln tx k i e = nI z)) j)), (5, .int (nI j))] 38 [] := by
            intro mm
            induction mm with
            | zero => intro j N bc' bs' vf' h1 hD2 hmu; exact absurd hmu (Nat.not_lt_zero _)
            | succ mm ih38 =>
              intro j N bc' bs' vf' h1 hD2 hmu
              obtain ⟨hD1, hL, hA, ⟨hF, hV⟩, hU, ⟨hI, hX⟩, hY, hdB, hcB, hrw, hinj, hxr, hct⟩ := id hD2
              refine v_iload C dX9_all_38 rfl ?_
              refine v_aload_n C dX9_all_40 rfl ?_
              refine v_get C kX9 hD1 0 (by decide) wF_X9_10 rfl dX9_all_41 ?_
              refine v_callV (As := []) (rest := [.int (nI j)]) (b := la) C (c_X3_size (xl X) (xg X) N la ta th mk dn nT m lo hi hL) pm_X3_size wI_X3_size wS_X3_size wM_X9_171 kX3 hL.2.1 ⟨by decide, by decide⟩ ⟨by decide, by decide⟩ (nle rfl) dX9_all_44 rfl (dt1 ?_)
              show V X (rmD 8 0 0) N 0 0 [(0, .ref dk), (1, .int (nI k)), (2, .int (nI e)), (3, .int (nI z)), (4, .int (orB (fun i => decide (fitI nT m nP pf cB ln tx k i e = nI z)) j)), (5, .int (nI j))] 47 [.int (nI nT), .int (nI j)]
              refine v_icmp_ge (tgt := 93) C dX9_all_47 (by decide) (fun h47 => ?_) (fun h47 => ?_)
              · refine v_iload C dX9_all_93 rfl ?_
                exact v_iret C E dX9_all_95 (nle rfl) (nle rfl) ⟨by simp only [aAll, useI_1 hxu h8, h17, h26, Bool.and_self, if_true]; rw [nI_clamp (n := e) (by omega), show j = nT from Nat.le_antisymm h1 (nI_leN (by omega) (by omega) h47)], hD2.W⟩
              · have g47 := nI_nleN (by omega) (by omega) h47
                refine v_aload_n C dX9_all_50 rfl ?_
                refine v_get C kX9 hD1 0 (by decide) wF_X9_10 rfl dX9_all_51 ?_
                refine v_iload C dX9_all_54 rfl ?_
                refine v_callV (As := [.int (nI j)]) (rest := []) (b := la) C (c_X3_find (xl X) (xg X) N la ta th mk dn nT m lo hi j g47 hL) pm_X3_find wI_X3_find wS_X3_find wM_X9_75 kX3 hL.2.1 ⟨by decide, by decide⟩ ⟨by decide, by decide⟩ (nle rfl) dX9_all_56 rfl (dt1 ?_)
                show V X (rmD 8 0 0) N 0 0 [(0, .ref dk), (1, .int (nI k)), (2, .int (nI e)), (3, .int (nI z)), (4, .int (orB (fun i => decide (fitI nT m nP pf cB ln tx k i e = nI z)) j)), (5, .int (nI j))] 59 [.ref (th j)]
                refine v_astore (lv' := [(6, .ref (th j)), (0, .ref dk), (1, .int (nI k)), (2, .int (nI e)), (3, .int (nI z)), (4, .int (orB (fun i => decide (fitI nT m nP pf cB ln tx k i e = nI z)) j)), (5, .int (nI j))]) C dX9_all_59 hN (by decide) rfl ?_
                refine v_aload C dX9_all_61 rfl ?_
                refine v_ifnull C dX9_all_63 ?_
                refine v_aload_n C dX9_all_66 rfl ?_
                refine v_iload_n C dX9_all_67 rfl ?_
                refine v_aload C dX9_all_68 rfl ?_
                refine v_iload_n C dX9_all_70 rfl ?_
                refine v_callV (As := [.int (nI k), .ref (th j), .int (nI e)]) (rest := []) (b := dk) C (c_X9_judge (xl X) (xg X) N dk la ta th mk dn al pt pa ca ka ra fa va ua sa xa na tA li xr fy f0 f1 f2 f3 ja jb lo hi pl ph cn lk bc' bs' vf' cv mv xf ga gb nT m dB nP pf cB nS sg ln tx fl hD2 k j e ltk (of_decide_eq_true h8) g47 (by omega)) pm_X9_judge wI_X9_judge wS_X9_judge wM_X9_164 kX9 hD1 ⟨by decide, by decide⟩ ⟨by decide, by decide⟩ (nle rfl) dX9_all_71 rfl ?_
                rintro _ _ ⟨rfl, f', b1, b2, rfl⟩
                have hE := hD2.facts f' b1 b2
                obtain ⟨hD1, hL, hA, ⟨hF, hV⟩, hU, ⟨hI, hX⟩, hY, hdB, hcB, hrw, hinj, hxr, hct⟩ := id hE
                show V X (rmD 8 0 0) (mset (mset N va (aI (xg X) 9 f')) fa (.inr (1, [.ref va, .int (bI b1), .int (bI b2)]))) 0 0 [(6, .ref (th j)), (0, .ref dk), (1, .int (nI k)), (2, .int (nI e)), (3, .int (nI z)), (4, .int (orB (fun i => decide (fitI nT m nP pf cB ln tx k i e = nI z)) j)), (5, .int (nI j))] 74 [.int (fitI nT m nP pf cB ln tx k j e)]
                refine v_iload_n C dX9_all_74 rfl ?_
                refine v_icmp_ne (tgt := 87) C dX9_all_75 (by decide) (fun h75 => ?_) (fun h75 => ?_)
                · rw [← orB_f (p := fun i => decide (fitI nT m nP pf cB ln tx k i e = nI z)) (n := j) (by simpa using h75)]
                  show V X (rmD 8 0 0) (mset (mset N va (aI (xg X) 9 f')) fa (.inr (1, [.ref va, .int (bI b1), .int (bI b2)]))) 0 0 [(6, .ref (th j)), (0, .ref dk), (1, .int (nI k)), (2, .int (nI e)), (3, .int (nI z)), (4, .int (orB (fun i => decide (fitI nT m nP pf cB ln tx k i e = nI z)) (j + 1))), (5, .int (nI j))] 87 []
                  refine v_iinc (lv' := [(5, .int (nI (j + 1))), (6, .ref (th j)), (0, .ref dk), (1, .int (nI k)), (2, .int (nI e)), (3, .int (nI z)), (4, .int (orB (fun i => decide (fitI nT m nP pf cB ln tx k i e = nI z)) (j + 1)))]) C dX9_all_87 6 rfl (nI_1 _) hN (by decide) rfl ?_
                  refine v_goto (tgt := 38) C dX9_all_90 (by decide) ?_
                  refine v_sub (lv' := [(0, .ref dk), (1, .int (nI k)), (2, .int (nI e)), (3, .int (nI z)), (4, .int (orB (fun i => decide (fitI nT m nP pf cB ln tx k i e = nI z)) (j + 1))), (5, .int (nI (j + 1)))]) [2, 3, 4, 5, 6, 0] rfl ?_
                  exact ih38 (j + 1) (mset (mset N va (aI (xg X) 9 f')) fa (.inr (1, [.ref va, .int (bI b1), .int (bI b2)]))) b1 b2 f' (by omega) hE (by omega)
                · refine v_iload C dX9_all_78 rfl ?_
                  refine v_iconst C dX9_all_80 (v := 1) rfl ?_
                  refine v_iload C dX9_all_81 rfl ?_
                  refine v_ishl C dX9_all_83 ?_
                  refine v_ior C dX9_all_84 ?_
                  refine v_istore (lv' := [(4, .int ((orB (fun i => decide (fitI nT m nP pf cB ln tx k i e = nI z)) j) ||| (1 <<< ((nI j) &&& 31)))), (6, .ref (th j)), (0, .ref dk), (1, .int (nI k)), (2, .int (nI e)), (3, .int (nI z)), (5, .int (nI j))]) C dX9_all_85 hN (by decide) rfl ?_
                  rw [← orB_t (p := fun i => decide (fitI nT m nP pf cB ln tx k i e = nI z)) (n := j) (by simpa using h75)]
                  show V X (rmD 8 0 0) (mset (mset N va (aI (xg X) 9 f')) fa (.inr (1, [.ref va, .int (bI b1), .int (bI b2)]))) 0 0 [(4, .int (orB (fun i => decide (fitI nT m nP pf cB ln tx k i e = nI z)) (j + 1))), (6, .ref (th j)), (0, .ref dk), (1, .int (nI k)), (2, .int (nI e)), (3, .int (nI z)), (5, .int (nI j))] 87 []
                  refine v_iinc (lv' := [(5, .int (nI (j + 1))), (4, .int (orB (fun i => decide (fitI nT m nP pf cB ln tx k i e = nI z)) (j + 1))), (6, .ref (th j)), (0, .ref dk), (1, .int (nI k)), (2, .int (nI e)), (3, .int (nI z))]) C dX9_all_87 6 rfl (nI_1 _) hN (by decide) rfl ?_
                  refine v_goto (tgt := 38) C dX9_all_90 (by decide) ?_
                  refine v_sub (lv' := [(0, .ref dk), (1, .int (nI k)), (2, .int (nI e)), (3, .int (nI z)), (4, .int (orB (fun i => decide (fitI nT m nP pf cB ln tx k i e = nI z)) (j + 1))), (5, .int (nI (j + 1)))]) [3, 4, 5, 6, 1, 0] rfl ?_
                  exact ih38 (j + 1) (mset (mset N va (aI (xg X) 9 f')) fa (.inr (1, [.ref va, .int (bI b1), .int (bI b2)]))) b1 b2 f' (by omega) hE (by omega)
          exact lp38 (_ + 1) 0 M bc bs vf (Nat.zero_le _) hD (Nat.lt_succ_self _)
        · refine v_bipush C dX9_all_29 (v := (-2)) rfl ?_
          exact v_iret C E dX9_all_31 (nle rfl) (nle rfl) ⟨by first | (simp [aAll, useI_1 hxu h8, h17, h26]; done) | simp [aAll, useI_1 hxu h8, h17], hD.W⟩
    · refine v_iconst C dX9_all_11 (v := (-1)) rfl ?_
      exact v_iret C E dX9_all_12 (nle rfl) (nle rfl) ⟨by simp only [aAll, useI_0 hxu h8], hD.W⟩
  · have hzk := trivial
    show V X (rmD 8 0 0) M 0 0 [(0, .ref dk), (1, .int u), (2, .int d), (3, .int zz)] 0 []
    refine v_aload_n C dX9_all_0 rfl ?_
    refine v_get C kX9 hD1 3 (by decide) wF_X9_33 rfl dX9_all_1 ?_
    refine v_iload_n C dX9_all_4 rfl ?_
    refine v_callV (As := [.int u]) (rest := []) (b := ua) C (c_X8_hasN (xl X) (xg X) M ua sa xa na tA nS sg ln tx u hnu hU) pm_X8_has wI_X8_has wS_X8_has wM_X9_150 kX8 hU.2.1 ⟨by decide, by decide⟩ ⟨by decide, by decide⟩ (nle rfl) dX9_all_5 rfl (dt1 ?_)
    show V X (rmD 8 0 0) M 0 0 [(0, .ref dk), (1, .int u), (2, .int d), (3, .int zz)] 8 [.int (bI false)]
    refine v_ifb_ne (tgt := 13) C dX9_all_8 (by decide) (fun hbad => absurd hbad (by decide)) (fun h8 => ?_)
    refine v_iconst C dX9_all_11 (v := (-1)) rfl ?_
    exact v_iret C E dX9_all_12 (nle rfl) (nle rfl) ⟨by simp only [aAll, useI_no hxu], hD.W⟩


/-! The desk's methods: what it only tells. -/
theorem cov_see {qf : Nat → Nat} {B B' : Nat → Bool} (h : ∀ c, c < 96 → B c = B' c) {c : Nat} (hc : c < 96) : covN qf B c = covN qf B' c := by
  unfold covN
  rw [h c hc]
theorem look_see {m : Nat → Nat → Nat} {nT : Nat} {qf : Nat → Nat} {B B' : Nat → Bool} {lk : Nat → Int32} (h : ∀ c, c < 96 → B c = B' c) (hk : ∀ c, c < 96 → lk c = nI (lookN m nT qf c)) {c : Nat} (hc : c < 96) : lookI qf B lk c = seeI m nT qf B' c := by
  unfold lookI seeI
  rw [cov_see h hc, hk c hc]
set_option maxHeartbeats 4000000 in
set_option maxRecDepth 100000 in
theorem c_X9_of (l : Launch) (g : Gm) (M : Mem) (dk : Nat) (la ta : Nat) (th mk dn : Nat → Nat) (al pt : Nat) (pa ca ka ra : Nat → Nat) (fa va : Nat) (ua sa xa na : Nat) (tA : Nat → Nat) (li xr : Nat) (fy f0 f1 f2 f3 ja jb : Nat) (lo hi pl ph : Nat → Int64) (cn lk : Nat → Nat → Int32) (bc bs : Bool) (vf : Nat → Int32) (cv mv : Int32) (xf : Nat → Int32) (ga gb : Nat → Int64) (nT : Nat) (m : Nat → Nat → Nat) (dB : Nat → Nat → Bool) (nP : Nat) (pf : Nat → Nat → Nat) (cB : Nat → Nat → Bool) (nS : Nat) (sg : Nat → Int32) (ln : Nat → Nat) (tx : Nat → Nat → Int32) (fl : Nat → Nat → Nat) (hD : DeskA g M dk la ta th mk dn al pt pa ca ka ra fa va ua sa xa na tA li xr fy f0 f1 f2 f3 ja jb lo hi pl ph cn lk bc bs vf cv mv xf ga gb nT m dB nP pf cB nS sg ln tx fl) (t w : Int32) : Ct l g yX9_of cX9_of 4 (some .int) 8 0 0 [.ref dk, .int t, .int w] M (fun v N => v = some (.int (aOf nT m t w)) ∧ N = M) := by
  refine Ct.of (by decide) (Nat.le_of_ble_eq_true rfl) ?_
  intro X hXl hXg hN C E
  subst hXl; subst hXg
  show V X (rmD 8 0 0) M 0 0 [(0, .ref dk), (1, .int t), (2, .int w)] 0 []
  obtain ⟨hD1, hL, hA, ⟨hF, hV⟩, hU, ⟨hI, hX⟩, hY, hdB, hcB, hrw, hinj, hxr, hct⟩ := id hD
  have h12 := hL.1
  have h10 := hA.1
  rcases idx_cases nT (by omega) t with ⟨i, lt, rfl, hx⟩ | ⟨hn, hx⟩
  · have hzi := trivial
    show V X (rmD 8 0 0) M 0 0 [(0, .ref dk), (1, .int (nI i)), (2, .int w)] 0 []
    refine v_aload_n C dX9_of_0 rfl ?_
    refine v_get C kX9 hD1 0 (by decide) wF_X9_10 rfl dX9_of_1 ?_
    refine v_iload_n C dX9_of_4 rfl ?_
    refine v_callV (As := [.int (nI i)]) (rest := []) (b := la) C (c_X3_find (xl X) (xg X) M la ta th mk dn nT m lo hi i lt hL) pm_X3_find wI_X3_find wS_X3_find wM_X9_75 kX3 hL.2.1 ⟨by decide, by decide⟩ ⟨by decide, by decide⟩ (nle rfl) dX9_of_5 rfl (dt1 ?_)
    show V X (rmD 8 0 0) M 0 0 [(0, .ref dk), (1, .int (nI i)), (2, .int w)] 8 [.ref (th i)]
    refine v_astore_n (lv' := [(3, .ref (th i)), (0, .ref dk), (1, .int (nI i)), (2, .int w)]) C dX9_of_8 hN (by decide) rfl ?_
    refine v_aload_n C dX9_of_9 rfl ?_
    refine v_ifnonnull (tgt := 15) C dX9_of_10 (by decide) ?_
    refine v_iload_n C dX9_of_15 rfl ?_
    refine v_iconst C dX9_of_16 (v := 0) rfl ?_
    refine v_bipush C dX9_of_17 (v := 10) rfl ?_
    refine v_callS (As := [.int w, .int 0, .int 10]) (rest := []) C (c_X9_isWithin (xl X) (xg X) w 0 10 M) pm_X9_isWithin wT_X9_isWithin wM_X9_55 ⟨by decide, by decide⟩ ⟨by decide, by decide⟩ (nle rfl) dX9_of_19 rfl (dt1 ?_)
    show V X (rmD 8 0 0) M 0 0 [(3, .ref (th i)), (0, .ref dk), (1, .int (nI i)), (2, .int w)] 22 [.int (bI (qin w 0 10))]
    refine v_ifb_ne (tgt := 28) C dX9_of_22 (by decide) (fun h22 => ?_) (fun h22 => ?_)
    · obtain ⟨j, hLj, hjj, rfl⟩ := qin_nJ (x := w) (L := 0) (N := 10) (by decide) (by decide) h22
      show V X (rmD 8 0 0) M 0 0 [(3, .ref (th i)), (0, .ref dk), (1, .int (nI i)), (2, .int (nI j))] 28 []
      refine v_aload_n C dX9_of_28 rfl ?_
      refine v_iload_n C dX9_of_29 rfl ?_
      refine v_callV (As := [.int (nI j)]) (rest := []) (b := th i) C (c_X6_mark (xl X) (xg X) M (th i) (mk i) (dn i) (nI i) (fun w => nI (m i w)) j (by omega) ((hL.2.2.2 i lt).1) ((hL.2.2.2 i lt).2.1)) pm_X6_mark wI_X6_mark wS_X6_mark wM_X9_79 kX6 ((hL.2.2.2 i lt).1) ⟨by decide, by decide⟩ ⟨by decide, by decide⟩ (nle rfl) dX9_of_30 rfl (dt1 ?_)
      show V X (rmD 8 0 0) M 0 0 [(3, .ref (th i)), (0, .ref dk), (1, .int (nI i)), (2, .int (nI j))] 33 [.int (nI (m i j))]
      exact v_iret C E dX9_of_33 (nle rfl) (nle rfl) ⟨by simp [aOf, hx, h22, nI_clamp (n := j) (by omega)], rfl⟩
    · refine v_bipush C dX9_of_25 (v := (-2)) rfl ?_
      exact v_iret C E dX9_of_27 (nle rfl) (nle rfl) ⟨by simp [aOf, hx, h22], rfl⟩
  · have hzi := trivial
    show V X (rmD 8 0 0) M 0 0 [(0, .ref dk), (1, .int t), (2, .int w)] 0 []
    refine v_aload_n C dX9_of_0 rfl ?_
    refine v_get C kX9 hD1 0 (by decide) wF_X9_10 rfl dX9_of_1 ?_
    refine v_iload_n C dX9_of_4 rfl ?_
    refine v_callV (As := [.int t]) (rest := []) (b := la) C (c_X3_findN (xl X) (xg X) M la ta th mk dn nT m lo hi t hn hL) pm_X3_find wI_X3_find wS_X3_find wM_X9_75 kX3 hL.2.1 ⟨by decide, by decide⟩ ⟨by decide, by decide⟩ (nle rfl) dX9_of_5 rfl (dt1 ?_)
    show V X (rmD 8 0 0) M 0 0 [(0, .ref dk), (1, .int t), (2, .int w)] 8 [.null]
    refine v_astore_nN (lv' := [(3, .null), (0, .ref dk), (1, .int t), (2, .int w)]) C dX9_of_8 hN (by decide) rfl ?_
    refine v_aload_nN C dX9_of_9 rfl ?_
    refine v_ifnonnullN C dX9_of_10 ?_
    refine v_iconst C dX9_of_13 (v := (-1)) rfl ?_
    exact v_iret C E dX9_of_14 (nle rfl) (nle rfl) ⟨by simp [aOf, hx], rfl⟩

set_option maxHeartbeats 4000000 in
set_option maxRecDepth 100000 in
theorem c_X9_at (l : Launch) (g : Gm) (M : Mem) (dk : Nat) (la ta : Nat) (th mk dn : Nat → Nat) (al pt : Nat) (pa ca ka ra : Nat → Nat) (fa va : Nat) (ua sa xa na : Nat) (tA : Nat → Nat) (li xr : Nat) (fy f0 f1 f2 f3 ja jb : Nat) (lo hi pl ph : Nat → Int64) (cn lk : Nat → Nat → Int32) (bc bs : Bool) (vf : Nat → Int32) (cv mv : Int32) (xf : Nat → Int32) (ga gb : Nat → Int64) (nT : Nat) (m : Nat → Nat → Nat) (dB : Nat → Nat → Bool) (nP : Nat) (pf : Nat → Nat → Nat) (cB : Nat → Nat → Bool) (nS : Nat) (sg : Nat → Int32) (ln : Nat → Nat) (tx : Nat → Nat → Int32) (fl : Nat → Nat → Nat) (hD : DeskA g M dk la ta th mk dn al pt pa ca ka ra fa va ua sa xa na tA li xr fy f0 f1 f2 f3 ja jb lo hi pl ph cn lk bc bs vf cv mv xf ga gb nT m dB nP pf cB nS sg ln tx fl) (c d : Int32) : Ct l g yX9_at cX9_at 3 (some .int) 8 0 0 [.ref dk, .int c, .int d] M (fun v N => v = some (.int (aAt nT m c d)) ∧ N = M) := by
  refine Ct.of (by decide) (Nat.le_of_ble_eq_true rfl) ?_
  intro X hXl hXg hN C E
  subst hXl; subst hXg
  show V X (rmD 8 0 0) M 0 0 [(0, .ref dk), (1, .int c), (2, .int d)] 0 []
  obtain ⟨hD1, hL, hA, ⟨hF, hV⟩, hU, ⟨hI, hX⟩, hY, hdB, hcB, hrw, hinj, hxr, hct⟩ := id hD
  have h12 := hL.1
  have h10 := hA.1
  refine v_iload_n C dX9_at_0 rfl ?_
  refine v_callS (As := [.int c]) (rest := []) C (c_X9_isCell (xl X) (xg X) c M) pm_X9_isCell wT_X9_isCell wM_X9_89 ⟨by decide, by decide⟩ ⟨by decide, by decide⟩ (nle rfl) dX9_at_1 rfl (dt1 ?_)
  show V X (rmD 8 0 0) M 0 0 [(0, .ref dk), (1, .int c), (2, .int d)] 4 [.int (bI (qin c 0 95))]
  refine v_ifb_eq (tgt := 14) C dX9_at_4 (by decide) (fun h4 => ?_) (fun h4 => ?_)
  · refine v_bipush C dX9_at_14 (v := (-2)) rfl ?_
    exact v_iret C E dX9_at_16 (nle rfl) (nle rfl) ⟨by first | (simp [aAt, h4, h11]; done) | simp [aAt, h4], rfl⟩
  · refine v_iload_n C dX9_at_7 rfl ?_
    refine v_callS (As := [.int d]) (rest := []) C (c_X9_isDay (xl X) (xg X) d M) pm_X9_isDay wT_X9_isDay wM_X9_59 ⟨by decide, by decide⟩ ⟨by decide, by decide⟩ (nle rfl) dX9_at_8 rfl (dt1 ?_)
    show V X (rmD 8 0 0) M 0 0 [(0, .ref dk), (1, .int c), (2, .int d)] 11 [.int (bI (qin d 0 99))]
    refine v_ifb_ne (tgt := 17) C dX9_at_11 (by decide) (fun h11 => ?_) (fun h11 => ?_)
    · obtain ⟨j, hLj, hjj, rfl⟩ := qin_nJ (x := c) (L := 0) (N := 95) (by decide) (by decide) h4
      obtain ⟨e, hLe, hje, rfl⟩ := qin_nJ (x := d) (L := 0) (N := 99) (by decide) (by decide) h11
      show V X (rmD 8 0 0) M 0 0 [(0, .ref dk), (1, .int (nI j)), (2, .int (nI e))] 17 []
      refine v_aload_n C dX9_at_17 rfl ?_
      refine v_get C kX9 hD1 0 (by decide) wF_X9_10 rfl dX9_at_18 ?_
      refine v_iload_n C dX9_at_21 rfl ?_
      refine v_iload_n C dX9_at_22 rfl ?_
      refine v_callV (As := [.int (nI j), .int (nI e)]) (rest := []) (b := la) C (c_X3_counting (xl X) (xg X) M la ta th mk dn nT m lo hi j e (by omega) (by omega) hL) pm_X3_counting wI_X3_counting wS_X3_counting wM_X9_92 kX3 hL.2.1 ⟨by decide, by decide⟩ ⟨by decide, by decide⟩ (nle rfl) dX9_at_23 rfl (dt1 ?_)
      show V X (rmD 8 0 0) M 0 0 [(0, .ref dk), (1, .int (nI j)), (2, .int (nI e))] 26 [.int (oI (bst m (j % 12) (j / 12) e nT))]
      exact v_iret C E dX9_at_26 (nle rfl) (nle rfl) ⟨by simp [aAt, h11, h4, nI_clamp (n := j) (by omega), nI_clamp (n := e) (by omega)], rfl⟩
    · refine v_bipush C dX9_at_14 (v := (-2)) rfl ?_
      exact v_iret C E dX9_at_16 (nle rfl) (nle rfl) ⟨by first | (simp [aAt, h4, h11]; done) | simp [aAt, h4], rfl⟩

set_option maxHeartbeats 4000000 in
set_option maxRecDepth 100000 in
theorem c_X9_shows (l : Launch) (g : Gm) (M : Mem) (dk : Nat) (la ta : Nat) (th mk dn : Nat → Nat) (al pt : Nat) (pa ca ka ra : Nat → Nat) (fa va : Nat) (ua sa xa na : Nat) (tA : Nat → Nat) (li xr : Nat) (fy f0 f1 f2 f3 ja jb : Nat) (lo hi pl ph : Nat → Int64) (cn lk : Nat → Nat → Int32) (bc bs : Bool) (vf : Nat → Int32) (cv mv : Int32) (xf : Nat → Int32) (ga gb : Nat → Int64) (nT : Nat) (m : Nat → Nat → Nat) (dB : Nat → Nat → Bool) (nP : Nat) (pf : Nat → Nat → Nat) (cB : Nat → Nat → Bool) (nS : Nat) (sg : Nat → Int32) (ln : Nat → Nat) (tx : Nat → Nat → Int32) (fl : Nat → Nat → Nat) (hD : DeskA g M dk la ta th mk dn al pt pa ca ka ra fa va ua sa xa na tA li xr fy f0 f1 f2 f3 ja jb lo hi pl ph cn lk bc bs vf cv mv xf ga gb nT m dB nP pf cB nS sg ln tx fl) (p c : Int32) : Ct l g yX9_shows cX9_shows 4 (some .int) 8 0 0 [.ref dk, .int p, .int c] M (fun v N => v = some (.int (aShows nT m nP pf cB p c)) ∧ N = M) := by
  refine Ct.of (by decide) (Nat.le_of_ble_eq_true rfl) ?_
  intro X hXl hXg hN C E
  subst hXl; subst hXg
  show V X (rmD 8 0 0) M 0 0 [(0, .ref dk), (1, .int p), (2, .int c)] 0 []
  obtain ⟨hD1, hL, hA, ⟨hF, hV⟩, hU, ⟨hI, hX⟩, hY, hdB, hcB, hrw, hinj, hxr, hct⟩ := id hD
  have h12 := hL.1
  have h10 := hA.1
  rcases idx_cases nP (by omega) p with ⟨i, lt, rfl, hx⟩ | ⟨hn, hx⟩
  · have hzi := trivial
    show V X (rmD 8 0 0) M 0 0 [(0, .ref dk), (1, .int (nI i)), (2, .int c)] 0 []
    refine v_aload_n C dX9_shows_0 rfl ?_
    refine v_get C kX9 hD1 1 (by decide) wF_X9_19 rfl dX9_shows_1 ?_
    refine v_iload_n C dX9_shows_4 rfl ?_
    refine v_callV (As := [.int (nI i)]) (rest := []) (b := al) C (c_X0_find (xl X) (xg X) M al pt pa ca ka ra nP pf pl ph cn lk i lt hA) pm_X0_find wI_X0_find wS_X0_find wM_X9_109 kX0 hA.2.1 ⟨by decide, by decide⟩ ⟨by decide, by decide⟩ (nle rfl) dX9_shows_5 rfl (dt1 ?_)
    show V X (rmD 8 0 0) M 0 0 [(0, .ref dk), (1, .int (nI i)), (2, .int c)] 8 [.ref (pa i)]
    refine v_astore_n (lv' := [(3, .ref (pa i)), (0, .ref dk), (1, .int (nI i)), (2, .int c)]) C dX9_shows_8 hN (by decide) rfl ?_
    refine v_aload_n C dX9_shows_9 rfl ?_
    refine v_ifnonnull (tgt := 15) C dX9_shows_10 (by decide) ?_
    refine v_iload_n C dX9_shows_15 rfl ?_
    refine v_callS (As := [.int c]) (rest := []) C (c_X9_isCell (xl X) (xg X) c M) pm_X9_isCell wT_X9_isCell wM_X9_89 ⟨by decide, by decide⟩ ⟨by decide, by decide⟩ (nle rfl) dX9_shows_16 rfl (dt1 ?_)
    show V X (rmD 8 0 0) M 0 0 [(3, .ref (pa i)), (0, .ref dk), (1, .int (nI i)), (2, .int c)] 19 [.int (bI (qin c 0 95))]
    refine v_ifb_ne (tgt := 25) C dX9_shows_19 (by decide) (fun h19 => ?_) (fun h19 => ?_)
    · obtain ⟨j, hLj, hjj, rfl⟩ := qin_nJ (x := c) (L := 0) (N := 95) (by decide) (by decide) h19
      show V X (rmD 8 0 0) M 0 0 [(3, .ref (pa i)), (0, .ref dk), (1, .int (nI i)), (2, .int (nI j))] 25 []
      refine v_aload_n C dX9_shows_25 rfl ?_
      refine v_iload_n C dX9_shows_26 rfl ?_
      refine v_callV (As := [.int (nI j)]) (rest := []) (b := pa i) C (c_X5_look (xl X) (xg X) M (pa i) (ca i) (ka i) (ra i) (pf i) (pl i) (ph i) (cn i) (lk i) j (by omega) (hA.2.2.2.1 i lt)) pm_X5_look wI_X5_look wS_X5_look wM_X9_116 kX5 ((hA.2.2.2.1 i lt).2.2.1) ⟨by decide, by decide⟩ ⟨by decide, by decide⟩ (nle rfl) dX9_shows_27 rfl (dt1 ?_)
      show V X (rmD 8 0 0) M 0 0 [(3, .ref (pa i)), (0, .ref dk), (1, .int (nI i)), (2, .int (nI j))] 30 [.int (lookI (pf i) (tk (pl i) (ph i)) (lk i) j)]
      exact v_iret C E dX9_shows_30 (nle rfl) (nle rfl) ⟨by simp [aShows, hx, h19, nI_clamp (n := j) (by omega), look_see (hcB i lt) (fun c hc => (hrw i lt c hc).2) (show j < 96 by omega)], rfl⟩
    · refine v_bipush C dX9_shows_22 (v := (-2)) rfl ?_
      exact v_iret C E dX9_shows_24 (nle rfl) (nle rfl) ⟨by simp [aShows, hx, h19], rfl⟩
  · have hzi := trivial
    show V X (rmD 8 0 0) M 0 0 [(0, .ref dk), (1, .int p), (2, .int c)] 0 []
    refine v_aload_n C dX9_shows_0 rfl ?_
    refine v_get C kX9 hD1 1 (by decide) wF_X9_19 rfl dX9_shows_1 ?_
    refine v_iload_n C dX9_shows_4 rfl ?_
    refine v_callV (As := [.int p]) (rest := []) (b := al) C (c_X0_findN (xl X) (xg X) M al pt pa ca ka ra nP pf pl ph cn lk p hn hA) pm_X0_find wI_X0_find wS_X0_find wM_X9_109 kX0 hA.2.1 ⟨by decide, by decide⟩ ⟨by decide, by decide⟩ (nle rfl) dX9_shows_5 rfl (dt1 ?_)
    show V X (rmD 8 0 0) M 0 0 [(0, .ref dk), (1, .int p), (2, .int c)] 8 [.null]
    refine v_astore_nN (lv' := [(3, .null), (0, .ref dk), (1, .int p), (2, .int c)]) C dX9_shows_8 hN (by decide) rfl ?_
    refine v_aload_nN C dX9_shows_9 rfl ?_
    refine v_ifnonnullN C dX9_shows_10 ?_
    refine v_iconst C dX9_shows_13 (v := (-1)) rfl ?_
    exact v_iret C E dX9_shows_14 (nle rfl) (nle rfl) ⟨by simp [aShows, hx], rfl⟩

set_option maxHeartbeats 4000000 in
set_option maxRecDepth 100000 in
theorem c_X9_count (l : Launch) (g : Gm) (M : Mem) (dk : Nat) (la ta : Nat) (th mk dn : Nat → Nat) (al pt : Nat) (pa ca ka ra : Nat → Nat) (fa va : Nat) (ua sa xa na : Nat) (tA : Nat → Nat) (li xr : Nat) (fy f0 f1 f2 f3 ja jb : Nat) (lo hi pl ph : Nat → Int64) (cn lk : Nat → Nat → Int32) (bc bs : Bool) (vf : Nat → Int32) (cv mv : Int32) (xf : Nat → Int32) (ga gb : Nat → Int64) (nT : Nat) (m : Nat → Nat → Nat) (dB : Nat → Nat → Bool) (nP : Nat) (pf : Nat → Nat → Nat) (cB : Nat → Nat → Bool) (nS : Nat) (sg : Nat → Int32) (ln : Nat → Nat) (tx : Nat → Nat → Int32) (fl : Nat → Nat → Nat) (hD : DeskA g M dk la ta th mk dn al pt pa ca ka ra fa va ua sa xa na tA li xr fy f0 f1 f2 f3 ja jb lo hi pl ph cn lk bc bs vf cv mv xf ga gb nT m dB nP pf cB nS sg ln tx fl) (p z : Int32) : Ct l g yX9_count cX9_count 4 (some .int) 8 0 0 [.ref dk, .int p, .int z] M (fun v N => v = some (.int (aCount nT m nP pf cB p z)) ∧ N = M) := by
  refine Ct.of (by decide) (Nat.le_of_ble_eq_true rfl) ?_
  intro X hXl hXg hN C E
  subst hXl; subst hXg
  show V X (rmD 8 0 0) M 0 0 [(0, .ref dk), (1, .int p), (2, .int z)] 0 []
  obtain ⟨hD1, hL, hA, ⟨hF, hV⟩, hU, ⟨hI, hX⟩, hY, hdB, hcB, hrw, hinj, hxr, hct⟩ := id hD
  have h12 := hL.1
  have h10 := hA.1
  rcases idx_cases nP (by omega) p with ⟨i, lt, rfl, hx⟩ | ⟨hn, hx⟩
  · have hzi := trivial
    show V X (rmD 8 0 0) M 0 0 [(0, .ref dk), (1, .int (nI i)), (2, .int z)] 0 []
    refine v_aload_n C dX9_count_0 rfl ?_
    refine v_get C kX9 hD1 1 (by decide) wF_X9_19 rfl dX9_count_1 ?_
    refine v_iload_n C dX9_count_4 rfl ?_
    refine v_callV (As := [.int (nI i)]) (rest := []) (b := al) C (c_X0_find (xl X) (xg X) M al pt pa ca ka ra nP pf pl ph cn lk i lt hA) pm_X0_find wI_X0_find wS_X0_find wM_X9_109 kX0 hA.2.1 ⟨by decide, by decide⟩ ⟨by decide, by decide⟩ (nle rfl) dX9_count_5 rfl (dt1 ?_)
    show V X (rmD 8 0 0) M 0 0 [(0, .ref dk), (1, .int (nI i)), (2, .int z)] 8 [.ref (pa i)]
    refine v_astore_n (lv' := [(3, .ref (pa i)), (0, .ref dk), (1, .int (nI i)), (2, .int z)]) C dX9_count_8 hN (by decide) rfl ?_
    refine v_aload_n C dX9_count_9 rfl ?_
    refine v_ifnonnull (tgt := 15) C dX9_count_10 (by decide) ?_
    refine v_iload_n C dX9_count_15 rfl ?_
    refine v_iconst C dX9_count_16 (v := 0) rfl ?_
    refine v_iconst C dX9_count_17 (v := 3) rfl ?_
    refine v_callS (As := [.int z, .int 0, .int 3]) (rest := []) C (c_X9_isWithin (xl X) (xg X) z 0 3 M) pm_X9_isWithin wT_X9_isWithin wM_X9_55 ⟨by decide, by decide⟩ ⟨by decide, by decide⟩ (nle rfl) dX9_count_18 rfl (dt1 ?_)
    show V X (rmD 8 0 0) M 0 0 [(3, .ref (pa i)), (0, .ref dk), (1, .int (nI i)), (2, .int z)] 21 [.int (bI (qin z 0 3))]
    refine v_ifb_ne (tgt := 27) C dX9_count_21 (by decide) (fun h21 => ?_) (fun h21 => ?_)
    · obtain ⟨j, hLj, hjj, rfl⟩ := qin_nJ (x := z) (L := 0) (N := 3) (by decide) (by decide) h21
      show V X (rmD 8 0 0) M 0 0 [(3, .ref (pa i)), (0, .ref dk), (1, .int (nI i)), (2, .int (nI j))] 27 []
      refine v_aload_n C dX9_count_27 rfl ?_
      refine v_iload_n C dX9_count_28 rfl ?_
      refine v_callV (As := [.int (nI j)]) (rest := []) (b := pa i) C (c_X5_tally (xl X) (xg X) M (pa i) (ca i) (ka i) (ra i) (pf i) (pl i) (ph i) (cn i) (lk i) j (hA.2.2.2.1 i lt)) pm_X5_tally wI_X5_tally wS_X5_tally wM_X9_119 kX5 ((hA.2.2.2.1 i lt).2.2.1) ⟨by decide, by decide⟩ ⟨by decide, by decide⟩ (nle rfl) dX9_count_29 rfl (dt1 ?_)
      show V X (rmD 8 0 0) M 0 0 [(3, .ref (pa i)), (0, .ref dk), (1, .int (nI i)), (2, .int (nI j))] 32 [.int (nI (cntB (fun c => decide (sortI (lookI (pf i) (tk (pl i) (ph i)) (lk i) c) = nI j)) 96))]
      exact v_iret C E dX9_count_32 (nle rfl) (nle rfl) ⟨by simp only [aCount, hx, h21, if_true]; rw [cntB_congr (fun c hc => by rw [look_see (hcB i lt) (fun c hc => (hrw i lt c hc).2) hc])], rfl⟩
    · refine v_bipush C dX9_count_24 (v := (-2)) rfl ?_
      exact v_iret C E dX9_count_26 (nle rfl) (nle rfl) ⟨by simp [aCount, hx, h21], rfl⟩
  · have hzi := trivial
    show V X (rmD 8 0 0) M 0 0 [(0, .ref dk), (1, .int p), (2, .int z)] 0 []
    refine v_aload_n C dX9_count_0 rfl ?_
    refine v_get C kX9 hD1 1 (by decide) wF_X9_19 rfl dX9_count_1 ?_
    refine v_iload_n C dX9_count_4 rfl ?_
    refine v_callV (As := [.int p]) (rest := []) (b := al) C (c_X0_findN (xl X) (xg X) M al pt pa ca ka ra nP pf pl ph cn lk p hn hA) pm_X0_find wI_X0_find wS_X0_find wM_X9_109 kX0 hA.2.1 ⟨by decide, by decide⟩ ⟨by decide, by decide⟩ (nle rfl) dX9_count_5 rfl (dt1 ?_)
    show V X (rmD 8 0 0) M 0 0 [(0, .ref dk), (1, .int p), (2, .int z)] 8 [.null]
    refine v_astore_nN (lv' := [(3, .null), (0, .ref dk), (1, .int p), (2, .int z)]) C dX9_count_8 hN (by decide) rfl ?_
    refine v_aload_nN C dX9_count_9 rfl ?_
    refine v_ifnonnullN C dX9_count_10 ?_
    refine v_iconst C dX9_count_13 (v := (-1)) rfl ?_
    exact v_iret C E dX9_count_14 (nle rfl) (nle rfl) ⟨by simp [aCount, hx], rfl⟩

set_option maxHeartbeats 4000000 in
set_option maxRecDepth 100000 in
theorem c_X9_span (l : Launch) (g : Gm) (M : Mem) (dk : Nat) (la ta : Nat) (th mk dn : Nat → Nat) (al pt : Nat) (pa ca ka ra : Nat → Nat) (fa va : Nat) (ua sa xa na : Nat) (tA : Nat → Nat) (li xr : Nat) (fy f0 f1 f2 f3 ja jb : Nat) (lo hi pl ph : Nat → Int64) (cn lk : Nat → Nat → Int32) (bc bs : Bool) (vf : Nat → Int32) (cv mv : Int32) (xf : Nat → Int32) (ga gb : Nat → Int64) (nT : Nat) (m : Nat → Nat → Nat) (dB : Nat → Nat → Bool) (nP : Nat) (pf : Nat → Nat → Nat) (cB : Nat → Nat → Bool) (nS : Nat) (sg : Nat → Int32) (ln : Nat → Nat) (tx : Nat → Nat → Int32) (fl : Nat → Nat → Nat) (hD : DeskA g M dk la ta th mk dn al pt pa ca ka ra fa va ua sa xa na tA li xr fy f0 f1 f2 f3 ja jb lo hi pl ph cn lk bc bs vf cv mv xf ga gb nT m dB nP pf cB nS sg ln tx fl) (p z e : Int32) : Ct l g yX9_span cX9_span 5 (some .int) 8 0 0 [.ref dk, .int p, .int z, .int e] M (fun v N => v = some (.int (aSpan nP pf p z e)) ∧ N = M) := by
  refine Ct.of (by decide) (Nat.le_of_ble_eq_true rfl) ?_
  intro X hXl hXg hN C E
  subst hXl; subst hXg
  show V X (rmD 8 0 0) M 0 0 [(0, .ref dk), (1, .int p), (2, .int z), (3, .int e)] 0 []
  obtain ⟨hD1, hL, hA, ⟨hF, hV⟩, hU, ⟨hI, hX⟩, hY, hdB, hcB, hrw, hinj, hxr, hct⟩ := id hD
  have h12 := hL.1
  have h10 := hA.1
  rcases idx_cases nP (by omega) p with ⟨i, lt, rfl, hx⟩ | ⟨hn, hx⟩
  · have hzi := trivial
    show V X (rmD 8 0 0) M 0 0 [(0, .ref dk), (1, .int (nI i)), (2, .int z), (3, .int e)] 0 []
    refine v_aload_n C dX9_span_0 rfl ?_
    refine v_get C kX9 hD1 1 (by decide) wF_X9_19 rfl dX9_span_1 ?_
    refine v_iload_n C dX9_span_4 rfl ?_
    refine v_callV (As := [.int (nI i)]) (rest := []) (b := al) C (c_X0_find (xl X) (xg X) M al pt pa ca ka ra nP pf pl ph cn lk i lt hA) pm_X0_find wI_X0_find wS_X0_find wM_X9_109 kX0 hA.2.1 ⟨by decide, by decide⟩ ⟨by decide, by decide⟩ (nle rfl) dX9_span_5 rfl (dt1 ?_)
    show V X (rmD 8 0 0) M 0 0 [(0, .ref dk), (1, .int (nI i)), (2, .int z), (3, .int e)] 8 [.ref (pa i)]
    refine v_astore (lv' := [(4, .ref (pa i)), (0, .ref dk), (1, .int (nI i)), (2, .int z), (3, .int e)]) C dX9_span_8 hN (by decide) rfl ?_
    refine v_aload C dX9_span_10 rfl ?_
    refine v_ifnonnull (tgt := 17) C dX9_span_12 (by decide) ?_
    refine v_iload_n C dX9_span_17 rfl ?_
    refine v_iconst C dX9_span_18 (v := 0) rfl ?_
    refine v_bipush C dX9_span_19 (v := 11) rfl ?_
    refine v_callS (As := [.int z, .int 0, .int 11]) (rest := []) C (c_X9_isWithin (xl X) (xg X) z 0 11 M) pm_X9_isWithin wT_X9_isWithin wM_X9_55 ⟨by decide, by decide⟩ ⟨by decide, by decide⟩ (nle rfl) dX9_span_21 rfl (dt1 ?_)
    show V X (rmD 8 0 0) M 0 0 [(4, .ref (pa i)), (0, .ref dk), (1, .int (nI i)), (2, .int z), (3, .int e)] 24 [.int (bI (qin z 0 11))]
    refine v_ifb_eq (tgt := 36) C dX9_span_24 (by decide) (fun h24 => ?_) (fun h24 => ?_)
    · refine v_bipush C dX9_span_36 (v := (-2)) rfl ?_
      exact v_iret C E dX9_span_38 (nle rfl) (nle rfl) ⟨by first | (simp [aSpan, hx, h24, h33]; done) | simp [aSpan, hx, h24], rfl⟩
    · refine v_iload_n C dX9_span_27 rfl ?_
      refine v_iconst C dX9_span_28 (v := 0) rfl ?_
      refine v_iconst C dX9_span_29 (v := 1) rfl ?_
      refine v_callS (As := [.int e, .int 0, .int 1]) (rest := []) C (c_X9_isWithin (xl X) (xg X) e 0 1 M) pm_X9_isWithin wT_X9_isWithin wM_X9_55 ⟨by decide, by decide⟩ ⟨by decide, by decide⟩ (nle rfl) dX9_span_30 rfl (dt1 ?_)
      show V X (rmD 8 0 0) M 0 0 [(4, .ref (pa i)), (0, .ref dk), (1, .int (nI i)), (2, .int z), (3, .int e)] 33 [.int (bI (qin e 0 1))]
      refine v_ifb_ne (tgt := 39) C dX9_span_33 (by decide) (fun h33 => ?_) (fun h33 => ?_)
      · obtain ⟨j, hLj, hjj, rfl⟩ := qin_nJ (x := z) (L := 0) (N := 11) (by decide) (by decide) h24
        show V X (rmD 8 0 0) M 0 0 [(4, .ref (pa i)), (0, .ref dk), (1, .int (nI i)), (2, .int (nI j)), (3, .int e)] 39 []
        refine v_iload_n C dX9_span_39 rfl ?_
        refine v_if_ne (tgt := 52) C dX9_span_40 (by decide) (fun h40 => ?_) (fun h40 => ?_)
        · refine v_aload C dX9_span_52 rfl ?_
          refine v_iload_n C dX9_span_54 rfl ?_
          refine v_callV (As := [.int (nI j)]) (rest := []) (b := pa i) C (c_X5_greatestHeight (xl X) (xg X) M (pa i) (ca i) (ka i) (ra i) (pf i) (pl i) (ph i) (cn i) (lk i) j (hA.2.2.2.1 i lt)) pm_X5_greatestHeight wI_X5_greatestHeight wS_X5_greatestHeight wM_X9_125 kX5 ((hA.2.2.2.1 i lt).2.2.1) ⟨by decide, by decide⟩ ⟨by decide, by decide⟩ (nle rfl) dX9_span_55 rfl (dt1 ?_)
          show V X (rmD 8 0 0) M 0 0 [(4, .ref (pa i)), (0, .ref dk), (1, .int (nI i)), (2, .int (nI j)), (3, .int e)] 58 [.int (sucI (lstB (fun k => decide (nI ((k + 1) * pf i 4 / 10) = nI j)) 20))]
          exact v_iret C E dX9_span_58 (nle rfl) (nle rfl) ⟨by simp [aSpan, hx, h24, h33, h40, show qin (0 : Int32) 0 1 = true by decide], rfl⟩
        · refine v_aload C dX9_span_43 rfl ?_
          refine v_iload_n C dX9_span_45 rfl ?_
          refine v_callV (As := [.int (nI j)]) (rest := []) (b := pa i) C (c_X5_leastHeight (xl X) (xg X) M (pa i) (ca i) (ka i) (ra i) (pf i) (pl i) (ph i) (cn i) (lk i) j (hA.2.2.2.1 i lt)) pm_X5_leastHeight wI_X5_leastHeight wS_X5_leastHeight wM_X9_122 kX5 ((hA.2.2.2.1 i lt).2.2.1) ⟨by decide, by decide⟩ ⟨by decide, by decide⟩ (nle rfl) dX9_span_46 rfl (dt1 ?_)
          show V X (rmD 8 0 0) M 0 0 [(4, .ref (pa i)), (0, .ref dk), (1, .int (nI i)), (2, .int (nI j)), (3, .int e)] 49 [.int (sucI (fstB (fun k => decide (nI ((k + 1) * pf i 4 / 10) = nI j)) 20))]
          refine v_goto (tgt := 58) C dX9_span_49 (by decide) ?_
          exact v_iret C E dX9_span_58 (nle rfl) (nle rfl) ⟨by simp [aSpan, hx, h24, h33, h40, show qin (0 : Int32) 0 1 = true by decide], rfl⟩
      · refine v_bipush C dX9_span_36 (v := (-2)) rfl ?_
        exact v_iret C E dX9_span_38 (nle rfl) (nle rfl) ⟨by first | (simp [aSpan, hx, h24, h33]; done) | simp [aSpan, hx, h24], rfl⟩
  · have hzi := trivial
    show V X (rmD 8 0 0) M 0 0 [(0, .ref dk), (1, .int p), (2, .int z), (3, .int e)] 0 []
    refine v_aload_n C dX9_span_0 rfl ?_
    refine v_get C kX9 hD1 1 (by decide) wF_X9_19 rfl dX9_span_1 ?_
    refine v_iload_n C dX9_span_4 rfl ?_
    refine v_callV (As := [.int p]) (rest := []) (b := al) C (c_X0_findN (xl X) (xg X) M al pt pa ca ka ra nP pf pl ph cn lk p hn hA) pm_X0_find wI_X0_find wS_X0_find wM_X9_109 kX0 hA.2.1 ⟨by decide, by decide⟩ ⟨by decide, by decide⟩ (nle rfl) dX9_span_5 rfl (dt1 ?_)
    show V X (rmD 8 0 0) M 0 0 [(0, .ref dk), (1, .int p), (2, .int z), (3, .int e)] 8 [.null]
    refine v_astoreN (lv' := [(4, .null), (0, .ref dk), (1, .int p), (2, .int z), (3, .int e)]) C dX9_span_8 hN (by decide) rfl ?_
    refine v_aloadN C dX9_span_10 rfl ?_
    refine v_ifnonnullN C dX9_span_12 ?_
    refine v_iconst C dX9_span_15 (v := (-1)) rfl ?_
    exact v_iret C E dX9_span_16 (nle rfl) (nle rfl) ⟨by simp [aSpan, hx], rfl⟩

theorem unlk_S {m : Nat → Nat → Nat} {nT : Nat} {pf : Nat → Nat → Nat} {cB : Nat → Nat → Bool} {i j : Nat} {B B2 : Nat → Bool} {lk lk2 : Nat → Int32} (h : ∀ c, c < 96 → B c = cB i c) (h2 : ∀ c, c < 96 → B2 c = cB j c) (hk : ∀ c, c < 96 → lk c = nI (lookN m nT (pf i) c)) (hk2 : ∀ c, c < 96 → lk2 c = nI (lookN m nT (pf j) c)) {c : Nat} (hc : c < 96) : unlk (pf i) (pf j) B B2 lk lk2 c = unS m nT pf cB i j c := by
  unfold unlk unS
  rw [look_see h hk hc, look_see h2 hk2 hc, cov_see h hc, cov_see h2 hc]
set_option maxHeartbeats 4000000 in
set_option maxRecDepth 100000 in
theorem c_X9_changed (l : Launch) (g : Gm) (M : Mem) (dk : Nat) (la ta : Nat) (th mk dn : Nat → Nat) (al pt : Nat) (pa ca ka ra : Nat → Nat) (fa va : Nat) (ua sa xa na : Nat) (tA : Nat → Nat) (li xr : Nat) (fy f0 f1 f2 f3 ja jb : Nat) (lo hi pl ph : Nat → Int64) (cn lk : Nat → Nat → Int32) (bc bs : Bool) (vf : Nat → Int32) (cv mv : Int32) (xf : Nat → Int32) (ga gb : Nat → Int64) (nT : Nat) (m : Nat → Nat → Nat) (dB : Nat → Nat → Bool) (nP : Nat) (pf : Nat → Nat → Nat) (cB : Nat → Nat → Bool) (nS : Nat) (sg : Nat → Int32) (ln : Nat → Nat) (tx : Nat → Nat → Int32) (fl : Nat → Nat → Nat) (hD : DeskA g M dk la ta th mk dn al pt pa ca ka ra fa va ua sa xa na tA li xr fy f0 f1 f2 f3 ja jb lo hi pl ph cn lk bc bs vf cv mv xf ga gb nT m dB nP pf cB nS sg ln tx fl) (a b z : Int32) : Ct l g yX9_changed cX9_changed 6 (some .int) 8 0 0 [.ref dk, .int a, .int b, .int z] M (fun v N => v = some (.int (aChanged nT m nP pf cB a b z)) ∧ N = M) := by
  refine Ct.of (by decide) (Nat.le_of_ble_eq_true rfl) ?_
  intro X hXl hXg hN C E
  subst hXl; subst hXg
  show V X (rmD 8 0 0) M 0 0 [(0, .ref dk), (1, .int a), (2, .int b), (3, .int z)] 0 []
  obtain ⟨hD1, hL, hA, ⟨hF, hV⟩, hU, ⟨hI, hX⟩, hY, hdB, hcB, hrw, hinj, hxr, hct⟩ := id hD
  have h12 := hL.1
  have h10 := hA.1
  rcases idx_cases nP (by omega) a with ⟨i, lt, rfl, hx⟩ | ⟨hn, hx⟩
  · have hzi := trivial
    show V X (rmD 8 0 0) M 0 0 [(0, .ref dk), (1, .int (nI i)), (2, .int b), (3, .int z)] 0 []
    refine v_aload_n C dX9_changed_0 rfl ?_
    rcases idx_cases nP (by omega) b with ⟨j, lt2, rfl, hx2⟩ | ⟨hn2, hx2⟩
    · have hzj := trivial
      show V X (rmD 8 0 0) M 0 0 [(0, .ref dk), (1, .int (nI i)), (2, .int (nI j)), (3, .int z)] 1 [.ref dk]
      refine v_get C kX9 hD1 1 (by decide) wF_X9_19 rfl dX9_changed_1 ?_
      refine v_iload_n C dX9_changed_4 rfl ?_
      refine v_callV (As := [.int (nI i)]) (rest := []) (b := al) C (c_X0_find (xl X) (xg X) M al pt pa ca ka ra nP pf pl ph cn lk i lt hA) pm_X0_find wI_X0_find wS_X0_find wM_X9_109 kX0 hA.2.1 ⟨by decide, by decide⟩ ⟨by decide, by decide⟩ (nle rfl) dX9_changed_5 rfl (dt1 ?_)
      show V X (rmD 8 0 0) M 0 0 [(0, .ref dk), (1, .int (nI i)), (2, .int (nI j)), (3, .int z)] 8 [.ref (pa i)]
      refine v_astore (lv' := [(4, .ref (pa i)), (0, .ref dk), (1, .int (nI i)), (2, .int (nI j)), (3, .int z)]) C dX9_changed_8 hN (by decide) rfl ?_
      refine v_aload_n C dX9_changed_10 rfl ?_
      refine v_get C kX9 hD1 1 (by decide) wF_X9_19 rfl dX9_changed_11 ?_
      refine v_iload_n C dX9_changed_14 rfl ?_
      refine v_callV (As := [.int (nI j)]) (rest := []) (b := al) C (c_X0_find (xl X) (xg X) M al pt pa ca ka ra nP pf pl ph cn lk j lt2 hA) pm_X0_find wI_X0_find wS_X0_find wM_X9_109 kX0 hA.2.1 ⟨by decide, by decide⟩ ⟨by decide, by decide⟩ (nle rfl) dX9_changed_15 rfl (dt1 ?_)
      show V X (rmD 8 0 0) M 0 0 [(4, .ref (pa i)), (0, .ref dk), (1, .int (nI i)), (2, .int (nI j)), (3, .int z)] 18 [.ref (pa j)]
      refine v_astore (lv' := [(5, .ref (pa j)), (4, .ref (pa i)), (0, .ref dk), (1, .int (nI i)), (2, .int (nI j)), (3, .int z)]) C dX9_changed_18 hN (by decide) rfl ?_
      refine v_aload C dX9_changed_20 rfl ?_
      refine v_ifnull C dX9_changed_22 ?_
      refine v_aload C dX9_changed_25 rfl ?_
      refine v_ifnull C dX9_changed_27 ?_
      refine v_iload_n C dX9_changed_30 rfl ?_
      refine v_iload_n C dX9_changed_31 rfl ?_
      refine v_icmp_ne (tgt := 37) C dX9_changed_32 (by decide) (fun h32 => ?_) (fun h32 => ?_)
      · have g32 : ¬ i = j := fun q => h32 (by rw [q])
        refine v_iload_n C dX9_changed_37 rfl ?_
        refine v_iconst C dX9_changed_38 (v := 0) rfl ?_
        refine v_iconst C dX9_changed_39 (v := 2) rfl ?_
        refine v_callS (As := [.int z, .int 0, .int 2]) (rest := []) C (c_X9_isWithin (xl X) (xg X) z 0 2 M) pm_X9_isWithin wT_X9_isWithin wM_X9_55 ⟨by decide, by decide⟩ ⟨by decide, by decide⟩ (nle rfl) dX9_changed_40 rfl (dt1 ?_)
        show V X (rmD 8 0 0) M 0 0 [(5, .ref (pa j)), (4, .ref (pa i)), (0, .ref dk), (1, .int (nI i)), (2, .int (nI j)), (3, .int z)] 43 [.int (bI (qin z 0 2))]
        refine v_ifb_ne (tgt := 49) C dX9_changed_43 (by decide) (fun h43 => ?_) (fun h43 => ?_)
        · refine v_iload_n C dX9_changed_49 rfl ?_
          refine v_iconst C dX9_changed_50 (v := 2) rfl ?_
          refine v_icmp_ne (tgt := 62) C dX9_changed_51 (by decide) (fun h51 => ?_) (fun h51 => ?_)
          · refine v_iload_n C dX9_changed_62 rfl ?_
            refine v_if_ne (tgt := 76) C dX9_changed_63 (by decide) (fun h63 => ?_) (fun h63 => ?_)
            · refine v_aload C dX9_changed_76 rfl ?_
              refine v_aload C dX9_changed_78 rfl ?_
              refine v_callV (As := [.ref (pa j)]) (rest := []) (b := pa i) C (c_X5_unlikeByHour (xl X) (xg X) M (pa i) (ca i) (ka i) (ra i) (pf i) (pl i) (ph i) (cn i) (lk i) (pa j) (ca j) (ka j) (ra j) (pf j) (pl j) (ph j) (cn j) (lk j) (hA.2.2.2.1 i lt) (hA.2.2.2.1 j lt2)) pm_X5_unlikeByHour wI_X5_unlikeByHour wS_X5_unlikeByHour wM_X9_134 kX5 ((hA.2.2.2.1 i lt).2.2.1) ⟨by decide, by decide⟩ ⟨by decide, by decide⟩ (nle rfl) dX9_changed_80 rfl (dt1 ?_)
              show V X (rmD 8 0 0) M 0 0 [(5, .ref (pa j)), (4, .ref (pa i)), (0, .ref dk), (1, .int (nI i)), (2, .int (nI j)), (3, .int z)] 83 [.int (nI (cntB (fun c => (decide (lookI (pf i) (tk (pl i) (ph i)) (lk i) c < 10) && decide (lookI (pf j) (tk (pl j) (ph j)) (lk j) c < 10)) && unlk (pf i) (pf j) (tk (pl i) (ph i)) (tk (pl j) (ph j)) (lk i) (lk j) c) 96))]
              exact v_iret C E dX9_changed_83 (nle rfl) (nle rfl) ⟨by simp only [aChanged, hx, hx2, g32, if_false, h43, h51, h63, if_true]; rw [cntB_congr (fun c hc => by rw [unlk_S (m := m) (nT := nT) (pf := pf) (cB := cB) (hcB i lt) (hcB j lt2) (fun c hc => (hrw i lt c hc).2) (fun c hc => (hrw j lt2 c hc).2) hc, look_see (hcB i lt) (fun c hc => (hrw i lt c hc).2) hc, look_see (hcB j lt2) (fun c hc => (hrw j lt2 c hc).2) hc])], rfl⟩
            · refine v_aload C dX9_changed_66 rfl ?_
              refine v_aload C dX9_changed_68 rfl ?_
              refine v_callV (As := [.ref (pa j)]) (rest := []) (b := pa i) C (c_X5_unlike (xl X) (xg X) M (pa i) (ca i) (ka i) (ra i) (pf i) (pl i) (ph i) (cn i) (lk i) (pa j) (ca j) (ka j) (ra j) (pf j) (pl j) (ph j) (cn j) (lk j) (hA.2.2.2.1 i lt) (hA.2.2.2.1 j lt2)) pm_X5_unlike wI_X5_unlike wS_X5_unlike wM_X9_131 kX5 ((hA.2.2.2.1 i lt).2.2.1) ⟨by decide, by decide⟩ ⟨by decide, by decide⟩ (nle rfl) dX9_changed_70 rfl (dt1 ?_)
              show V X (rmD 8 0 0) M 0 0 [(5, .ref (pa j)), (4, .ref (pa i)), (0, .ref dk), (1, .int (nI i)), (2, .int (nI j)), (3, .int z)] 73 [.int (nI (cntB (unlk (pf i) (pf j) (tk (pl i) (ph i)) (tk (pl j) (ph j)) (lk i) (lk j)) 96))]
              refine v_goto (tgt := 83) C dX9_changed_73 (by decide) ?_
              exact v_iret C E dX9_changed_83 (nle rfl) (nle rfl) ⟨by simp only [aChanged, hx, hx2, g32, if_false, h43, h51, h63, if_true]; rw [cntB_congr (fun c hc => unlk_S (m := m) (nT := nT) (pf := pf) (cB := cB) (hcB i lt) (hcB j lt2) (fun c hc => (hrw i lt c hc).2) (fun c hc => (hrw j lt2 c hc).2) hc)]; simp [show qin (0 : Int32) 0 2 = true by decide], rfl⟩
          · refine v_aload C dX9_changed_54 rfl ?_
            refine v_aload C dX9_changed_56 rfl ?_
            refine v_callV (As := [.ref (pa j)]) (rest := []) (b := pa i) C (c_X5_firstUnlike (xl X) (xg X) M (pa i) (ca i) (ka i) (ra i) (pf i) (pl i) (ph i) (cn i) (lk i) (pa j) (ca j) (ka j) (ra j) (pf j) (pl j) (ph j) (cn j) (lk j) (hA.2.2.2.1 i lt) (hA.2.2.2.1 j lt2)) pm_X5_firstUnlike wI_X5_firstUnlike wS_X5_firstUnlike wM_X9_128 kX5 ((hA.2.2.2.1 i lt).2.2.1) ⟨by decide, by decide⟩ ⟨by decide, by decide⟩ (nle rfl) dX9_changed_58 rfl (dt1 ?_)
            show V X (rmD 8 0 0) M 0 0 [(5, .ref (pa j)), (4, .ref (pa i)), (0, .ref dk), (1, .int (nI i)), (2, .int (nI j)), (3, .int z)] 61 [.int (oI (fstB (unlk (pf i) (pf j) (tk (pl i) (ph i)) (tk (pl j) (ph j)) (lk i) (lk j)) 96))]
            exact v_iret C E dX9_changed_61 (nle rfl) (nle rfl) ⟨by rw [h51]; simp only [aChanged, hx, hx2, g32, if_false, show qin (2 : Int32) 0 2 = true by decide, if_true]; rw [fstB_congr (fun c hc => unlk_S (m := m) (nT := nT) (pf := pf) (cB := cB) (hcB i lt) (hcB j lt2) (fun c hc => (hrw i lt c hc).2) (fun c hc => (hrw j lt2 c hc).2) hc)], rfl⟩
        · refine v_bipush C dX9_changed_46 (v := (-2)) rfl ?_
          exact v_iret C E dX9_changed_48 (nle rfl) (nle rfl) ⟨by simp [aChanged, hx, hx2, g32, h43], rfl⟩
      · refine v_iconst C dX9_changed_35 (v := (-1)) rfl ?_
        exact v_iret C E dX9_changed_36 (nle rfl) (nle rfl) ⟨by first | (simp [aChanged, hx, hx2]; done) | simp [aChanged, hx, hx2, nI_eqN (a := i) (b := j) (by omega) (by omega) h32], rfl⟩
    · have hzj := trivial
      show V X (rmD 8 0 0) M 0 0 [(0, .ref dk), (1, .int (nI i)), (2, .int b), (3, .int z)] 1 [.ref dk]
      refine v_get C kX9 hD1 1 (by decide) wF_X9_19 rfl dX9_changed_1 ?_
      refine v_iload_n C dX9_changed_4 rfl ?_
      refine v_callV (As := [.int (nI i)]) (rest := []) (b := al) C (c_X0_find (xl X) (xg X) M al pt pa ca ka ra nP pf pl ph cn lk i lt hA) pm_X0_find wI_X0_find wS_X0_find wM_X9_109 kX0 hA.2.1 ⟨by decide, by decide⟩ ⟨by decide, by decide⟩ (nle rfl) dX9_changed_5 rfl (dt1 ?_)
      show V X (rmD 8 0 0) M 0 0 [(0, .ref dk), (1, .int (nI i)), (2, .int b), (3, .int z)] 8 [.ref (pa i)]
      refine v_astore (lv' := [(4, .ref (pa i)), (0, .ref dk), (1, .int (nI i)), (2, .int b), (3, .int z)]) C dX9_changed_8 hN (by decide) rfl ?_
      refine v_aload_n C dX9_changed_10 rfl ?_
      refine v_get C kX9 hD1 1 (by decide) wF_X9_19 rfl dX9_changed_11 ?_
      refine v_iload_n C dX9_changed_14 rfl ?_
      refine v_callV (As := [.int b]) (rest := []) (b := al) C (c_X0_findN (xl X) (xg X) M al pt pa ca ka ra nP pf pl ph cn lk b hn2 hA) pm_X0_find wI_X0_find wS_X0_find wM_X9_109 kX0 hA.2.1 ⟨by decide, by decide⟩ ⟨by decide, by decide⟩ (nle rfl) dX9_changed_15 rfl (dt1 ?_)
      show V X (rmD 8 0 0) M 0 0 [(4, .ref (pa i)), (0, .ref dk), (1, .int (nI i)), (2, .int b), (3, .int z)] 18 [.null]
      refine v_astoreN (lv' := [(5, .null), (4, .ref (pa i)), (0, .ref dk), (1, .int (nI i)), (2, .int b), (3, .int z)]) C dX9_changed_18 hN (by decide) rfl ?_
      refine v_aload C dX9_changed_20 rfl ?_
      refine v_ifnull C dX9_changed_22 ?_
      refine v_aloadN C dX9_changed_25 rfl ?_
      refine v_ifnullN (tgt := 35) C dX9_changed_27 (by decide) ?_
      refine v_iconst C dX9_changed_35 (v := (-1)) rfl ?_
      exact v_iret C E dX9_changed_36 (nle rfl) (nle rfl) ⟨by first | (simp [aChanged, hx, hx2]; done) | simp [aChanged, hx, hx2, nI_eqN (a := i) (b := j) (by omega) (by omega) h32], rfl⟩
  · have hzi := trivial
    show V X (rmD 8 0 0) M 0 0 [(0, .ref dk), (1, .int a), (2, .int b), (3, .int z)] 0 []
    refine v_aload_n C dX9_changed_0 rfl ?_
    rcases idx_cases nP (by omega) b with ⟨j, lt2, rfl, hx2⟩ | ⟨hn2, hx2⟩
    · have hzj := trivial
      show V X (rmD 8 0 0) M 0 0 [(0, .ref dk), (1, .int a), (2, .int (nI j)), (3, .int z)] 1 [.ref dk]
      refine v_get C kX9 hD1 1 (by decide) wF_X9_19 rfl dX9_changed_1 ?_
      refine v_iload_n C dX9_changed_4 rfl ?_
      refine v_callV (As := [.int a]) (rest := []) (b := al) C (c_X0_findN (xl X) (xg X) M al pt pa ca ka ra nP pf pl ph cn lk a hn hA) pm_X0_find wI_X0_find wS_X0_find wM_X9_109 kX0 hA.2.1 ⟨by decide, by decide⟩ ⟨by decide, by decide⟩ (nle rfl) dX9_changed_5 rfl (dt1 ?_)
      show V X (rmD 8 0 0) M 0 0 [(0, .ref dk), (1, .int a), (2, .int (nI j)), (3, .int z)] 8 [.null]
      refine v_astoreN (lv' := [(4, .null), (0, .ref dk), (1, .int a), (2, .int (nI j)), (3, .int z)]) C dX9_changed_8 hN (by decide) rfl ?_
      refine v_aload_n C dX9_changed_10 rfl ?_
      refine v_get C kX9 hD1 1 (by decide) wF_X9_19 rfl dX9_changed_11 ?_
      refine v_iload_n C dX9_changed_14 rfl ?_
      refine v_callV (As := [.int (nI j)]) (rest := []) (b := al) C (c_X0_find (xl X) (xg X) M al pt pa ca ka ra nP pf pl ph cn lk j lt2 hA) pm_X0_find wI_X0_find wS_X0_find wM_X9_109 kX0 hA.2.1 ⟨by decide, by decide⟩ ⟨by decide, by decide⟩ (nle rfl) dX9_changed_15 rfl (dt1 ?_)
      show V X (rmD 8 0 0) M 0 0 [(4, .null), (0, .ref dk), (1, .int a), (2, .int (nI j)), (3, .int z)] 18 [.ref (pa j)]
      refine v_astore (lv' := [(5, .ref (pa j)), (4, .null), (0, .ref dk), (1, .int a), (2, .int (nI j)), (3, .int z)]) C dX9_changed_18 hN (by decide) rfl ?_
      refine v_aloadN C dX9_changed_20 rfl ?_
      refine v_ifnullN (tgt := 35) C dX9_changed_22 (by decide) ?_
      refine v_iconst C dX9_changed_35 (v := (-1)) rfl ?_
      exact v_iret C E dX9_changed_36 (nle rfl) (nle rfl) ⟨by first | (simp [aChanged, hx, hx2]; done) | simp [aChanged, hx, hx2, nI_eqN (a := i) (b := j) (by omega) (by omega) h32], rfl⟩
    · have hzj := trivial
      show V X (rmD 8 0 0) M 0 0 [(0, .ref dk), (1, .int a), (2, .int b), (3, .int z)] 1 [.ref dk]
      refine v_get C kX9 hD1 1 (by decide) wF_X9_19 rfl dX9_changed_1 ?_
      refine v_iload_n C dX9_changed_4 rfl ?_
      refine v_callV (As := [.int a]) (rest := []) (b := al) C (c_X0_findN (xl X) (xg X) M al pt pa ca ka ra nP pf pl ph cn lk a hn hA) pm_X0_find wI_X0_find wS_X0_find wM_X9_109 kX0 hA.2.1 ⟨by decide, by decide⟩ ⟨by decide, by decide⟩ (nle rfl) dX9_changed_5 rfl (dt1 ?_)
      show V X (rmD 8 0 0) M 0 0 [(0, .ref dk), (1, .int a), (2, .int b), (3, .int z)] 8 [.null]
      refine v_astoreN (lv' := [(4, .null), (0, .ref dk), (1, .int a), (2, .int b), (3, .int z)]) C dX9_changed_8 hN (by decide) rfl ?_
      refine v_aload_n C dX9_changed_10 rfl ?_
      refine v_get C kX9 hD1 1 (by decide) wF_X9_19 rfl dX9_changed_11 ?_
      refine v_iload_n C dX9_changed_14 rfl ?_
      refine v_callV (As := [.int b]) (rest := []) (b := al) C (c_X0_findN (xl X) (xg X) M al pt pa ca ka ra nP pf pl ph cn lk b hn2 hA) pm_X0_find wI_X0_find wS_X0_find wM_X9_109 kX0 hA.2.1 ⟨by decide, by decide⟩ ⟨by decide, by decide⟩ (nle rfl) dX9_changed_15 rfl (dt1 ?_)
      show V X (rmD 8 0 0) M 0 0 [(4, .null), (0, .ref dk), (1, .int a), (2, .int b), (3, .int z)] 18 [.null]
      refine v_astoreN (lv' := [(5, .null), (4, .null), (0, .ref dk), (1, .int a), (2, .int b), (3, .int z)]) C dX9_changed_18 hN (by decide) rfl ?_
      refine v_aloadN C dX9_changed_20 rfl ?_
      refine v_ifnullN (tgt := 35) C dX9_changed_22 (by decide) ?_
      refine v_iconst C dX9_changed_35 (v := (-1)) rfl ?_
      exact v_iret C E dX9_changed_36 (nle rfl) (nle rfl) ⟨by first | (simp [aChanged, hx, hx2]; done) | simp [aChanged, hx, hx2, nI_eqN (a := i) (b := j) (by omega) (by omega) h32], rfl⟩

set_option maxHeartbeats 4000000 in
set_option maxRecDepth 100000 in
theorem c_X9_fault (l : Launch) (g : Gm) (M : Mem) (dk : Nat) (la ta : Nat) (th mk dn : Nat → Nat) (al pt : Nat) (pa ca ka ra : Nat → Nat) (fa va : Nat) (ua sa xa na : Nat) (tA : Nat → Nat) (li xr : Nat) (fy f0 f1 f2 f3 ja jb : Nat) (lo hi pl ph : Nat → Int64) (cn lk : Nat → Nat → Int32) (bc bs : Bool) (vf : Nat → Int32) (cv mv : Int32) (xf : Nat → Int32) (ga gb : Nat → Int64) (nT : Nat) (m : Nat → Nat → Nat) (dB : Nat → Nat → Bool) (nP : Nat) (pf : Nat → Nat → Nat) (cB : Nat → Nat → Bool) (nS : Nat) (sg : Nat → Int32) (ln : Nat → Nat) (tx : Nat → Nat → Int32) (fl : Nat → Nat → Nat) (hD : DeskA g M dk la ta th mk dn al pt pa ca ka ra fa va ua sa xa na tA li xr fy f0 f1 f2 f3 ja jb lo hi pl ph cn lk bc bs vf cv mv xf ga gb nT m dB nP pf cB nS sg ln tx fl)  : Ct l g yX9_fault cX9_fault 1 (some .int) 8 0 0 [.ref dk] M (fun v N => v = some (.int (oI (faultN sg nS))) ∧ N = M) := by
  refine Ct.of (by decide) (Nat.le_of_ble_eq_true rfl) ?_
  intro X hXl hXg hN C E
  subst hXl; subst hXg
  show V X (rmD 8 0 0) M 0 0 [(0, .ref dk)] 0 []
  obtain ⟨hD1, hL, hA, ⟨hF, hV⟩, hU, ⟨hI, hX⟩, hY, hdB, hcB, hrw, hinj, hxr, hct⟩ := id hD
  have h12 := hL.1
  have h10 := hA.1
  refine v_aload_n C dX9_fault_0 rfl ?_
  refine v_get C kX9 hD1 3 (by decide) wF_X9_33 rfl dX9_fault_1 ?_
  refine v_callV (As := []) (rest := []) (b := ua) C (c_X8_firstFault (xl X) (xg X) M ua sa xa na tA nS sg ln tx hU) pm_X8_firstFault wI_X8_firstFault wS_X8_firstFault wM_X9_144 kX8 hU.2.1 ⟨by decide, by decide⟩ ⟨by decide, by decide⟩ (nle rfl) dX9_fault_4 rfl (dt1 ?_)
  show V X (rmD 8 0 0) M 0 0 [(0, .ref dk)] 7 [.int (oI (faultN sg nS))]
  exact v_iret C E dX9_fault_7 (nle rfl) (nle rfl) ⟨rfl, rfl⟩


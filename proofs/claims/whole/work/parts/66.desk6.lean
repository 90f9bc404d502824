/-! The desk's methods that change the land and the album. -/
theorem LandW.tick {g : Gm} {M : Mem} {la ta : Nat} {th mk dn : Nat → Nat} {nT : Nat} {m : Nat → Nat → Nat} {lo hi : Nat → Int64} (hL : LandW g M la ta th mk dn nT m lo hi) {t : Nat} (ht : t < nT) (hne : ∀ u, u < nT → u ≠ t → dn u ≠ dn t) (lo' hi' : Int64) : LandW g (mset M (dn t) (.inr (7, [.long lo', .long hi']))) la ta th mk dn nT m (fun q => if q = t then lo' else lo q) (fun q => if q = t then hi' else hi q) := by
  obtain ⟨h1, h2, h3, h4⟩ := hL
  have e := (h4 t ht).2.2.1
  refine ⟨h1, (mset_ne (cell_ne h2 e (by simp))).trans h2, (mset_ne (cell_ne h3 e (by simp))).trans h3, fun i hi' => ?_⟩
  obtain ⟨q1, q2, q3, q4⟩ := h4 i hi'
  refine ⟨(mset_ne (cell_ne q1 e (by simp))).trans q1, (mset_ne (cell_ne q2 e (by simp))).trans q2, ?_, q4⟩
  by_cases z : i = t
  · rw [z, mset_same]; simp
  · rw [mset_ne (hne i hi' z), q3]; simp [z]
theorem LandW.far {g : Gm} {M : Mem} {la ta : Nat} {th mk dn : Nat → Nat} {nT : Nat} {m : Nat → Nat → Nat} {lo hi : Nat → Int64} (hL : LandW g M la ta th mk dn nT m lo hi) {a : Nat} {x y : Int64} (e : M a = some (.inr (7, [.long x, .long y]))) (hne : ∀ u, u < nT → dn u ≠ a) (f : va_E) : LandW g (mset M a f) la ta th mk dn nT m lo hi := by
  obtain ⟨h1, h2, h3, h4⟩ := hL
  refine ⟨h1, (mset_ne (cell_ne h2 e (by simp))).trans h2, (mset_ne (cell_ne h3 e (by simp))).trans h3, fun i hi' => ?_⟩
  obtain ⟨q1, q2, q3, q4⟩ := h4 i hi'
  exact ⟨(mset_ne (cell_ne q1 e (by simp))).trans q1, (mset_ne (cell_ne q2 e (by simp))).trans q2, (mset_ne (hne i hi')).trans q3, q4⟩
theorem AlbW.far {g : Gm} {M : Mem} {al pt : Nat} {pa ca ka ra : Nat → Nat} {nP : Nat} {pf : Nat → Nat → Nat} {pl ph : Nat → Int64} {cn lk : Nat → Nat → Int32} (hA : AlbW g M al pt pa ca ka ra nP pf pl ph cn lk) {a : Nat} {x y : Int64} (e : M a = some (.inr (7, [.long x, .long y]))) (hne : ∀ p, p < nP → ca p ≠ a) (f : va_E) : AlbW g (mset M a f) al pt pa ca ka ra nP pf pl ph cn lk := by
  obtain ⟨a1, a2, a3, a4, a5⟩ := hA
  refine ⟨a1, (mset_ne (cell_ne a2 e (by simp))).trans a2, (mset_ne (cell_ne a3 e (by simp))).trans a3, fun j hj => ?_, a5⟩
  have hq := a4 j hj
  exact hq.frame (mset_ne (cell_ne hq.2.2.1 e (by simp))) (mset_ne (hne j hj)) (mset_ne (cell_ne hq.2.2.2.2.1 e (by simp))) (mset_ne (cell_ne hq.2.2.2.2.2 e (by simp)))
theorem AlbW.tick {g : Gm} {M : Mem} {al pt : Nat} {pa ca ka ra : Nat → Nat} {nP : Nat} {pf : Nat → Nat → Nat} {pl ph : Nat → Int64} {cn lk : Nat → Nat → Int32} (hA : AlbW g M al pt pa ca ka ra nP pf pl ph cn lk) {p : Nat} (hp : p < nP) (lo' hi' : Int64) : AlbW g (mset M (ca p) (.inr (7, [.long lo', .long hi']))) al pt pa ca ka ra nP pf (fun q => if q = p then lo' else pl q) (fun q => if q = p then hi' else ph q) cn lk := by
  obtain ⟨a1, a2, a3, a4, a5⟩ := hA
  have e := (a4 p hp).2.2.2.1
  refine ⟨a1, (mset_ne (cell_ne a2 e (by simp))).trans a2, (mset_ne (cell_ne a3 e (by simp))).trans a3, fun j hj => ?_, a5⟩
  have hq := a4 j hj
  by_cases z : j = p
  · rw [z] at hq ⊢
    simp only [if_true]
    obtain ⟨q1, q2, q3, q4, q5, q6⟩ := hq
    exact ⟨q1, q2, (mset_ne (cell_ne q3 e (by simp))).trans q3, mset_same _ _ _, (mset_ne (cell_ne q5 e (by simp))).trans q5, (mset_ne (cell_ne q6 e (by simp))).trans q6⟩
  · simp only [if_neg z]
    exact hq.frame (mset_ne (cell_ne hq.2.2.1 e (by simp))) (mset_ne (((a5 j hj p hp).1 z).2.2)) (mset_ne (cell_ne hq.2.2.2.2.1 e (by simp))) (mset_ne (cell_ne hq.2.2.2.2.2 e (by simp)))
theorem LandW.mark {g : Gm} {M : Mem} {la ta : Nat} {th mk dn : Nat → Nat} {nT : Nat} {m : Nat → Nat → Nat} {lo hi : Nat → Int64} (hL : LandW g M la ta th mk dn nT m lo hi) {t : Nat} (ht : t < nT) (hne : ∀ u, u < nT → u ≠ t → mk u ≠ mk t) {m' : Nat → Nat → Nat} (hm : ∀ u, u ≠ t → m' u = m u) (ok : okM (m' t)) : LandW g (mset M (mk t) (aI g 11 (fun w => nI (m' t w)))) la ta th mk dn nT m' lo hi := by
  obtain ⟨h1, h2, h3, h4⟩ := hL
  have e := (h4 t ht).2.1
  refine ⟨h1, (mset_ne (cell_ne h2 e (by simp))).trans h2, (mset_ne (cell_ne h3 e (by simp))).trans h3, fun i hi' => ?_⟩
  obtain ⟨q1, q2, q3, q4⟩ := h4 i hi'
  refine ⟨(mset_ne (cell_ne q1 e (by simp))).trans q1, ?_, (mset_ne (cell_ne q3 e (by simp))).trans q3, ?_⟩
  · by_cases z : i = t
    · rw [z, mset_same]
    · rw [mset_ne (hne i hi' z), q2, hm i z]
  · by_cases z : i = t
    · rw [z]; exact ok
    · rw [hm i z]; exact q4
theorem DeskA.did {g : Gm} {M : Mem} {dk : Nat} {la ta : Nat} {th mk dn : Nat → Nat} {al pt : Nat} {pa ca ka ra : Nat → Nat} {fa va : Nat} {ua sa xa na : Nat} {tA : Nat → Nat} {li xr : Nat} {fy f0 f1 f2 f3 ja jb : Nat} {lo hi pl ph : Nat → Int64} {cn lk : Nat → Nat → Int32} {bc bs : Bool} {vf : Nat → Int32} {cv mv : Int32} {xf : Nat → Int32} {ga gb : Nat → Int64} {nT : Nat} {m : Nat → Nat → Nat} {dB : Nat → Nat → Bool} {nP : Nat} {pf : Nat → Nat → Nat} {cB : Nat → Nat → Bool} {nS : Nat} {sg : Nat → Int32} {ln : Nat → Nat} {tx : Nat → Nat → Int32} {fl : Nat → Nat → Nat} (hD : DeskA g M dk la ta th mk dn al pt pa ca ka ra fa va ua sa xa na tA li xr fy f0 f1 f2 f3 ja jb lo hi pl ph cn lk bc bs vf cv mv xf ga gb nT m dB nP pf cB nS sg ln tx fl) {t j : Nat} {b : Bool} {lo' hi' : Int64} (ht : t < nT) (hk : ∀ i, i < 128 → tk lo' hi' i = if i = j then b else tk (lo t) (hi t) i) : DeskA g (mset M (dn t) (.inr (7, [.long lo', .long hi']))) dk la ta th mk dn al pt pa ca ka ra fa va ua sa xa na tA li xr fy f0 f1 f2 f3 ja jb (fun q => if q = t then lo' else lo q) (fun q => if q = t then hi' else hi q) pl ph cn lk bc bs vf cv mv xf ga gb nT m (bU dB t j b) nP pf cB nS sg ln tx fl := by
  obtain ⟨hD1, hL, hA, ⟨hF, hV⟩, hU, ⟨hI, hX⟩, hY, hdB, hcB, hrw, hinj, hxr, hct⟩ := id hD
  have e := (hL.2.2.2 t ht).2.2.1
  have K : ∀ {ks : List Nat}, 7 ∉ ks → Keep M (mset M (dn t) (.inr (7, [.long lo', .long hi']))) ks := fun h => Keep.set e h _
  refine ⟨K (ks := [9]) (by decide) _ _ hD1 (by simp [kd]), hL.tick ht (fun u hu hn => (hinj u hu t ht hn).2) lo' hi', hA.far e (fun p hp => hct p hp t ht) _, ⟨K (ks := [1, 109]) (by decide) _ _ hF (by simp [kd]), K (ks := [1, 109]) (by decide) _ _ hV (by simp [kd])⟩, hU.keepN (K (by decide)), ⟨K (ks := [4]) (by decide) _ _ hI (by simp [kd]), K (ks := [196]) (by decide) _ _ hX (by simp [kd])⟩, hY.keep (K (by decide)), fun u hu d hd => ?_, hcB, hrw, hinj, hxr, hct⟩
  unfold bU
  by_cases z : u = t
  · rw [z]
    simp only [if_true, true_and]
    rw [hk d (by omega), hdB t ht d hd]
  · simp only [if_neg z, z, false_and, if_false]
    exact hdB u hu d hd
theorem DeskA.cloud {g : Gm} {M : Mem} {dk : Nat} {la ta : Nat} {th mk dn : Nat → Nat} {al pt : Nat} {pa ca ka ra : Nat → Nat} {fa va : Nat} {ua sa xa na : Nat} {tA : Nat → Nat} {li xr : Nat} {fy f0 f1 f2 f3 ja jb : Nat} {lo hi pl ph : Nat → Int64} {cn lk : Nat → Nat → Int32} {bc bs : Bool} {vf : Nat → Int32} {cv mv : Int32} {xf : Nat → Int32} {ga gb : Nat → Int64} {nT : Nat} {m : Nat → Nat → Nat} {dB : Nat → Nat → Bool} {nP : Nat} {pf : Nat → Nat → Nat} {cB : Nat → Nat → Bool} {nS : Nat} {sg : Nat → Int32} {ln : Nat → Nat} {tx : Nat → Nat → Int32} {fl : Nat → Nat → Nat} (hD : DeskA g M dk la ta th mk dn al pt pa ca ka ra fa va ua sa xa na tA li xr fy f0 f1 f2 f3 ja jb lo hi pl ph cn lk bc bs vf cv mv xf ga gb nT m dB nP pf cB nS sg ln tx fl) {p j : Nat} {b : Bool} {lo' hi' : Int64} (hp : p < nP) (hk : ∀ i, i < 128 → tk lo' hi' i = if i = j then b else tk (pl p) (ph p) i) : DeskA g (mset M (ca p) (.inr (7, [.long lo', .long hi']))) dk la ta th mk dn al pt pa ca ka ra fa va ua sa xa na tA li xr fy f0 f1 f2 f3 ja jb lo hi (fun q => if q = p then lo' else pl q) (fun q => if q = p then hi' else ph q) cn lk bc bs vf cv mv xf ga gb nT m dB nP pf (bU cB p j b) nS sg ln tx fl := by
  obtain ⟨hD1, hL, hA, ⟨hF, hV⟩, hU, ⟨hI, hX⟩, hY, hdB, hcB, hrw, hinj, hxr, hct⟩ := id hD
  have e := (hA.2.2.2.1 p hp).2.2.2.1
  have K : ∀ {ks : List Nat}, 7 ∉ ks → Keep M (mset M (ca p) (.inr (7, [.long lo', .long hi']))) ks := fun h => Keep.set e h _
  refine ⟨K (ks := [9]) (by decide) _ _ hD1 (by simp [kd]), hL.far e (fun u hu => Ne.symm (hct p hp u hu)) _, hA.tick hp lo' hi', ⟨K (ks := [1, 109]) (by decide) _ _ hF (by simp [kd]), K (ks := [1, 109]) (by decide) _ _ hV (by simp [kd])⟩, hU.keepN (K (by decide)), ⟨K (ks := [4]) (by decide) _ _ hI (by simp [kd]), K (ks := [196]) (by decide) _ _ hX (by simp [kd])⟩, hY.keep (K (by decide)), hdB, fun u hu d hd => ?_, hrw, hinj, hxr, hct⟩
  unfold bU
  by_cases z : u = p
  · rw [z]
    simp only [if_true, true_and]
    rw [hk d (by omega), hcB p hp d hd]
  · simp only [if_neg z, z, false_and, if_false]
    exact hcB u hu d hd
set_option maxHeartbeats 4000000 in
set_option maxRecDepth 100000 in
theorem c_X9_did (l : Launch) (g : Gm) (M : Mem) (dk : Nat) (la ta : Nat) (th mk dn : Nat → Nat) (al pt : Nat) (pa ca ka ra : Nat → Nat) (fa va : Nat) (ua sa xa na : Nat) (tA : Nat → Nat) (li xr : Nat) (fy f0 f1 f2 f3 ja jb : Nat) (lo hi pl ph : Nat → Int64) (cn lk : Nat → Nat → Int32) (bc bs : Bool) (vf : Nat → Int32) (cv mv : Int32) (xf : Nat → Int32) (ga gb : Nat → Int64) (nT : Nat) (m : Nat → Nat → Nat) (dB : Nat → Nat → Bool) (nP : Nat) (pf : Nat → Nat → Nat) (cB : Nat → Nat → Bool) (nS : Nat) (sg : Nat → Int32) (ln : Nat → Nat) (tx : Nat → Nat → Int32) (fl : Nat → Nat → Nat) (hD : DeskA g M dk la ta th mk dn al pt pa ca ka ra fa va ua sa xa na tA li xr fy f0 f1 f2 f3 ja jb lo hi pl ph cn lk bc bs vf cv mv xf ga gb nT m dB nP pf cB nS sg ln tx fl) (t d : Int32) (b : Bool) : Ct l g yX9_did cX9_did 5 (some .int) 8 0 0 [.ref dk, .int t, .int d, .int (bI b)] M (fun v N => v = some (.int (aDid nT dB t d)) ∧ DeskW g N dk nT m (sDid nT dB t d b) nP pf cB nS sg ln tx fl) := by
  refine Ct.of (by decide) (Nat.le_of_ble_eq_true rfl) ?_
  intro X hXl hXg hN C E
  subst hXl; subst hXg
  show V X (rmD 8 0 0) M 0 0 [(0, .ref dk), (1, .int t), (2, .int d), (3, .int (bI b))] 0 []
  obtain ⟨hD1, hL, hA, ⟨hF, hV⟩, hU, ⟨hI, hX⟩, hY, hdB, hcB, hrw, hinj, hxr, hct⟩ := id hD
  have h12 := hL.1
  have h10 := hA.1
  rcases idx_cases nT (by omega) t with ⟨i, lt, rfl, hx⟩ | ⟨hn, hx⟩
  · have hzi := trivial
    show V X (rmD 8 0 0) M 0 0 [(0, .ref dk), (1, .int (nI i)), (2, .int d), (3, .int (bI b))] 0 []
    refine v_aload_n C dX9_did_0 rfl ?_
    refine v_get C kX9 hD1 0 (by decide) wF_X9_10 rfl dX9_did_1 ?_
    refine v_iload_n C dX9_did_4 rfl ?_
    refine v_callV (As := [.int (nI i)]) (rest := []) (b := la) C (c_X3_find (xl X) (xg X) M la ta th mk dn nT m lo hi i lt hL) pm_X3_find wI_X3_find wS_X3_find wM_X9_75 kX3 hL.2.1 ⟨by decide, by decide⟩ ⟨by decide, by decide⟩ (nle rfl) dX9_did_5 rfl (dt1 ?_)
    show V X (rmD 8 0 0) M 0 0 [(0, .ref dk), (1, .int (nI i)), (2, .int d), (3, .int (bI b))] 8 [.ref (th i)]
    refine v_astore (lv' := [(4, .ref (th i)), (0, .ref dk), (1, .int (nI i)), (2, .int d), (3, .int (bI b))]) C dX9_did_8 hN (by decide) rfl ?_
    refine v_aload C dX9_did_10 rfl ?_
    refine v_ifnonnull (tgt := 17) C dX9_did_12 (by decide) ?_
    refine v_iload_n C dX9_did_17 rfl ?_
    refine v_callS (As := [.int d]) (rest := []) C (c_X9_isDay (xl X) (xg X) d M) pm_X9_isDay wT_X9_isDay wM_X9_59 ⟨by decide, by decide⟩ ⟨by decide, by decide⟩ (nle rfl) dX9_did_18 rfl (dt1 ?_)
    show V X (rmD 8 0 0) M 0 0 [(4, .ref (th i)), (0, .ref dk), (1, .int (nI i)), (2, .int d), (3, .int (bI b))] 21 [.int (bI (qin d 0 99))]
    refine v_ifb_ne (tgt := 27) C dX9_did_21 (by decide) (fun h21 => ?_) (fun h21 => ?_)
    · obtain ⟨j, hLj, hjj, rfl⟩ := qin_nJ (x := d) (L := 0) (N := 99) (by decide) (by decide) h21
      show V X (rmD 8 0 0) M 0 0 [(4, .ref (th i)), (0, .ref dk), (1, .int (nI i)), (2, .int (nI j)), (3, .int (bI b))] 27 []
      refine v_aload C dX9_did_27 rfl ?_
      refine v_iload_n C dX9_did_29 rfl ?_
      refine v_iload_n C dX9_did_30 rfl ?_
      refine v_callV (As := [.int (nI j), .int (bI b)]) (rest := []) (b := th i) C (c_X6_tickDoing (xl X) (xg X) M (th i) (mk i) (dn i) (nI i) (lo i) (hi i) j b (by omega) (hL.2.2.2 i lt).1 (hL.2.2.2 i lt).2.2.1) pm_X6_tickDoing wI_X6_tickDoing wS_X6_tickDoing wM_X9_203 kX6 ((hL.2.2.2 i lt).1) ⟨by decide, by decide⟩ ⟨by decide, by decide⟩ (nle rfl) dX9_did_31 rfl ?_
      rintro _ _ ⟨rfl, lo', hi', rfl, hk⟩
      have hE := hD.did lt hk
      show V X (rmD 8 0 0) (mset M (dn i) (.inr (7, [.long lo', .long hi']))) 0 0 [(4, .ref (th i)), (0, .ref dk), (1, .int (nI i)), (2, .int (nI j)), (3, .int (bI b))] 34 [.int (bI (tk (lo i) (hi i) j))]
      refine v_ifb_eq (tgt := 41) C dX9_did_34 (by decide) (fun h34 => ?_) (fun h34 => ?_)
      · refine v_iconst C dX9_did_41 (v := 0) rfl ?_
        exact v_iret C E dX9_did_42 (nle rfl) (nle rfl) ⟨by simp only [aDid, hx, h21, if_true, nI_clamp (n := j) (show j < 2 ^ 31 by omega)]; rw [← hdB i lt j (by omega), h34]; rfl, by simp only [sDid, hx, h21, if_true, nI_clamp (n := j) (show j < 2 ^ 31 by omega)]; exact hE.W⟩
      · refine v_iconst C dX9_did_37 (v := 1) rfl ?_
        refine v_goto (tgt := 42) C dX9_did_38 (by decide) ?_
        exact v_iret C E dX9_did_42 (nle rfl) (nle rfl) ⟨by simp only [aDid, hx, h21, if_true, nI_clamp (n := j) (show j < 2 ^ 31 by omega)]; rw [← hdB i lt j (by omega), h34]; rfl, by simp only [sDid, hx, h21, if_true, nI_clamp (n := j) (show j < 2 ^ 31 by omega)]; exact hE.W⟩
    · refine v_bipush C dX9_did_24 (v := (-2)) rfl ?_
      exact v_iret C E dX9_did_26 (nle rfl) (nle rfl) ⟨by simp [aDid, hx, h21], by simp only [sDid, hx, h21]; exact hD.W⟩
  · have hzi := trivial
    show V X (rmD 8 0 0) M 0 0 [(0, .ref dk), (1, .int t), (2, .int d), (3, .int (bI b))] 0 []
    refine v_aload_n C dX9_did_0 rfl ?_
    refine v_get C kX9 hD1 0 (by decide) wF_X9_10 rfl dX9_did_1 ?_
    refine v_iload_n C dX9_did_4 rfl ?_
    refine v_callV (As := [.int t]) (rest := []) (b := la) C (c_X3_findN (xl X) (xg X) M la ta th mk dn nT m lo hi t hn hL) pm_X3_find wI_X3_find wS_X3_find wM_X9_75 kX3 hL.2.1 ⟨by decide, by decide⟩ ⟨by decide, by decide⟩ (nle rfl) dX9_did_5 rfl (dt1 ?_)
    show V X (rmD 8 0 0) M 0 0 [(0, .ref dk), (1, .int t), (2, .int d), (3, .int (bI b))] 8 [.null]
    refine v_astoreN (lv' := [(4, .null), (0, .ref dk), (1, .int t), (2, .int d), (3, .int (bI b))]) C dX9_did_8 hN (by decide) rfl ?_
    refine v_aloadN C dX9_did_10 rfl ?_
    refine v_ifnonnullN C dX9_did_12 ?_
    refine v_iconst C dX9_did_15 (v := (-1)) rfl ?_
    exact v_iret C E dX9_did_16 (nle rfl) (nle rfl) ⟨by simp [aDid, hx], by simp only [sDid, hx]; exact hD.W⟩

set_option maxHeartbeats 4000000 in
set_option maxRecDepth 100000 in
theorem c_X9_cloud (l : Launch) (g : Gm) (M : Mem) (dk : Nat) (la ta : Nat) (th mk dn : Nat → Nat) (al pt : Nat) (pa ca ka ra : Nat → Nat) (fa va : Nat) (ua sa xa na : Nat) (tA : Nat → Nat) (li xr : Nat) (fy f0 f1 f2 f3 ja jb : Nat) (lo hi pl ph : Nat → Int64) (cn lk : Nat → Nat → Int32) (bc bs : Bool) (vf : Nat → Int32) (cv mv : Int32) (xf : Nat → Int32) (ga gb : Nat → Int64) (nT : Nat) (m : Nat → Nat → Nat) (dB : Nat → Nat → Bool) (nP : Nat) (pf : Nat → Nat → Nat) (cB : Nat → Nat → Bool) (nS : Nat) (sg : Nat → Int32) (ln : Nat → Nat) (tx : Nat → Nat → Int32) (fl : Nat → Nat → Nat) (hD : DeskA g M dk la ta th mk dn al pt pa ca ka ra fa va ua sa xa na tA li xr fy f0 f1 f2 f3 ja jb lo hi pl ph cn lk bc bs vf cv mv xf ga gb nT m dB nP pf cB nS sg ln tx fl) (p c : Int32) (b : Bool) : Ct l g yX9_cloud cX9_cloud 5 (some .int) 8 0 0 [.ref dk, .int p, .int c, .int (bI b)] M (fun v N => v = some (.int (aCloud nP cB p c)) ∧ DeskW g N dk nT m dB nP pf (sCloud nP cB p c b) nS sg ln tx fl) := by
  refine Ct.of (by decide) (Nat.le_of_ble_eq_true rfl) ?_
  intro X hXl hXg hN C E
  subst hXl; subst hXg
  show V X (rmD 8 0 0) M 0 0 [(0, .ref dk), (1, .int p), (2, .int c), (3, .int (bI b))] 0 []
  obtain ⟨hD1, hL, hA, ⟨hF, hV⟩, hU, ⟨hI, hX⟩, hY, hdB, hcB, hrw, hinj, hxr, hct⟩ := id hD
  have h12 := hL.1
  have h10 := hA.1
  rcases idx_cases nP (by omega) p with ⟨i, lt, rfl, hx⟩ | ⟨hn, hx⟩
  · have hzi := trivial
    show V X (rmD 8 0 0) M 0 0 [(0, .ref dk), (1, .int (nI i)), (2, .int c), (3, .int (bI b))] 0 []
    refine v_aload_n C dX9_cloud_0 rfl ?_
    refine v_get C kX9 hD1 1 (by decide) wF_X9_19 rfl dX9_cloud_1 ?_
    refine v_iload_n C dX9_cloud_4 rfl ?_
    refine v_callV (As := [.int (nI i)]) (rest := []) (b := al) C (c_X0_find (xl X) (xg X) M al pt pa ca ka ra nP pf pl ph cn lk i lt hA) pm_X0_find wI_X0_find wS_X0_find wM_X9_109 kX0 hA.2.1 ⟨by decide, by decide⟩ ⟨by decide, by decide⟩ (nle rfl) dX9_cloud_5 rfl (dt1 ?_)
    show V X (rmD 8 0 0) M 0 0 [(0, .ref dk), (1, .int (nI i)), (2, .int c), (3, .int (bI b))] 8 [.ref (pa i)]
    refine v_astore (lv' := [(4, .ref (pa i)), (0, .ref dk), (1, .int (nI i)), (2, .int c), (3, .int (bI b))]) C dX9_cloud_8 hN (by decide) rfl ?_
    refine v_aload C dX9_cloud_10 rfl ?_
    refine v_ifnonnull (tgt := 17) C dX9_cloud_12 (by decide) ?_
    refine v_iload_n C dX9_cloud_17 rfl ?_
    refine v_callS (As := [.int c]) (rest := []) C (c_X9_isCell (xl X) (xg X) c M) pm_X9_isCell wT_X9_isCell wM_X9_89 ⟨by decide, by decide⟩ ⟨by decide, by decide⟩ (nle rfl) dX9_cloud_18 rfl (dt1 ?_)
    show V X (rmD 8 0 0) M 0 0 [(4, .ref (pa i)), (0, .ref dk), (1, .int (nI i)), (2, .int c), (3, .int (bI b))] 21 [.int (bI (qin c 0 95))]
    refine v_ifb_ne (tgt := 27) C dX9_cloud_21 (by decide) (fun h21 => ?_) (fun h21 => ?_)
    · obtain ⟨j, hLj, hjj, rfl⟩ := qin_nJ (x := c) (L := 0) (N := 95) (by decide) (by decide) h21
      show V X (rmD 8 0 0) M 0 0 [(4, .ref (pa i)), (0, .ref dk), (1, .int (nI i)), (2, .int (nI j)), (3, .int (bI b))] 27 []
      refine v_aload C dX9_cloud_27 rfl ?_
      refine v_iload_n C dX9_cloud_29 rfl ?_
      refine v_iload_n C dX9_cloud_30 rfl ?_
      refine v_callV (As := [.int (nI j), .int (bI b)]) (rest := []) (b := pa i) C (c_X5_tickCloud (xl X) (xg X) M (pa i) (ca i) (ka i) (ra i) (pf i) (pl i) (ph i) (cn i) (lk i) j b (by omega) (hA.2.2.2.1 i lt)) pm_X5_tickCloud wI_X5_tickCloud wS_X5_tickCloud wM_X9_112 kX5 ((hA.2.2.2.1 i lt).2.2.1) ⟨by decide, by decide⟩ ⟨by decide, by decide⟩ (nle rfl) dX9_cloud_31 rfl ?_
      rintro _ _ ⟨rfl, lo', hi', rfl, hk⟩
      have hE := hD.cloud lt hk
      show V X (rmD 8 0 0) (mset M (ca i) (.inr (7, [.long lo', .long hi']))) 0 0 [(4, .ref (pa i)), (0, .ref dk), (1, .int (nI i)), (2, .int (nI j)), (3, .int (bI b))] 34 [.int (bI (tk (pl i) (ph i) j))]
      refine v_ifb_eq (tgt := 41) C dX9_cloud_34 (by decide) (fun h34 => ?_) (fun h34 => ?_)
      · refine v_iconst C dX9_cloud_41 (v := 0) rfl ?_
        exact v_iret C E dX9_cloud_42 (nle rfl) (nle rfl) ⟨by simp only [aCloud, hx, h21, if_true, nI_clamp (n := j) (show j < 2 ^ 31 by omega)]; rw [← hcB i lt j (by omega), h34]; rfl, by simp only [sCloud, hx, h21, if_true, nI_clamp (n := j) (show j < 2 ^ 31 by omega)]; exact hE.W⟩
      · refine v_iconst C dX9_cloud_37 (v := 1) rfl ?_
        refine v_goto (tgt := 42) C dX9_cloud_38 (by decide) ?_
        exact v_iret C E dX9_cloud_42 (nle rfl) (nle rfl) ⟨by simp only [aCloud, hx, h21, if_true, nI_clamp (n := j) (show j < 2 ^ 31 by omega)]; rw [← hcB i lt j (by omega), h34]; rfl, by simp only [sCloud, hx, h21, if_true, nI_clamp (n := j) (show j < 2 ^ 31 by omega)]; exact hE.W⟩
    · refine v_bipush C dX9_cloud_24 (v := (-2)) rfl ?_
      exact v_iret C E dX9_cloud_26 (nle rfl) (nle rfl) ⟨by simp [aCloud, hx, h21], by simp only [sCloud, hx, h21]; exact hD.W⟩
  · have hzi := trivial
    show V X (rmD 8 0 0) M 0 0 [(0, .ref dk), (1, .int p), (2, .int c), (3, .int (bI b))] 0 []
    refine v_aload_n C dX9_cloud_0 rfl ?_
    refine v_get C kX9 hD1 1 (by decide) wF_X9_19 rfl dX9_cloud_1 ?_
    refine v_iload_n C dX9_cloud_4 rfl ?_
    refine v_callV (As := [.int p]) (rest := []) (b := al) C (c_X0_findN (xl X) (xg X) M al pt pa ca ka ra nP pf pl ph cn lk p hn hA) pm_X0_find wI_X0_find wS_X0_find wM_X9_109 kX0 hA.2.1 ⟨by decide, by decide⟩ ⟨by decide, by decide⟩ (nle rfl) dX9_cloud_5 rfl (dt1 ?_)
    show V X (rmD 8 0 0) M 0 0 [(0, .ref dk), (1, .int p), (2, .int c), (3, .int (bI b))] 8 [.null]
    refine v_astoreN (lv' := [(4, .null), (0, .ref dk), (1, .int p), (2, .int c), (3, .int (bI b))]) C dX9_cloud_8 hN (by decide) rfl ?_
    refine v_aloadN C dX9_cloud_10 rfl ?_
    refine v_ifnonnullN C dX9_cloud_12 ?_
    refine v_iconst C dX9_cloud_15 (v := (-1)) rfl ?_
    exact v_iret C E dX9_cloud_16 (nle rfl) (nle rfl) ⟨by simp [aCloud, hx], by simp only [sCloud, hx]; exact hD.W⟩

theorem desk_dev {g : Gm} {M : Mem} {dk : Nat} {la ta : Nat} {th mk dn : Nat → Nat} {al pt : Nat} {pa ca ka ra : Nat → Nat} {fa va : Nat} {ua sa xa na : Nat} {tA : Nat → Nat} {li xr : Nat} {fy f0 f1 f2 f3 ja jb : Nat} {lo hi pl ph : Nat → Int64} {cn lk : Nat → Nat → Int32} {bc bs : Bool} {vf : Nat → Int32} {cv mv : Int32} {xf : Nat → Int32} {ga gb : Nat → Int64} {nT : Nat} {m : Nat → Nat → Nat} {dB : Nat → Nat → Bool} {nP : Nat} {pf : Nat → Nat → Nat} {cB : Nat → Nat → Bool} {nS : Nat} {sg : Nat → Int32} {ln : Nat → Nat} {tx : Nat → Nat → Int32} {fl : Nat → Nat → Nat} (hD1 : M dk = some (.inr (9, [.ref la, .ref al, .ref fa, .ref ua, .ref li, .ref fy]))) (hL : LandW g M la ta th mk dn nT m lo hi) (hA : AlbW g M al pt pa ca ka ra nP pf pl ph cn lk) (hFV : M fa = some (.inr (1, [.ref va, .int (bI bc), .int (bI bs)])) ∧ M va = some (aI g 9 vf)) (hU : UseW g M ua sa xa na tA nS sg ln tx) (hIX : M li = some (.inr (4, [.ref xr, .int cv, .int mv])) ∧ M xr = some (aI g 96 xf)) (hY : FlyW g M fy f0 f1 f2 f3 ja jb fl ga gb) (hdB : ∀ t, t < nT → ∀ d, d < 100 → tk (lo t) (hi t) d = dB t d) (hcB : ∀ p, p < nP → ∀ c, c < 96 → tk (pl p) (ph p) c = cB p c) (hinj : ∀ t, t < nT → ∀ u, u < nT → t ≠ u → mk t ≠ mk u ∧ dn t ≠ dn u) (hxr : ∀ p, p < nP → xr ≠ ka p ∧ xr ≠ ra p) (hct : ∀ p, p < nP → ∀ t, t < nT → ca p ≠ dn t) {N : Mem} {cn' lk' : Nat → Nat → Int32} (hN : AlbW g N al pt pa ca ka ra nP pf pl ph cn' lk') (hrw : ∀ j, j < nP → ∀ c, c < 96 → cn' j c = oI (bst m (c % 12) (c / 12) (pf j 2) nT) ∧ lk' j c = nI (lookN m nT (pf j) c)) (hfr : ∀ a, (∀ j, j < nP → a ≠ ka j ∧ a ≠ ra j) → N a = M a) : DeskA g N dk la ta th mk dn al pt pa ca ka ra fa va ua sa xa na tA li xr fy f0 f1 f2 f3 ja jb lo hi pl ph cn' lk' bc bs vf cv mv xf ga gb nT m dB nP pf cB nS sg ln tx fl := by
  obtain ⟨hF, hV⟩ := hFV
  obtain ⟨hI, hX⟩ := hIX
  have K : ∀ {ks : List Nat}, 196 ∉ ks → Keep M N ks := fun h a e ha he => by
    rw [hfr a (fun j hj => ⟨fun z => ?_, fun z => ?_⟩)]
    · exact ha
    · rw [z, (hA.2.2.2.1 j hj).2.2.2.2.1] at ha; cases ha; exact h he
    · rw [z, (hA.2.2.2.1 j hj).2.2.2.2.2] at ha; cases ha; exact h he
  exact ⟨K (ks := [9]) (by decide) _ _ hD1 (by simp [kd]), hL.keep (K (by decide)), hN, ⟨K (ks := [1, 109]) (by decide) _ _ hF (by simp [kd]), K (ks := [1, 109]) (by decide) _ _ hV (by simp [kd])⟩, hU.keepN (K (by decide)), ⟨K (ks := [4]) (by decide) _ _ hI (by simp [kd]), by rw [hfr xr hxr]; exact hX⟩, hY.keep (K (by decide)), hdB, hcB, hrw, hinj, hxr, hct⟩
theorem okM_mU {m : Nat → Nat → Nat} {i w v : Nat} (h : okM (m i)) (hw : (w = 8 ∧ v ≤ 8) ∨ (w = 9 ∧ v ≤ 1) ∨ (w = 10 ∧ v ≤ 1)) : okM (mU m i w v i) := by
  unfold okM at h ⊢
  unfold mU
  rcases hw with ⟨rfl, hv⟩ | ⟨rfl, hv⟩ | ⟨rfl, hv⟩ <;> simp <;> omega
theorem mU_row {m : Nat → Nat → Nat} {i w v : Nat} : upd (fun q => nI (m i q)) w (nI v) = fun q => nI (mU m i w v i q) := by
  funext q
  unfold upd mU
  by_cases h : q = w
  · simp [h]
  · simp [h]
theorem mU_far {m : Nat → Nat → Nat} {i w v : Nat} {u : Nat} (h : u ≠ i) : mU m i w v u = m u := by
  funext q
  unfold mU
  simp [h]
theorem mU_low {m : Nat → Nat → Nat} {i w v : Nat} (hw : 8 ≤ w) : ∀ t, ∀ q, q < 8 → mU m i w v t q = m t q := fun t q hq => by
  unfold mU
  exact if_neg (fun z => by omega)
theorem DeskA.mark {g : Gm} {M : Mem} {dk : Nat} {la ta : Nat} {th mk dn : Nat → Nat} {al pt : Nat} {pa ca ka ra : Nat → Nat} {fa va : Nat} {ua sa xa na : Nat} {tA : Nat → Nat} {li xr : Nat} {fy f0 f1 f2 f3 ja jb : Nat} {lo hi pl ph : Nat → Int64} {cn lk : Nat → Nat → Int32} {bc bs : Bool} {vf : Nat → Int32} {cv mv : Int32} {xf : Nat → Int32} {ga gb : Nat → Int64} {nT : Nat} {m : Nat → Nat → Nat} {dB : Nat → Nat → Bool} {nP : Nat} {pf : Nat → Nat → Nat} {cB : Nat → Nat → Bool} {nS : Nat} {sg : Nat → Int32} {ln : Nat → Nat} {tx : Nat → Nat → Int32} {fl : Nat → Nat → Nat} (hD : DeskA g M dk la ta th mk dn al pt pa ca ka ra fa va ua sa xa na tA li xr fy f0 f1 f2 f3 ja jb lo hi pl ph cn lk bc bs vf cv mv xf ga gb nT m dB nP pf cB nS sg ln tx fl) {i w v : Nat} (lt : i < nT) (hw : (w = 8 ∧ v ≤ 8) ∨ (w = 9 ∧ v ≤ 1) ∨ (w = 10 ∧ v ≤ 1)) (h9 : w = 9 → v = m i 9) : DeskA g (mset M (mk i) (aI g 11 (fun q => nI (mU m i w v i q)))) dk la ta th mk dn al pt pa ca ka ra fa va ua sa xa na tA li xr fy f0 f1 f2 f3 ja jb lo hi pl ph cn lk bc bs vf cv mv xf ga gb nT (mU m i w v) dB nP pf cB nS sg ln tx fl := by
  obtain ⟨hD1, hL, hA, ⟨hF, hV⟩, hU, ⟨hI, hX⟩, hY, hdB, hcB, hrw, hinj, hxr, hct⟩ := id hD
  have e := (hL.2.2.2 i lt).2.1
  have K : ∀ {ks : List Nat}, 111 ∉ ks → Keep M (mset M (mk i) (aI g 11 (fun q => nI (mU m i w v i q)))) ks := fun h => Keep.set e h _
  have c1 : ∀ t, t < nT → ∀ q, q < 8 → mU m i w v t q = m t q := fun t _ => mU_low (by omega) t
  have c2 : ∀ t, t < nT → mU m i w v t 9 = m t 9 := fun t _ => by
    unfold mU
    by_cases z : t = i ∧ 9 = w
    · rw [if_pos z, h9 z.2.symm, z.1]
    · rw [if_neg z]
  exact ⟨K (ks := [9]) (by decide) _ _ hD1 (by simp [kd]), hL.mark lt (fun u hu hn => (hinj u hu i lt hn).1) (fun u hu => mU_far hu) (okM_mU (hL.2.2.2 i lt).2.2.2 hw), hA.keep (K (by decide)), ⟨K (ks := [1, 109]) (by decide) _ _ hF (by simp [kd]), K (ks := [1, 109]) (by decide) _ _ hV (by simp [kd])⟩, hU.keepN (K (by decide)), ⟨K (ks := [4]) (by decide) _ _ hI (by simp [kd]), K (ks := [196]) (by decide) _ _ hX (by simp [kd])⟩, hY.keep (K (by decide)), hdB, hcB, fun p hp c hc => by rw [bst_congr c1, lookN_congr c1 c2]; exact hrw p hp c hc, hinj, hxr, hct⟩
set_option maxHeartbeats 4000000 in
set_option maxRecDepth 100000 in
theorem c_X9_set (l : Launch) (g : Gm) (M : Mem) (dk : Nat) (la ta : Nat) (th mk dn : Nat → Nat) (al pt : Nat) (pa ca ka ra : Nat → Nat) (fa va : Nat) (ua sa xa na : Nat) (tA : Nat → Nat) (li xr : Nat) (fy f0 f1 f2 f3 ja jb : Nat) (lo hi pl ph : Nat → Int64) (cn lk : Nat → Nat → Int32) (bc bs : Bool) (vf : Nat → Int32) (cv mv : Int32) (xf : Nat → Int32) (ga gb : Nat → Int64) (nT : Nat) (m : Nat → Nat → Nat) (dB : Nat → Nat → Bool) (nP : Nat) (pf : Nat → Nat → Nat) (cB : Nat → Nat → Bool) (nS : Nat) (sg : Nat → Int32) (ln : Nat → Nat) (tx : Nat → Nat → Int32) (fl : Nat → Nat → Nat) (hD : DeskA g M dk la ta th mk dn al pt pa ca ka ra fa va ua sa xa na tA li xr fy f0 f1 f2 f3 ja jb lo hi pl ph cn lk bc bs vf cv mv xf ga gb nT m dB nP pf cB nS sg ln tx fl) (t ww vv : Int32) : Ct l g yX9_set cX9_set 6 (some .int) 8 0 0 [.ref dk, .int t, .int ww, .int vv] M (fun v N => v = some (.int (aSet nT m t ww vv)) ∧ DeskW g N dk nT (sSet nT m t ww vv) dB nP pf cB nS sg ln tx fl) := by
  refine Ct.of (by decide) (Nat.le_of_ble_eq_true rfl) ?_
  intro X hXl hXg hN C E
  subst hXl; subst hXg
  show V X (rmD 8 0 0) M 0 0 [(0, .ref dk), (1, .int t), (2, .int ww), (3, .int vv)] 0 []
  obtain ⟨hD1, hL, hA, ⟨hF, hV⟩, hU, ⟨hI, hX⟩, hY, hdB, hcB, hrw, hinj, hxr, hct⟩ := id hD
  have h12 := hL.1
  have h10 := hA.1
  rcases idx_cases nT (by omega) t with ⟨i, lt, rfl, hx⟩ | ⟨hn, hx⟩
  · have hzi := trivial
    show V X (rmD 8 0 0) M 0 0 [(0, .ref dk), (1, .int (nI i)), (2, .int ww), (3, .int vv)] 0 []
    refine v_aload_n C dX9_set_0 rfl ?_
    refine v_get C kX9 hD1 0 (by decide) wF_X9_10 rfl dX9_set_1 ?_
    refine v_iload_n C dX9_set_4 rfl ?_
    refine v_callV (As := [.int (nI i)]) (rest := []) (b := la) C (c_X3_find (xl X) (xg X) M la ta th mk dn nT m lo hi i lt hL) pm_X3_find wI_X3_find wS_X3_find wM_X9_75 kX3 hL.2.1 ⟨by decide, by decide⟩ ⟨by decide, by decide⟩ (nle rfl) dX9_set_5 rfl (dt1 ?_)
    show V X (rmD 8 0 0) M 0 0 [(0, .ref dk), (1, .int (nI i)), (2, .int ww), (3, .int vv)] 8 [.ref (th i)]
    refine v_astore (lv' := [(4, .ref (th i)), (0, .ref dk), (1, .int (nI i)), (2, .int ww), (3, .int vv)]) C dX9_set_8 hN (by decide) rfl ?_
    refine v_aload C dX9_set_10 rfl ?_
    refine v_ifnonnull (tgt := 17) C dX9_set_12 (by decide) ?_
    refine v_iload_n C dX9_set_17 rfl ?_
    refine v_bipush C dX9_set_18 (v := 8) rfl ?_
    refine v_bipush C dX9_set_20 (v := 10) rfl ?_
    refine v_callS (As := [.int ww, .int 8, .int 10]) (rest := []) C (c_X9_isWithin (xl X) (xg X) ww 8 10 M) pm_X9_isWithin wT_X9_isWithin wM_X9_55 ⟨by decide, by decide⟩ ⟨by decide, by decide⟩ (nle rfl) dX9_set_22 rfl (dt1 ?_)
    show V X (rmD 8 0 0) M 0 0 [(4, .ref (th i)), (0, .ref dk), (1, .int (nI i)), (2, .int ww), (3, .int vv)] 25 [.int (bI (qin ww 8 10))]
    refine v_ifb_ne (tgt := 31) C dX9_set_25 (by decide) (fun h25 => ?_) (fun h25 => ?_)
    · obtain ⟨w, hLw, hjw, rfl⟩ := qin_nJ (x := ww) (L := 8) (N := 10) (by decide) (by decide) h25
      show V X (rmD 8 0 0) M 0 0 [(4, .ref (th i)), (0, .ref dk), (1, .int (nI i)), (2, .int (nI w)), (3, .int vv)] 31 []
      refine v_iload_n C dX9_set_31 rfl ?_
      refine v_iconst C dX9_set_32 (v := 0) rfl ?_
      refine v_iload_n C dX9_set_33 rfl ?_
      refine v_bipush C dX9_set_34 (v := 8) rfl ?_
      refine v_icmp_ne (tgt := 44) C dX9_set_36 (by decide) (fun h36 => ?_) (fun h36 => ?_)
      · refine v_iconst C dX9_set_44 (v := 1) rfl ?_
        refine v_callS (As := [.int vv, .int 0, .int 1]) (rest := []) C (c_X9_isWithin (xl X) (xg X) vv 0 1 M) pm_X9_isWithin wT_X9_isWithin wM_X9_55 ⟨by decide, by decide⟩ ⟨by decide, by decide⟩ (nle rfl) dX9_set_45 rfl (dt1 ?_)
        show V X (rmD 8 0 0) M 0 0 [(4, .ref (th i)), (0, .ref dk), (1, .int (nI i)), (2, .int (nI w)), (3, .int vv)] 48 [.int (bI (qin vv 0 1))]
        refine v_ifb_ne (tgt := 54) C dX9_set_48 (by decide) (fun h48 => ?_) (fun h48 => ?_)
        · have hok : okSet (nI w) vv = true := by unfold okSet; rw [h25]; first | (rw [if_pos h36, h48]; rfl) | (rw [if_neg h36, h48]; rfl)
          obtain ⟨v, hLv, hjv, rfl⟩ := qin_nJ (x := vv) (L := 0) (N := 1) (by decide) (by decide) h48
          have hw : (w = 8 ∧ v ≤ 8) ∨ (w = 9 ∧ v ≤ 1) ∨ (w = 10 ∧ v ≤ 1) := by have : w ≠ 8 := nI_neN (b := 8) (by omega) (by decide) h36; omega
          show V X (rmD 8 0 0) M 0 0 [(4, .ref (th i)), (0, .ref dk), (1, .int (nI i)), (2, .int (nI w)), (3, .int (nI v))] 54 []
          refine v_aload C dX9_set_54 rfl ?_
          refine v_iload_n C dX9_set_56 rfl ?_
          refine v_callV (As := [.int (nI w)]) (rest := []) (b := th i) C (c_X6_mark (xl X) (xg X) M (th i) (mk i) (dn i) (nI i) (fun w => nI (m i w)) w (by omega) ((hL.2.2.2 i lt).1) ((hL.2.2.2 i lt).2.1)) pm_X6_mark wI_X6_mark wS_X6_mark wM_X9_79 kX6 ((hL.2.2.2 i lt).1) ⟨by decide, by decide⟩ ⟨by decide, by decide⟩ (nle rfl) dX9_set_57 rfl (dt1 ?_)
          show V X (rmD 8 0 0) M 0 0 [(4, .ref (th i)), (0, .ref dk), (1, .int (nI i)), (2, .int (nI w)), (3, .int (nI v))] 60 [.int (nI (m i w))]
          refine v_istore (lv' := [(5, .int (nI (m i w))), (4, .ref (th i)), (0, .ref dk), (1, .int (nI i)), (2, .int (nI w)), (3, .int (nI v))]) C dX9_set_60 hN (by decide) rfl ?_
          refine v_aload C dX9_set_62 rfl ?_
          refine v_iload_n C dX9_set_64 rfl ?_
          refine v_iload_n C dX9_set_65 rfl ?_
          refine v_callV (As := [.int (nI w), .int (nI v)]) (rest := []) (b := th i) C (c_X6_remark (xl X) (xg X) M (th i) (mk i) (dn i) (nI i) (fun q => nI (m i q)) w (by omega) (nI v) (hL.2.2.2 i lt).1 (hL.2.2.2 i lt).2.1) pm_X6_remark wI_X6_remark wS_X6_remark wM_X9_85 kX6 ((hL.2.2.2 i lt).1) ⟨by decide, by decide⟩ ⟨by decide, by decide⟩ (nle rfl) dX9_set_66 rfl ?_
          rintro _ _ ⟨rfl, rfl⟩
          rw [show (fun q => nI (m i q)) = fun q => nI (m i q) from rfl, mU_row]
          have e0 := (hL.2.2.2 i lt).2.1
          have K : ∀ {ks : List Nat}, 111 ∉ ks → Keep M (mset M (mk i) (aI (xg X) 11 (fun q => nI (mU m i w v i q)))) ks := fun h => Keep.set e0 h _
          have kD := K (ks := [9]) (by decide) _ _ hD1 (by simp [kd])
          have kL := hL.mark (m' := mU m i w v) lt (fun u hu hn => (hinj u hu i lt hn).1) (fun u hu => mU_far hu) (okM_mU (hL.2.2.2 i lt).2.2.2 hw)
          have kA := hA.keep (K (by decide))
          show V X (rmD 8 0 0) (mset M (mk i) (aI (xg X) 11 (fun q => nI (mU m i w v i q)))) 0 0 [(5, .int (nI (m i w))), (4, .ref (th i)), (0, .ref dk), (1, .int (nI i)), (2, .int (nI w)), (3, .int (nI v))] 69 []
          refine v_iload_n C dX9_set_69 rfl ?_
          refine v_bipush C dX9_set_70 (v := 9) rfl ?_
          refine v_icmp_ne (tgt := 92) C dX9_set_72 (by decide) (fun h72 => ?_) (fun h72 => ?_)
          · refine v_iload C dX9_set_92 rfl ?_
            exact v_iret C E dX9_set_94 (nle rfl) (nle rfl) ⟨by simp only [aSet, hx, hok, if_true, nI_clamp (n := w) (show w < 2 ^ 31 by omega)], by simp only [sSet, hx, hok, if_true, nI_clamp (n := w) (show w < 2 ^ 31 by omega), nI_clamp (n := v) (show v < 2 ^ 31 by omega)]; exact (hD.mark lt hw (fun z => absurd (by rw [z]; rfl) h72)).W⟩
          · refine v_iload C dX9_set_75 rfl ?_
            refine v_iload_n C dX9_set_77 rfl ?_
            refine v_icmp_eq (tgt := 92) C dX9_set_78 (by decide) (fun h78 => ?_) (fun h78 => ?_)
            · refine v_iload C dX9_set_92 rfl ?_
              exact v_iret C E dX9_set_94 (nle rfl) (nle rfl) ⟨by simp only [aSet, hx, hok, if_true, nI_clamp (n := w) (show w < 2 ^ 31 by omega)], by simp only [sSet, hx, hok, if_true, nI_clamp (n := w) (show w < 2 ^ 31 by omega), nI_clamp (n := v) (show v < 2 ^ 31 by omega)]; exact (hD.mark lt hw (fun z => (nI_eqN (by have := (hL.2.2.2 i lt).2.2.2; unfold okM at this; omega) (by omega) (z ▸ h78)).symm)).W⟩
            · refine v_aload_n C dX9_set_81 rfl ?_
              refine v_get C kX9 kD 1 (by decide) wF_X9_19 rfl dX9_set_82 ?_
              refine v_aload_n C dX9_set_85 rfl ?_
              refine v_get C kX9 kD 0 (by decide) wF_X9_10 rfl dX9_set_86 ?_
              refine v_callV (As := [.ref la]) (rest := []) (b := al) C (c_X0_develop (xl X) (xg X) (mset M (mk i) (aI (xg X) 11 (fun q => nI (mU m i w v i q)))) al pt pa ca ka ra nP pf pl ph cn lk kA la ta th mk dn nT (mU m i w v) lo hi kL) pm_X0_develop wI_X0_develop wS_X0_develop wM_X9_71 kX0 kA.2.1 ⟨by decide, by decide⟩ ⟨by decide, by decide⟩ (nle rfl) dX9_set_89 rfl ?_
              rintro _ N ⟨rfl, cn', lk', hN, hr, hfr⟩
              have hE := desk_dev kD kL kA ⟨K (ks := [1, 109]) (by decide) _ _ hF (by simp [kd]), K (ks := [1, 109]) (by decide) _ _ hV (by simp [kd])⟩ (hU.keepN (K (by decide))) ⟨K (ks := [4]) (by decide) _ _ hI (by simp [kd]), K (ks := [196]) (by decide) _ _ hX (by simp [kd])⟩ (hY.keep (K (by decide))) hdB hcB hinj hxr hct hN hr hfr
              show V X (rmD 8 0 0) N 0 0 [(5, .int (nI (m i w))), (4, .ref (th i)), (0, .ref dk), (1, .int (nI i)), (2, .int (nI w)), (3, .int (nI v))] 92 []
              refine v_iload C dX9_set_92 rfl ?_
              exact v_iret C E dX9_set_94 (nle rfl) (nle rfl) ⟨by simp only [aSet, hx, hok, if_true, nI_clamp (n := w) (show w < 2 ^ 31 by omega)], by simp only [sSet, hx, hok, if_true, nI_clamp (n := w) (show w < 2 ^ 31 by omega), nI_clamp (n := v) (show v < 2 ^ 31 by omega)]; exact hE.W⟩
        · have hok : okSet (nI w) vv = false := by unfold okSet; first | rw [if_pos h36, h48, Bool.and_false] | rw [if_neg h36, h48, Bool.and_false]
          refine v_bipush C dX9_set_51 (v := (-2)) rfl ?_
          exact v_iret C E dX9_set_53 (nle rfl) (nle rfl) ⟨by simp [aSet, hx, hok], by simp only [sSet, hx, hok]; exact hD.W⟩
      · refine v_bipush C dX9_set_39 (v := 8) rfl ?_
        refine v_goto (tgt := 45) C dX9_set_41 (by decide) ?_
        refine v_callS (As := [.int vv, .int 0, .int 8]) (rest := []) C (c_X9_isWithin (xl X) (xg X) vv 0 8 M) pm_X9_isWithin wT_X9_isWithin wM_X9_55 ⟨by decide, by decide⟩ ⟨by decide, by decide⟩ (nle rfl) dX9_set_45 rfl (dt1 ?_)
        show V X (rmD 8 0 0) M 0 0 [(4, .ref (th i)), (0, .ref dk), (1, .int (nI i)), (2, .int (nI w)), (3, .int vv)] 48 [.int (bI (qin vv 0 8))]
        refine v_ifb_ne (tgt := 54) C dX9_set_48 (by decide) (fun h48 => ?_) (fun h48 => ?_)
        · have hok : okSet (nI w) vv = true := by unfold okSet; rw [h25]; first | (rw [if_pos h36, h48]; rfl) | (rw [if_neg h36, h48]; rfl)
          obtain ⟨v, hLv, hjv, rfl⟩ := qin_nJ (x := vv) (L := 0) (N := 8) (by decide) (by decide) h48
          have hw : (w = 8 ∧ v ≤ 8) ∨ (w = 9 ∧ v ≤ 1) ∨ (w = 10 ∧ v ≤ 1) := by have := nI_eqN (b := 8) (by omega) (by decide) h36; omega
          show V X (rmD 8 0 0) M 0 0 [(4, .ref (th i)), (0, .ref dk), (1, .int (nI i)), (2, .int (nI w)), (3, .int (nI v))] 54 []
          refine v_aload C dX9_set_54 rfl ?_
          refine v_iload_n C dX9_set_56 rfl ?_
          refine v_callV (As := [.int (nI w)]) (rest := []) (b := th i) C (c_X6_mark (xl X) (xg X) M (th i) (mk i) (dn i) (nI i) (fun w => nI (m i w)) w (by omega) ((hL.2.2.2 i lt).1) ((hL.2.2.2 i lt).2.1)) pm_X6_mark wI_X6_mark wS_X6_mark wM_X9_79 kX6 ((hL.2.2.2 i lt).1) ⟨by decide, by decide⟩ ⟨by decide, by decide⟩ (nle rfl) dX9_set_57 rfl (dt1 ?_)
          show V X (rmD 8 0 0) M 0 0 [(4, .ref (th i)), (0, .ref dk), (1, .int (nI i)), (2, .int (nI w)), (3, .int (nI v))] 60 [.int (nI (m i w))]
          refine v_istore (lv' := [(5, .int (nI (m i w))), (4, .ref (th i)), (0, .ref dk), (1, .int (nI i)), (2, .int (nI w)), (3, .int (nI v))]) C dX9_set_60 hN (by decide) rfl ?_
          refine v_aload C dX9_set_62 rfl ?_
          refine v_iload_n C dX9_set_64 rfl ?_
          refine v_iload_n C dX9_set_65 rfl ?_
          refine v_callV (As := [.int (nI w), .int (nI v)]) (rest := []) (b := th i) C (c_X6_remark (xl X) (xg X) M (th i) (mk i) (dn i) (nI i) (fun q => nI (m i q)) w (by omega) (nI v) (hL.2.2.2 i lt).1 (hL.2.2.2 i lt).2.1) pm_X6_remark wI_X6_remark wS_X6_remark wM_X9_85 kX6 ((hL.2.2.2 i lt).1) ⟨by decide, by decide⟩ ⟨by decide, by decide⟩ (nle rfl) dX9_set_66 rfl ?_
          rintro _ _ ⟨rfl, rfl⟩
          rw [show (fun q => nI (m i q)) = fun q => nI (m i q) from rfl, mU_row]
          have e0 := (hL.2.2.2 i lt).2.1
          have K : ∀ {ks : List Nat}, 111 ∉ ks → Keep M (mset M (mk i) (aI (xg X) 11 (fun q => nI (mU m i w v i q)))) ks := fun h => Keep.set e0 h _
          have kD := K (ks := [9]) (by decide) _ _ hD1 (by simp [kd])
          have kL := hL.mark (m' := mU m i w v) lt (fun u hu hn => (hinj u hu i lt hn).1) (fun u hu => mU_far hu) (okM_mU (hL.2.2.2 i lt).2.2.2 hw)
          have kA := hA.keep (K (by decide))
          show V X (rmD 8 0 0) (mset M (mk i) (aI (xg X) 11 (fun q => nI (mU m i w v i q)))) 0 0 [(5, .int (nI (m i w))), (4, .ref (th i)), (0, .ref dk), (1, .int (nI i)), (2, .int (nI w)), (3, .int (nI v))] 69 []
          refine v_iload_n C dX9_set_69 rfl ?_
          refine v_bipush C dX9_set_70 (v := 9) rfl ?_
          refine v_icmp_ne (tgt := 92) C dX9_set_72 (by decide) (fun h72 => ?_) (fun h72 => ?_)
          · refine v_iload C dX9_set_92 rfl ?_
            exact v_iret C E dX9_set_94 (nle rfl) (nle rfl) ⟨by simp only [aSet, hx, hok, if_true, nI_clamp (n := w) (show w < 2 ^ 31 by omega)], by simp only [sSet, hx, hok, if_true, nI_clamp (n := w) (show w < 2 ^ 31 by omega), nI_clamp (n := v) (show v < 2 ^ 31 by omega)]; exact (hD.mark lt hw (fun z => absurd (by rw [z]; rfl) h72)).W⟩
          · refine v_iload C dX9_set_75 rfl ?_
            refine v_iload_n C dX9_set_77 rfl ?_
            refine v_icmp_eq (tgt := 92) C dX9_set_78 (by decide) (fun h78 => ?_) (fun h78 => ?_)
            · refine v_iload C dX9_set_92 rfl ?_
              exact v_iret C E dX9_set_94 (nle rfl) (nle rfl) ⟨by simp only [aSet, hx, hok, if_true, nI_clamp (n := w) (show w < 2 ^ 31 by omega)], by simp only [sSet, hx, hok, if_true, nI_clamp (n := w) (show w < 2 ^ 31 by omega), nI_clamp (n := v) (show v < 2 ^ 31 by omega)]; exact (hD.mark lt hw (fun z => (nI_eqN (by have := (hL.2.2.2 i lt).2.2.2; unfold okM at this; omega) (by omega) (z ▸ h78)).symm)).W⟩
            · refine v_aload_n C dX9_set_81 rfl ?_
              refine v_get C kX9 kD 1 (by decide) wF_X9_19 rfl dX9_set_82 ?_
              refine v_aload_n C dX9_set_85 rfl ?_
              refine v_get C kX9 kD 0 (by decide) wF_X9_10 rfl dX9_set_86 ?_
              refine v_callV (As := [.ref la]) (rest := []) (b := al) C (c_X0_develop (xl X) (xg X) (mset M (mk i) (aI (xg X) 11 (fun q => nI (mU m i w v i q)))) al pt pa ca ka ra nP pf pl ph cn lk kA la ta th mk dn nT (mU m i w v) lo hi kL) pm_X0_develop wI_X0_develop wS_X0_develop wM_X9_71 kX0 kA.2.1 ⟨by decide, by decide⟩ ⟨by decide, by decide⟩ (nle rfl) dX9_set_89 rfl ?_
              rintro _ N ⟨rfl, cn', lk', hN, hr, hfr⟩
              have hE := desk_dev kD kL kA ⟨K (ks := [1, 109]) (by decide) _ _ hF (by simp [kd]), K (ks := [1, 109]) (by decide) _ _ hV (by simp [kd])⟩ (hU.keepN (K (by decide))) ⟨K (ks := [4]) (by decide) _ _ hI (by simp [kd]), K (ks := [196]) (by decide) _ _ hX (by simp [kd])⟩ (hY.keep (K (by decide))) hdB hcB hinj hxr hct hN hr hfr
              show V X (rmD 8 0 0) N 0 0 [(5, .int (nI (m i w))), (4, .ref (th i)), (0, .ref dk), (1, .int (nI i)), (2, .int (nI w)), (3, .int (nI v))] 92 []
              refine v_iload C dX9_set_92 rfl ?_
              exact v_iret C E dX9_set_94 (nle rfl) (nle rfl) ⟨by simp only [aSet, hx, hok, if_true, nI_clamp (n := w) (show w < 2 ^ 31 by omega)], by simp only [sSet, hx, hok, if_true, nI_clamp (n := w) (show w < 2 ^ 31 by omega), nI_clamp (n := v) (show v < 2 ^ 31 by omega)]; exact hE.W⟩
        · have hok : okSet (nI w) vv = false := by unfold okSet; first | rw [if_pos h36, h48, Bool.and_false] | rw [if_neg h36, h48, Bool.and_false]
          refine v_bipush C dX9_set_51 (v := (-2)) rfl ?_
          exact v_iret C E dX9_set_53 (nle rfl) (nle rfl) ⟨by simp [aSet, hx, hok], by simp only [sSet, hx, hok]; exact hD.W⟩
    · have hok : okSet ww vv = false := by unfold okSet; rw [h25]; rfl
      refine v_bipush C dX9_set_28 (v := (-2)) rfl ?_
      exact v_iret C E dX9_set_30 (nle rfl) (nle rfl) ⟨by simp [aSet, hx, hok], by simp only [sSet, hx, hok]; exact hD.W⟩
  · have hzi := trivial
    show V X (rmD 8 0 0) M 0 0 [(0, .ref dk), (1, .int t), (2, .int ww), (3, .int vv)] 0 []
    refine v_aload_n C dX9_set_0 rfl ?_
    refine v_get C kX9 hD1 0 (by decide) wF_X9_10 rfl dX9_set_1 ?_
    refine v_iload_n C dX9_set_4 rfl ?_
    refine v_callV (As := [.int t]) (rest := []) (b := la) C (c_X3_findN (xl X) (xg X) M la ta th mk dn nT m lo hi t hn hL) pm_X3_find wI_X3_find wS_X3_find wM_X9_75 kX3 hL.2.1 ⟨by decide, by decide⟩ ⟨by decide, by decide⟩ (nle rfl) dX9_set_5 rfl (dt1 ?_)
    show V X (rmD 8 0 0) M 0 0 [(0, .ref dk), (1, .int t), (2, .int ww), (3, .int vv)] 8 [.null]
    refine v_astoreN (lv' := [(4, .null), (0, .ref dk), (1, .int t), (2, .int ww), (3, .int vv)]) C dX9_set_8 hN (by decide) rfl ?_
    refine v_aloadN C dX9_set_10 rfl ?_
    refine v_ifnonnullN C dX9_set_12 ?_
    refine v_iconst C dX9_set_15 (v := (-1)) rfl ?_
    exact v_iret C E dX9_set_16 (nle rfl) (nle rfl) ⟨by simp [aSet, hx], by simp only [sSet, hx]; exact hD.W⟩


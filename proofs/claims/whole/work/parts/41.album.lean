/-! Album. -/
set_option maxHeartbeats 4000000 in
set_option maxRecDepth 100000 in
theorem c_X0_size (l : Launch) (g : Gm) (M : Mem) (al pt : Nat) (pa ca ka ra : Nat → Nat) (nP : Nat) (pf : Nat → Nat → Nat) (pl ph : Nat → Int64) (cn lk : Nat → Nat → Int32) (hA : AlbW g M al pt pa ca ka ra nP pf pl ph cn lk) : Ct l g yX0_size cX0_size 1 (some .int) 0 0 0 [.ref al] M (fun v N => v = some (.int (nI nP)) ∧ N = M) := by
  refine Ct.of (by decide) (Nat.le_of_ble_eq_true rfl) ?_
  intro X hXl hXg hN C E
  subst hXl; subst hXg
  show V X (rmD 0 0 0) M 0 0 [(0, .ref al)] 0 []
  refine v_aload_n C dX0_size_0 rfl ?_
  refine v_get C kX0 hA.2.1 1 (by decide) wF_X0_17 rfl dX0_size_1 ?_
  exact v_iret C E dX0_size_4 (nle rfl) (nle rfl) ⟨rfl, rfl⟩

set_option maxHeartbeats 4000000 in
set_option maxRecDepth 100000 in
theorem c_X0_isFull (l : Launch) (g : Gm) (M : Mem) (al pt : Nat) (pa ca ka ra : Nat → Nat) (nP : Nat) (pf : Nat → Nat → Nat) (pl ph : Nat → Int64) (cn lk : Nat → Nat → Int32) (hA : AlbW g M al pt pa ca ka ra nP pf pl ph cn lk) : Ct l g yX0_isFull cX0_isFull 1 (some .boolean) 0 0 0 [.ref al] M (fun v N => v = some (.int (bI (decide (10 ≤ nP)))) ∧ N = M) := by
  refine Ct.of (by decide) (Nat.le_of_ble_eq_true rfl) ?_
  intro X hXl hXg hN C E
  subst hXl; subst hXg
  show V X (rmD 0 0 0) M 0 0 [(0, .ref al)] 0 []
  refine v_aload_n C dX0_isFull_0 rfl ?_
  refine v_get C kX0 hA.2.1 1 (by decide) wF_X0_17 rfl dX0_isFull_1 ?_
  refine v_bipush C dX0_isFull_4 (v := 10) rfl ?_
  refine v_icmp_lt (tgt := 13) C dX0_isFull_6 (by decide) (fun h6 => ?_) (fun h6 => ?_)
  · refine v_iconst C dX0_isFull_13 (v := 0) rfl ?_
    exact v_zret C E dX0_isFull_14 (nle rfl) (nle rfl) (by decide) ⟨by rw [decide_eq_false (fun q => absurd (nI_ltN (a := nP) (b := 10) (by have := hA.1; omega) (by decide) h6) (Nat.not_lt.mpr q))]; rfl, rfl⟩
  · refine v_iconst C dX0_isFull_9 (v := 1) rfl ?_
    refine v_goto (tgt := 14) C dX0_isFull_10 (by decide) ?_
    exact v_zret C E dX0_isFull_14 (nle rfl) (nle rfl) (by decide) ⟨by rw [decide_eq_true (nI_nltN (a := nP) (b := 10) (by have := hA.1; omega) (by decide) h6)]; rfl, rfl⟩

set_option maxHeartbeats 4000000 in
set_option maxRecDepth 100000 in
theorem c_X0_find (l : Launch) (g : Gm) (M : Mem) (al pt : Nat) (pa ca ka ra : Nat → Nat) (nP : Nat) (pf : Nat → Nat → Nat) (pl ph : Nat → Int64) (cn lk : Nat → Nat → Int32) (i : Nat) (lt : i < nP) (hA : AlbW g M al pt pa ca ka ra nP pf pl ph cn lk) : Ct l g yX0_find cX0_find 2 (some (.object "PictureDesk$Picture")) 1 0 0 [.ref al, .int (nI i)] M (fun v N => v = some (.ref (pa i)) ∧ N = M) := by
  refine Ct.of (by decide) (Nat.le_of_ble_eq_true rfl) ?_
  intro X hXl hXg hN C E
  subst hXl; subst hXg
  show V X (rmD 1 0 0) M 0 0 [(0, .ref al), (1, .int (nI i))] 0 []
  have h10 := hA.1
  have hq : qin (nI i) 0 9 = true := by rw [show qin (nI i) 0 9 = qin (nI i) (nI 0) (nI 9) from rfl, qin_N (by omega) (by decide) (by decide)]; simp; omega
  refine v_iload_n C dX0_find_0 rfl ?_
  refine v_iconst C dX0_find_1 (v := 0) rfl ?_
  refine v_bipush C dX0_find_2 (v := 9) rfl ?_
  refine v_callSN (As := [.int (nI i), .int 0, .int 9]) (rest := []) C (c_X9_isWithin (xl X) (xg X) (nI i) 0 9 M) pm_X9_isWithin wT_X9_isWithin wMN_X0_25 ⟨by decide, by decide⟩ ⟨by decide, by decide⟩ (nle rfl) dX0_find_4 rfl (dt1 ?_)
  show V X (rmD 1 0 0) M 0 0 [(0, .ref al), (1, .int (nI i))] 7 [.int (bI (qin (nI i) 0 9))]
  refine v_ifb_eq (tgt := 19) C dX0_find_7 (by decide) (fun hbad => absurd hbad (by rw [hq]; decide)) (fun h7 => ?_)
  refine v_aload_n C dX0_find_10 rfl ?_
  refine v_get C kX0 hA.2.1 0 (by decide) wF_X0_11 rfl dX0_find_11 ?_
  refine v_iload_n C dX0_find_14 rfl ?_
  refine v_aald C (by decide) hA.2.2.1 (vp_in_nI (by omega) (by decide)) dX0_find_15 ?_
  rw [nI_clamp (by omega), if_pos lt]
  show V X (rmD 1 0 0) M 0 0 [(0, .ref al), (1, .int (nI i))] 16 [.ref (pa i)]
  refine v_goto (tgt := 20) C dX0_find_16 (by decide) ?_
  exact v_aret (r := some (pa i)) C E dX0_find_20 (nle rfl) (nle rfl) ⟨rfl, rfl⟩

set_option maxHeartbeats 4000000 in
set_option maxRecDepth 100000 in
theorem c_X0_findN (l : Launch) (g : Gm) (M : Mem) (al pt : Nat) (pa ca ka ra : Nat → Nat) (nP : Nat) (pf : Nat → Nat → Nat) (pl ph : Nat → Int64) (cn lk : Nat → Nat → Int32) (x : Int32) (hx : ∀ i, i < nP → ¬ x = nI i) (hA : AlbW g M al pt pa ca ka ra nP pf pl ph cn lk) : Ct l g yX0_find cX0_find 2 (some (.object "PictureDesk$Picture")) 1 0 0 [.ref al, .int x] M (fun v N => v = some .null ∧ N = M) := by
  refine Ct.of (by decide) (Nat.le_of_ble_eq_true rfl) ?_
  intro X hXl hXg hN C E
  subst hXl; subst hXg
  show V X (rmD 1 0 0) M 0 0 [(0, .ref al), (1, .int x)] 0 []
  refine v_iload_n C dX0_find_0 rfl ?_
  refine v_iconst C dX0_find_1 (v := 0) rfl ?_
  refine v_bipush C dX0_find_2 (v := 9) rfl ?_
  refine v_callSN (As := [.int x, .int 0, .int 9]) (rest := []) C (c_X9_isWithin (xl X) (xg X) x 0 9 M) pm_X9_isWithin wT_X9_isWithin wMN_X0_25 ⟨by decide, by decide⟩ ⟨by decide, by decide⟩ (nle rfl) dX0_find_4 rfl (dt1 ?_)
  show V X (rmD 1 0 0) M 0 0 [(0, .ref al), (1, .int x)] 7 [.int (bI (qin x 0 9))]
  refine v_ifb_eq (tgt := 19) C dX0_find_7 (by decide) (fun h7 => ?_) (fun h7 => ?_)
  · refine v_null C dX0_find_19 ?_
    exact v_aret (r := none) C E dX0_find_20 (nle rfl) (nle rfl) ⟨rfl, rfl⟩
  · obtain ⟨j, hj, rfl⟩ := qin_nI (N := 9) (by decide) h7
    show V X (rmD 1 0 0) M 0 0 [(0, .ref al), (1, .int (nI j))] 10 []
    refine v_aload_n C dX0_find_10 rfl ?_
    refine v_get C kX0 hA.2.1 0 (by decide) wF_X0_11 rfl dX0_find_11 ?_
    refine v_iload_n C dX0_find_14 rfl ?_
    refine v_aald C (by decide) hA.2.2.1 (vp_in_nI (by omega) (by decide)) dX0_find_15 ?_
    rw [nI_clamp (by omega), if_neg (fun q => hx j q rfl)]
    show V X (rmD 1 0 0) M 0 0 [(0, .ref al), (1, .int (nI j))] 16 [.null]
    refine v_goto (tgt := 20) C dX0_find_16 (by decide) ?_
    exact v_aret (r := none) C E dX0_find_20 (nle rfl) (nle rfl) ⟨rfl, rfl⟩

set_option maxHeartbeats 4000000 in
set_option maxRecDepth 100000 in
theorem c_X0_hasDay (l : Launch) (g : Gm) (M : Mem) (al pt : Nat) (pa ca ka ra : Nat → Nat) (nP : Nat) (pf : Nat → Nat → Nat) (pl ph : Nat → Int64) (cn lk : Nat → Nat → Int32) (hA : AlbW g M al pt pa ca ka ra nP pf pl ph cn lk) (x : Int32) : Ct l g yX0_hasDay cX0_hasDay 4 (some .boolean) 2 0 0 [.ref al, .int x] M (fun v N => v = some (.int (bI (anyB (fun p => decide (nI (pf p 2) = x)) nP))) ∧ N = M) := by
  refine Ct.of (by decide) (Nat.le_of_ble_eq_true rfl) ?_
  intro X hXl hXg hN C E
  subst hXl; subst hXg
  show V X (rmD 2 0 0) M 0 0 [(0, .ref al), (1, .int x)] 0 []
  have h10 := hA.1
  refine v_iconst C dX0_hasDay_0 (v := 0) rfl ?_
  refine v_istore_n (lv' := [(2, .int 0), (0, .ref al), (1, .int x)]) C dX0_hasDay_1 hN (by decide) rfl ?_
  refine v_sub (lv' := [(0, .ref al), (1, .int x), (2, .int 0)]) [1, 2, 0] rfl ?_
  have lp2 : ∀ (mm : Nat) (i : Nat) (h1 : i ≤ nP) (h2 : anyB (fun p => decide (nI (pf p 2) = x)) i = false), nP - i < mm → V X (rmD 2 0 0) M 0 0 [(0, .ref al), (1, .int x), (2, .int (nI i))] 2 [] := by
    intro mm
    induction mm with
    | zero => intro i h1 h2 hmu; exact absurd hmu (Nat.not_lt_zero _)
    | succ mm ih2 =>
      intro i h1 h2 hmu
      refine v_iload_n C dX0_hasDay_2 rfl ?_
      refine v_aload_n C dX0_hasDay_3 rfl ?_
      refine v_get C kX0 hA.2.1 1 (by decide) wF_X0_17 rfl dX0_hasDay_4 ?_
      refine v_icmp_ge (tgt := 36) C dX0_hasDay_7 (by decide) (fun h7 => ?_) (fun h7 => ?_)
      · have g7 : i = nP := Nat.le_antisymm h1 (nI_leN (by omega) (by omega) h7)
        refine v_iconst C dX0_hasDay_36 (v := 0) rfl ?_
        exact v_zret C E dX0_hasDay_37 (nle rfl) (nle rfl) (by decide) ⟨by rw [← g7, h2]; rfl, rfl⟩
      · have g7 := nI_nleN (by omega) (by omega) h7
        refine v_aload_n C dX0_hasDay_10 rfl ?_
        refine v_iload_n C dX0_hasDay_11 rfl ?_
        refine v_callV (As := [.int (nI i)]) (rest := []) (b := al) C (c_X0_find (xl X) (xg X) M al pt pa ca ka ra nP pf pl ph cn lk i g7 hA) pm_X0_find wI_X0_find wS_X0_find wM_X0_29 kX0 hA.2.1 ⟨by decide, by decide⟩ ⟨by decide, by decide⟩ (nle rfl) dX0_hasDay_12 rfl (dt1 ?_)
        show V X (rmD 2 0 0) M 0 0 [(0, .ref al), (1, .int x), (2, .int (nI i))] 15 [.ref (pa i)]
        refine v_astore_n (lv' := [(3, .ref (pa i)), (0, .ref al), (1, .int x), (2, .int (nI i))]) C dX0_hasDay_15 hN (by decide) rfl ?_
        refine v_aload_n C dX0_hasDay_16 rfl ?_
        refine v_ifnull C dX0_hasDay_17 ?_
        refine v_aload_n C dX0_hasDay_20 rfl ?_
        refine v_callV (As := []) (rest := []) (b := pa i) C (c_X5_day (xl X) (xg X) M (pa i) (ca i) (ka i) (ra i) (pf i) (pl i) (ph i) (cn i) (lk i) (hA.2.2.2.1 i (by assumption))) pm_X5_day wI_X5_day wS_X5_day wM_X0_33 kX5 ((hA.2.2.2.1 i g7).2.2.1) ⟨by decide, by decide⟩ ⟨by decide, by decide⟩ (nle rfl) dX0_hasDay_21 rfl (dt1 ?_)
        show V X (rmD 2 0 0) M 0 0 [(3, .ref (pa i)), (0, .ref al), (1, .int x), (2, .int (nI i))] 24 [.int (nI (pf i 2))]
        refine v_iload_n C dX0_hasDay_24 rfl ?_
        refine v_icmp_ne (tgt := 30) C dX0_hasDay_25 (by decide) (fun h25 => ?_) (fun h25 => ?_)
        · refine v_iinc (lv' := [(2, .int (nI (i + 1))), (3, .ref (pa i)), (0, .ref al), (1, .int x)]) C dX0_hasDay_30 3 rfl (nI_1 _) hN (by decide) rfl ?_
          refine v_goto (tgt := 2) C dX0_hasDay_33 (by decide) ?_
          refine v_sub (lv' := [(0, .ref al), (1, .int x), (2, .int (nI (i + 1)))]) [2, 3, 0] rfl ?_
          exact ih2 (i + 1) (by omega) (by simp [anyB, h2, h25]) (by omega)
        · refine v_iconst C dX0_hasDay_28 (v := 1) rfl ?_
          exact v_zret C E dX0_hasDay_29 (nle rfl) (nle rfl) (by decide) ⟨by rw [anyB_iff.mpr ⟨i, g7, by simpa using h25⟩]; rfl, rfl⟩
  exact lp2 (_ + 1) 0 (Nat.zero_le _) rfl (Nat.lt_succ_self _)

set_option maxHeartbeats 4000000 in
set_option maxRecDepth 100000 in
theorem c_X0_develop (l : Launch) (g : Gm) (M : Mem) (al pt : Nat) (pa ca ka ra : Nat → Nat) (nP : Nat) (pf : Nat → Nat → Nat) (pl ph : Nat → Int64) (cn lk : Nat → Nat → Int32) (hA : AlbW g M al pt pa ca ka ra nP pf pl ph cn lk) (la ta : Nat) (th mk dn : Nat → Nat) (nT : Nat) (m : Nat → Nat → Nat) (lo hi : Nat → Int64) (hL : LandW g M la ta th mk dn nT m lo hi) : Ct l g yX0_develop cX0_develop 4 none 5 0 0 [.ref al, .ref la] M (fun v N => v = none ∧ ∃ cn' lk', AlbW g N al pt pa ca ka ra nP pf pl ph cn' lk' ∧ (∀ j, j < nP → ∀ c, c < 96 → cn' j c = oI (bst m (c % 12) (c / 12) (pf j 2) nT) ∧ lk' j c = nI (lookN m nT (pf j) c)) ∧ ∀ a, (∀ j, j < nP → a ≠ ka j ∧ a ≠ ra j) → N a = M a) := by
  refine Ct.of (by decide) (Nat.le_of_ble_eq_true rfl) ?_
  intro X hXl hXg hN C E
  subst hXl; subst hXg
  show V X (rmD 5 0 0) M 0 0 [(0, .ref al), (1, .ref la)] 0 []
  have h10 := hA.1
  refine v_iconst C dX0_develop_0 (v := 0) rfl ?_
  refine v_istore_n (lv' := [(2, .int 0), (0, .ref al), (1, .ref la)]) C dX0_develop_1 hN (by decide) rfl ?_
  refine v_sub (lv' := [(0, .ref al), (1, .ref la), (2, .int 0)]) [1, 2, 0] rfl ?_
  have lp2 : ∀ (mm : Nat) (i : Nat) (N : Mem) (cn' : Nat → Nat → Int32) (lk' : Nat → Nat → Int32) (h1 : i ≤ nP) (hA2 : AlbW (xg X) N al pt pa ca ka ra nP pf pl ph cn' lk') (h2 : ∀ j, j < i → ∀ c, c < 96 → cn' j c = oI (bst m (c % 12) (c / 12) (pf j 2) nT) ∧ lk' j c = nI (lookN m nT (pf j) c)) (h3 : ∀ a, (∀ j, j < nP → a ≠ ka j ∧ a ≠ ra j) → N a = M a), nP - i < mm → V X (rmD 5 0 0) N 0 0 [(0, .ref al), (1, .ref la), (2, .int (nI i))] 2 [] := by
    intro mm
    induction mm with
    | zero => intro i N cn' lk' h1 hA2 h2 h3 hmu; exact absurd hmu (Nat.not_lt_zero _)
    | succ mm ih2 =>
      intro i N cn' lk' h1 hA2 h2 h3 hmu
      have hL2 : LandW (xg X) N la ta th mk dn nT m lo hi := hL.frame (S := fun a => ∃ j, j < nP ∧ (a = ka j ∨ a = ra j)) (fun a ha => by
          obtain ⟨j, hj, rfl | rfl⟩ := ha
          · exact ⟨_, (hA.2.2.2.1 j hj).2.2.2.2.1⟩
          · exact ⟨_, (hA.2.2.2.1 j hj).2.2.2.2.2⟩) (fun a ha => h3 a (fun j hj => ⟨fun q => ha ⟨j, hj, Or.inl q⟩, fun q => ha ⟨j, hj, Or.inr q⟩⟩))
      refine v_iload_n C dX0_develop_2 rfl ?_
      refine v_aload_n C dX0_develop_3 rfl ?_
      refine v_get C kX0 hA2.2.1 1 (by decide) wF_X0_17 rfl dX0_develop_4 ?_
      refine v_icmp_ge (tgt := 31) C dX0_develop_7 (by decide) (fun h7 => ?_) (fun h7 => ?_)
      · have g7 : i = nP := Nat.le_antisymm h1 (nI_leN (by omega) (by omega) h7)
        exact v_vret C E dX0_develop_31 (nle rfl) (nle rfl) ⟨rfl, cn', lk', hA2, fun j hj => h2 j (by omega), h3⟩
      · have g7 := nI_nleN (by omega) (by omega) h7
        refine v_aload_n C dX0_develop_10 rfl ?_
        refine v_iload_n C dX0_develop_11 rfl ?_
        refine v_callV (As := [.int (nI i)]) (rest := []) (b := al) C (c_X0_find (xl X) (xg X) N al pt pa ca ka ra nP pf pl ph cn' lk' i g7 hA2) pm_X0_find wI_X0_find wS_X0_find wM_X0_29 kX0 hA2.2.1 ⟨by decide, by decide⟩ ⟨by decide, by decide⟩ (nle rfl) dX0_develop_12 rfl (dt1 ?_)
        show V X (rmD 5 0 0) N 0 0 [(0, .ref al), (1, .ref la), (2, .int (nI i))] 15 [.ref (pa i)]
        refine v_astore_n (lv' := [(3, .ref (pa i)), (0, .ref al), (1, .ref la), (2, .int (nI i))]) C dX0_develop_15 hN (by decide) rfl ?_
        refine v_aload_n C dX0_develop_16 rfl ?_
        refine v_ifnull C dX0_develop_17 ?_
        refine v_aload_n C dX0_develop_20 rfl ?_
        refine v_aload_n C dX0_develop_21 rfl ?_
        refine v_callV (As := [.ref la]) (rest := []) (b := pa i) C (c_X5_develop (xl X) (xg X) N (pa i) (ca i) (ka i) (ra i) (pf i) (pl i) (ph i) (cn' i) (lk' i) (hA2.2.2.2.1 i g7) la ta th mk dn nT m lo hi hL2) pm_X5_develop wI_X5_develop wS_X5_develop wM_X0_37 kX5 ((hA2.2.2.2.1 i g7).2.2.1) ⟨by decide, by decide⟩ ⟨by decide, by decide⟩ (nle rfl) dX0_develop_22 rfl ?_
        rintro _ _ ⟨rfl, f1, f2, rfl, hf1, hf2⟩
        show V X (rmD 5 0 0) (mset (mset N (ka i) (aI (xg X) 96 f1)) (ra i) (aI (xg X) 96 f2)) 0 0 [(3, .ref (pa i)), (0, .ref al), (1, .ref la), (2, .int (nI i))] 25 []
        refine v_iinc (lv' := [(2, .int (nI (i + 1))), (3, .ref (pa i)), (0, .ref al), (1, .ref la)]) C dX0_develop_25 3 rfl (nI_1 _) hN (by decide) rfl ?_
        refine v_goto (tgt := 2) C dX0_develop_28 (by decide) ?_
        refine v_sub (lv' := [(0, .ref al), (1, .ref la), (2, .int (nI (i + 1)))]) [2, 3, 0] rfl ?_
        refine ih2 (i + 1) _ _ _ (by omega) (hA2.dev g7 f1 f2) (fun j hj c hc => ?_) (fun a ha => by rw [mset_ne (ha i g7).2, mset_ne (ha i g7).1]; exact h3 a ha) (by omega)
        by_cases q : j = i
        · subst q
          simp only [if_true]
          exact ⟨hf1 c hc, hf2 c hc⟩
        · simp only [q, if_false]
          exact h2 j (by omega) c hc
  exact lp2 (_ + 1) 0 M cn lk (Nat.zero_le _) hA (fun j hj => absurd hj (Nat.not_lt_zero _)) (fun a _ => rfl) (Nat.lt_succ_self _)


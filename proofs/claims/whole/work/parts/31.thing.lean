/-! Ticks and Thing. -/
set_option maxHeartbeats 4000000 in
set_option maxRecDepth 100000 in
theorem c_X7_has (l : Launch) (g : Gm) (M : Mem) (a : Nat) (lo hi : Int64) (j : Nat) (hm : M a = some (.inr (7, [.long lo, .long hi]))) (hj : j < 128) : Ct l g yX7_has cX7_has 4 (some .boolean) 0 0 0 [.ref a, .int (nI j)] M (fun w N => w = some (.int (bI (tk lo hi j))) ∧ N = M) := by
  refine Ct.of (by decide) (Nat.le_of_ble_eq_true rfl) ?_
  intro X hXl hXg hN C E
  subst hXl; subst hXg
  show V X (rmD 0 0 0) M 0 0 [(0, .ref a), (1, .int (nI j))] 0 []
  refine v_iload_n C dX7_has_0 rfl ?_
  refine v_if_lt (tgt := 10) C dX7_has_1 (by decide) (fun hbad => absurd hbad (nI_pos (by omega))) (fun h1 => ?_)
  refine v_iload_n C dX7_has_4 rfl ?_
  refine v_bipush C dX7_has_5 (v := 127) rfl ?_
  refine v_icmp_le (tgt := 12) C dX7_has_7 (by decide) (fun h7 => ?_) (fun hbad => absurd hbad (not_not_intro (nI_le (a := j) (b := 127) (by omega) (by decide))))
  refine v_iload_n C dX7_has_12 rfl ?_
  refine v_bipush C dX7_has_13 (v := 64) rfl ?_
  refine v_icmp_ge (tgt := 25) C dX7_has_15 (by decide) (fun h15 => ?_) (fun h15 => ?_)
  · refine v_aload_n C dX7_has_25 rfl ?_
    refine v_get C kX7 hm 1 (by decide) wF_X7_13 rfl dX7_has_26 ?_
    refine v_lstore_n (lv' := [(2, .long hi), (0, .ref a), (1, .int (nI j))]) C dX7_has_29 hN (by decide) rfl ?_
    refine v_lload_n C dX7_has_30 rfl ?_
    refine v_iload_n C dX7_has_31 rfl ?_
    refine v_bipush C dX7_has_32 (v := 63) rfl ?_
    refine v_iand C dX7_has_34 ?_
    refine v_lushr C dX7_has_35 ?_
    refine v_lconst C dX7_has_36 (v := 1) rfl ?_
    refine v_land C dX7_has_37 ?_
    refine v_lconst C dX7_has_38 (v := 1) rfl ?_
    refine v_lcmp C dX7_has_39 ?_
    refine v_if_ne (tgt := 47) C dX7_has_40 (by decide) (fun h40 => ?_) (fun h40 => ?_)
    · refine v_iconst C dX7_has_47 (v := 0) rfl ?_
      exact v_zret C E dX7_has_48 (nle rfl) (nle rfl) (by decide) ⟨by rw [Bool.eq_false_iff.mpr (fun q => h40 ((lg_cmp_eq _ _).mpr ((tk_hi (lo := lo) (hi := hi) hj h15).mpr q)))]; rfl, rfl⟩
    · refine v_iconst C dX7_has_43 (v := 1) rfl ?_
      refine v_goto (tgt := 48) C dX7_has_44 (by decide) ?_
      exact v_zret C E dX7_has_48 (nle rfl) (nle rfl) (by decide) ⟨by rw [(tk_hi (lo := lo) (hi := hi) hj h15).mp ((lg_cmp_eq _ _).mp h40)]; rfl, rfl⟩
  · refine v_aload_n C dX7_has_18 rfl ?_
    refine v_get C kX7 hm 0 (by decide) wF_X7_7 rfl dX7_has_19 ?_
    refine v_goto (tgt := 29) C dX7_has_22 (by decide) ?_
    refine v_lstore_n (lv' := [(2, .long lo), (0, .ref a), (1, .int (nI j))]) C dX7_has_29 hN (by decide) rfl ?_
    refine v_lload_n C dX7_has_30 rfl ?_
    refine v_iload_n C dX7_has_31 rfl ?_
    refine v_bipush C dX7_has_32 (v := 63) rfl ?_
    refine v_iand C dX7_has_34 ?_
    refine v_lushr C dX7_has_35 ?_
    refine v_lconst C dX7_has_36 (v := 1) rfl ?_
    refine v_land C dX7_has_37 ?_
    refine v_lconst C dX7_has_38 (v := 1) rfl ?_
    refine v_lcmp C dX7_has_39 ?_
    refine v_if_ne (tgt := 47) C dX7_has_40 (by decide) (fun h40 => ?_) (fun h40 => ?_)
    · refine v_iconst C dX7_has_47 (v := 0) rfl ?_
      exact v_zret C E dX7_has_48 (nle rfl) (nle rfl) (by decide) ⟨by rw [Bool.eq_false_iff.mpr (fun q => h40 ((lg_cmp_eq _ _).mpr ((tk_lo (lo := lo) (hi := hi) hj h15).mpr q)))]; rfl, rfl⟩
    · refine v_iconst C dX7_has_43 (v := 1) rfl ?_
      refine v_goto (tgt := 48) C dX7_has_44 (by decide) ?_
      exact v_zret C E dX7_has_48 (nle rfl) (nle rfl) (by decide) ⟨by rw [(tk_lo (lo := lo) (hi := hi) hj h15).mp ((lg_cmp_eq _ _).mp h40)]; rfl, rfl⟩

set_option maxHeartbeats 4000000 in
set_option maxRecDepth 100000 in
theorem c_X7_put (l : Launch) (g : Gm) (M : Mem) (a : Nat) (lo hi : Int64) (j : Nat) (b : Bool) (hm : M a = some (.inr (7, [.long lo, .long hi]))) (hj : j < 128) : Ct l g yX7_put cX7_put 6 (some .boolean) 1 0 0 [.ref a, .int (nI j), .int (bI b)] M (fun w N => w = some (.int (bI (tk lo hi j))) ∧ ∃ lo' hi' : Int64, N = mset M a (.inr (7, [.long lo', .long hi'])) ∧ ∀ i, i < 128 → tk lo' hi' i = if i = j then b else tk lo hi i) := by
  refine Ct.of (by decide) (Nat.le_of_ble_eq_true rfl) ?_
  intro X hXl hXg hN C E
  subst hXl; subst hXg
  show V X (rmD 1 0 0) M 0 0 [(0, .ref a), (1, .int (nI j)), (2, .int (bI b))] 0 []
  refine v_aload_n C dX7_put_0 rfl ?_
  refine v_iload_n C dX7_put_1 rfl ?_
  refine v_callV (As := [.int (nI j)]) (rest := []) (b := a) C (c_X7_has (xl X) (xg X) M a lo hi j hm (by omega)) pm_X7_has wI_X7_has wS_X7_has wM_X7_16 kX7 hm ⟨by decide, by decide⟩ ⟨by decide, by decide⟩ (nle rfl) dX7_put_2 rfl (dt1 ?_)
  show V X (rmD 1 0 0) M 0 0 [(0, .ref a), (1, .int (nI j)), (2, .int (bI b))] 5 [.int (bI (tk lo hi j))]
  refine v_istore_n (lv' := [(3, .int (bI (tk lo hi j))), (0, .ref a), (1, .int (nI j)), (2, .int (bI b))]) C dX7_put_5 hN (by decide) rfl ?_
  refine v_iload_n C dX7_put_6 rfl ?_
  refine v_iload_n C dX7_put_7 rfl ?_
  refine v_icmp_eq (tgt := 21) C dX7_put_8 (by decide) (fun h8 => ?_) (fun h8 => ?_)
  · refine v_iload_n C dX7_put_21 rfl ?_
    exact v_zret C E dX7_put_22 (nle rfl) (nle rfl) (bI_01 _) ⟨rfl, lo, hi, (mset_id hm).symm, fun i _ => by by_cases q : i = j <;> simp [q, bI_inj.mp h8]⟩
  · refine v_iload_n C dX7_put_11 rfl ?_
    refine v_if_lt (tgt := 21) C dX7_put_12 (by decide) (fun hbad => absurd hbad (nI_pos (by omega))) (fun h12 => ?_)
    refine v_iload_n C dX7_put_15 rfl ?_
    refine v_bipush C dX7_put_16 (v := 127) rfl ?_
    refine v_icmp_le (tgt := 23) C dX7_put_18 (by decide) (fun h18 => ?_) (fun hbad => absurd hbad (not_not_intro (nI_le (a := j) (b := 127) (by omega) (by decide))))
    refine v_lconst C dX7_put_23 (v := 1) rfl ?_
    refine v_iload_n C dX7_put_24 rfl ?_
    refine v_bipush C dX7_put_25 (v := 63) rfl ?_
    refine v_iand C dX7_put_27 ?_
    refine v_lshl C dX7_put_28 ?_
    refine v_lstore (lv' := [(4, .long (1 <<< (((nI j) &&& 63 : Int32).toInt64 &&& 63))), (3, .int (bI (tk lo hi j))), (0, .ref a), (1, .int (nI j)), (2, .int (bI b))]) C dX7_put_29 hN (by decide) rfl ?_
    refine v_iload_n C dX7_put_31 rfl ?_
    refine v_bipush C dX7_put_32 (v := 64) rfl ?_
    refine v_icmp_ge (tgt := 51) C dX7_put_34 (by decide) (fun h34 => ?_) (fun h34 => ?_)
    · refine v_aload_n C dX7_put_51 rfl ?_
      refine v_dup C dX7_put_52 rfl ?_
      refine v_get C kX7 hm 1 (by decide) wF_X7_13 rfl dX7_put_53 ?_
      refine v_lload C dX7_put_56 rfl ?_
      refine v_lxor C dX7_put_58 ?_
      refine v_put C kX7 hm 1 (by decide) wF_X7_13 rfl rfl rfl (nle rfl) dX7_put_59 ?_
      show V X (rmD 1 0 0) (mset M a (.inr (7, [.long lo, .long (hi ^^^ (1 <<< (((nI j) &&& 63 : Int32).toInt64 &&& 63)))]))) 0 0 [(4, .long (1 <<< (((nI j) &&& 63 : Int32).toInt64 &&& 63))), (3, .int (bI (tk lo hi j))), (0, .ref a), (1, .int (nI j)), (2, .int (bI b))] 62 []
      refine v_iload_n C dX7_put_62 rfl ?_
      exact v_zret C E dX7_put_63 (nle rfl) (nle rfl) (bI_01 _) ⟨rfl, _, _, rfl, tk_sethi hj h34 (fun q => h8 (by rw [q]))⟩
    · refine v_aload_n C dX7_put_37 rfl ?_
      refine v_dup C dX7_put_38 rfl ?_
      refine v_get C kX7 hm 0 (by decide) wF_X7_7 rfl dX7_put_39 ?_
      refine v_lload C dX7_put_42 rfl ?_
      refine v_lxor C dX7_put_44 ?_
      refine v_put C kX7 hm 0 (by decide) wF_X7_7 rfl rfl rfl (nle rfl) dX7_put_45 ?_
      show V X (rmD 1 0 0) (mset M a (.inr (7, [.long (lo ^^^ (1 <<< (((nI j) &&& 63 : Int32).toInt64 &&& 63))), .long hi]))) 0 0 [(4, .long (1 <<< (((nI j) &&& 63 : Int32).toInt64 &&& 63))), (3, .int (bI (tk lo hi j))), (0, .ref a), (1, .int (nI j)), (2, .int (bI b))] 48 []
      refine v_goto (tgt := 62) C dX7_put_48 (by decide) ?_
      refine v_iload_n C dX7_put_62 rfl ?_
      exact v_zret C E dX7_put_63 (nle rfl) (nle rfl) (bI_01 _) ⟨rfl, _, _, rfl, tk_setlo hj h34 (fun q => h8 (by rw [q]))⟩

set_option maxHeartbeats 4000000 in
set_option maxRecDepth 100000 in
theorem c_X7_init (l : Launch) (g : Gm) (M : Mem) (a : Nat)  : Ct l g yX7_init cX7_init 1 none 1 0 0 [.ref a] M (fun w N => w = none ∧ N = M) := by
  refine Ct.of (by decide) (Nat.le_of_ble_eq_true rfl) ?_
  intro X hXl hXg hN C E
  subst hXl; subst hXg
  show V X (rmD 1 0 0) M 0 0 [(0, .ref a)] 0 []
  refine v_aload_n C dX7_init_0 rfl ?_
  refine v_obj C wM_X7_1 wI_java_lang_Object__init____V wC_java_lang_Object__init____V (by decide) (nle rfl) dX7_init_1 ?_
  exact v_vret C E dX7_init_4 (nle rfl) (nle rfl) ⟨rfl, rfl⟩

set_option maxHeartbeats 4000000 in
set_option maxRecDepth 100000 in
theorem c_X6_number (l : Launch) (g : Gm) (M : Mem) (a ma da : Nat) (nu : Int32) (ht : M a = some (.inr (6, [.int nu, .ref ma, .ref da]))) : Ct l g yX6_number cX6_number 1 (some .int) 0 0 0 [.ref a] M (fun w N => w = some (.int nu) ∧ N = M) := by
  refine Ct.of (by decide) (Nat.le_of_ble_eq_true rfl) ?_
  intro X hXl hXg hN C E
  subst hXl; subst hXg
  show V X (rmD 0 0 0) M 0 0 [(0, .ref a)] 0 []
  refine v_aload_n C dX6_number_0 rfl ?_
  refine v_get C kX6 ht 0 (by decide) wF_X6_18 rfl dX6_number_1 ?_
  exact v_iret C E dX6_number_4 (nle rfl) (nle rfl) ⟨rfl, rfl⟩

set_option maxHeartbeats 4000000 in
set_option maxRecDepth 100000 in
theorem c_X6_mark (l : Launch) (g : Gm) (M : Mem) (a ma da : Nat) (nu : Int32) (f : Nat → Int32) (w : Nat) (hw : w < 11) (ht : M a = some (.inr (6, [.int nu, .ref ma, .ref da]))) (hk : M ma = some (aI g 11 f)) : Ct l g yX6_mark cX6_mark 2 (some .int) 0 0 0 [.ref a, .int (nI w)] M (fun v N => v = some (.int (f w)) ∧ N = M) := by
  refine Ct.of (by decide) (Nat.le_of_ble_eq_true rfl) ?_
  intro X hXl hXg hN C E
  subst hXl; subst hXg
  show V X (rmD 0 0 0) M 0 0 [(0, .ref a), (1, .int (nI w))] 0 []
  refine v_iload_n C dX6_mark_0 rfl ?_
  refine v_if_lt (tgt := 22) C dX6_mark_1 (by decide) (fun hbad => absurd hbad (nI_pos (by omega))) (fun h1 => ?_)
  refine v_iload_n C dX6_mark_4 rfl ?_
  refine v_aload_n C dX6_mark_5 rfl ?_
  refine v_get C kX6 ht 1 (by decide) wF_X6_22 rfl dX6_mark_6 ?_
  refine v_aleni C hk dX6_mark_9 ?_
  refine v_icmp_ge (tgt := 22) C dX6_mark_10 (by decide) (fun hbad => absurd hbad (nI_ge hw (by decide))) (fun h10 => ?_)
  refine v_aload_n C dX6_mark_13 rfl ?_
  refine v_get C kX6 ht 1 (by decide) wF_X6_22 rfl dX6_mark_14 ?_
  refine v_iload_n C dX6_mark_17 rfl ?_
  refine v_iald C hk (vp_in_nI hw (by decide)) dX6_mark_18 ?_
  refine v_goto (tgt := 24) C dX6_mark_19 (by decide) ?_
  exact v_iret C E dX6_mark_24 (nle rfl) (nle rfl) ⟨by rw [nI_clamp (by omega)], rfl⟩

set_option maxHeartbeats 4000000 in
set_option maxRecDepth 100000 in
theorem c_X6_remark (l : Launch) (g : Gm) (M : Mem) (a ma da : Nat) (nu : Int32) (f : Nat → Int32) (w : Nat) (hw : w < 11) (v : Int32) (ht : M a = some (.inr (6, [.int nu, .ref ma, .ref da]))) (hk : M ma = some (aI g 11 f)) : Ct l g yX6_remark cX6_remark 3 none 0 0 0 [.ref a, .int (nI w), .int v] M (fun u N => u = none ∧ N = mset M ma (aI g 11 (upd f w v))) := by
  refine Ct.of (by decide) (Nat.le_of_ble_eq_true rfl) ?_
  intro X hXl hXg hN C E
  subst hXl; subst hXg
  show V X (rmD 0 0 0) M 0 0 [(0, .ref a), (1, .int (nI w)), (2, .int v)] 0 []
  refine v_iload_n C dX6_remark_0 rfl ?_
  refine v_if_lt (tgt := 20) C dX6_remark_1 (by decide) (fun hbad => absurd hbad (nI_pos (by omega))) (fun h1 => ?_)
  refine v_iload_n C dX6_remark_4 rfl ?_
  refine v_aload_n C dX6_remark_5 rfl ?_
  refine v_get C kX6 ht 1 (by decide) wF_X6_22 rfl dX6_remark_6 ?_
  refine v_aleni C hk dX6_remark_9 ?_
  refine v_icmp_ge (tgt := 20) C dX6_remark_10 (by decide) (fun hbad => absurd hbad (nI_ge hw (by decide))) (fun h10 => ?_)
  refine v_aload_n C dX6_remark_13 rfl ?_
  refine v_get C kX6 ht 1 (by decide) wF_X6_22 rfl dX6_remark_14 ?_
  refine v_iload_n C dX6_remark_17 rfl ?_
  refine v_iload_n C dX6_remark_18 rfl ?_
  refine v_iast C hk (vp_in_nI hw (by decide)) dX6_remark_19 ?_
  show V X (rmD 0 0 0) (mset M ma (aI (xg X) 11 (upd f (nI w : Int32).toNatClampNeg v))) 0 0 [(0, .ref a), (1, .int (nI w)), (2, .int v)] 20 []
  exact v_vret C E dX6_remark_20 (nle rfl) (nle rfl) ⟨rfl, by rw [nI_clamp (by omega)]⟩

set_option maxHeartbeats 4000000 in
set_option maxRecDepth 100000 in
theorem c_X6_isThere (l : Launch) (g : Gm) (M : Mem) (a ma da : Nat) (nu : Int32) (f : Nat → Int32) (x : Int32) (ht : M a = some (.inr (6, [.int nu, .ref ma, .ref da]))) (hk : M ma = some (aI g 11 f)) : Ct l g yX6_isThere cX6_isThere 2 (some .boolean) 1 0 0 [.ref a, .int x] M (fun v N => v = some (.int (bI (qin x (f 6) (f 7)))) ∧ N = M) := by
  refine Ct.of (by decide) (Nat.le_of_ble_eq_true rfl) ?_
  intro X hXl hXg hN C E
  subst hXl; subst hXg
  show V X (rmD 1 0 0) M 0 0 [(0, .ref a), (1, .int x)] 0 []
  refine v_iload_n C dX6_isThere_0 rfl ?_
  refine v_aload_n C dX6_isThere_1 rfl ?_
  refine v_bipush C dX6_isThere_2 (v := 6) rfl ?_
  refine v_callV (As := [.int 6]) (rest := [.int x]) (b := a) C (c_X6_mark (xl X) (xg X) M a ma da nu f 6 (by decide) ht hk) pm_X6_mark wI_X6_mark wS_X6_mark wM_X6_26 kX6 ht ⟨by decide, by decide⟩ ⟨by decide, by decide⟩ (nle rfl) dX6_isThere_4 rfl (dt1 ?_)
  show V X (rmD 1 0 0) M 0 0 [(0, .ref a), (1, .int x)] 7 [.int (f 6), .int x]
  refine v_aload_n C dX6_isThere_7 rfl ?_
  refine v_bipush C dX6_isThere_8 (v := 7) rfl ?_
  refine v_callV (As := [.int 7]) (rest := [.int (f 6), .int x]) (b := a) C (c_X6_mark (xl X) (xg X) M a ma da nu f 7 (by decide) ht hk) pm_X6_mark wI_X6_mark wS_X6_mark wM_X6_26 kX6 ht ⟨by decide, by decide⟩ ⟨by decide, by decide⟩ (nle rfl) dX6_isThere_10 rfl (dt1 ?_)
  show V X (rmD 1 0 0) M 0 0 [(0, .ref a), (1, .int x)] 13 [.int (f 7), .int (f 6), .int x]
  refine v_callSN (As := [.int x, .int (f 6), .int (f 7)]) (rest := []) C (c_X9_isWithin (xl X) (xg X) x (f 6) (f 7) M) pm_X9_isWithin wT_X9_isWithin wMN_X6_30 ⟨by decide, by decide⟩ ⟨by decide, by decide⟩ (nle rfl) dX6_isThere_13 rfl (dt1 ?_)
  show V X (rmD 1 0 0) M 0 0 [(0, .ref a), (1, .int x)] 16 [.int (bI (qin x (f 6) (f 7)))]
  exact v_zret C E dX6_isThere_16 (nle rfl) (nle rfl) (bI_01 _) ⟨rfl, rfl⟩

/-- the CELL x y is one of those that a THING with the marks f lies on -/
def lies (f : Nat → Int32) (x y : Int32) : Bool := qin (x - f 0) 0 (f 2 - 1) && qin (y - f 1) 0 (f 3 - 1)
set_option maxHeartbeats 4000000 in
set_option maxRecDepth 100000 in
theorem c_X6_liesOn (l : Launch) (g : Gm) (M : Mem) (a ma da : Nat) (nu : Int32) (f : Nat → Int32) (x y : Int32) (ht : M a = some (.inr (6, [.int nu, .ref ma, .ref da]))) (hk : M ma = some (aI g 11 f)) : Ct l g yX6_liesOn cX6_liesOn 5 (some .boolean) 1 0 0 [.ref a, .int x, .int y] M (fun v N => v = some (.int (bI (lies f x y))) ∧ N = M) := by
  refine Ct.of (by decide) (Nat.le_of_ble_eq_true rfl) ?_
  intro X hXl hXg hN C E
  subst hXl; subst hXg
  show V X (rmD 1 0 0) M 0 0 [(0, .ref a), (1, .int x), (2, .int y)] 0 []
  refine v_iload_n C dX6_liesOn_0 rfl ?_
  refine v_aload_n C dX6_liesOn_1 rfl ?_
  refine v_iconst C dX6_liesOn_2 (v := 0) rfl ?_
  refine v_callV (As := [.int 0]) (rest := [.int x]) (b := a) C (c_X6_mark (xl X) (xg X) M a ma da nu f 0 (by decide) ht hk) pm_X6_mark wI_X6_mark wS_X6_mark wM_X6_26 kX6 ht ⟨by decide, by decide⟩ ⟨by decide, by decide⟩ (nle rfl) dX6_liesOn_3 rfl (dt1 ?_)
  show V X (rmD 1 0 0) M 0 0 [(0, .ref a), (1, .int x), (2, .int y)] 6 [.int (f 0), .int x]
  refine v_isub C dX6_liesOn_6 ?_
  refine v_istore_n (lv' := [(3, .int (x - (f 0))), (0, .ref a), (1, .int x), (2, .int y)]) C dX6_liesOn_7 hN (by decide) rfl ?_
  refine v_iload_n C dX6_liesOn_8 rfl ?_
  refine v_aload_n C dX6_liesOn_9 rfl ?_
  refine v_iconst C dX6_liesOn_10 (v := 1) rfl ?_
  refine v_callV (As := [.int 1]) (rest := [.int y]) (b := a) C (c_X6_mark (xl X) (xg X) M a ma da nu f 1 (by decide) ht hk) pm_X6_mark wI_X6_mark wS_X6_mark wM_X6_26 kX6 ht ⟨by decide, by decide⟩ ⟨by decide, by decide⟩ (nle rfl) dX6_liesOn_11 rfl (dt1 ?_)
  show V X (rmD 1 0 0) M 0 0 [(3, .int (x - (f 0))), (0, .ref a), (1, .int x), (2, .int y)] 14 [.int (f 1), .int y]
  refine v_isub C dX6_liesOn_14 ?_
  refine v_istore (lv' := [(4, .int (y - (f 1))), (3, .int (x - (f 0))), (0, .ref a), (1, .int x), (2, .int y)]) C dX6_liesOn_15 hN (by decide) rfl ?_
  refine v_iload_n C dX6_liesOn_17 rfl ?_
  refine v_iconst C dX6_liesOn_18 (v := 0) rfl ?_
  refine v_aload_n C dX6_liesOn_19 rfl ?_
  refine v_iconst C dX6_liesOn_20 (v := 2) rfl ?_
  refine v_callV (As := [.int 2]) (rest := [.int 0, .int (x - (f 0))]) (b := a) C (c_X6_mark (xl X) (xg X) M a ma da nu f 2 (by decide) ht hk) pm_X6_mark wI_X6_mark wS_X6_mark wM_X6_26 kX6 ht ⟨by decide, by decide⟩ ⟨by decide, by decide⟩ (nle rfl) dX6_liesOn_21 rfl (dt1 ?_)
  show V X (rmD 1 0 0) M 0 0 [(4, .int (y - (f 1))), (3, .int (x - (f 0))), (0, .ref a), (1, .int x), (2, .int y)] 24 [.int (f 2), .int 0, .int (x - (f 0))]
  refine v_iconst C dX6_liesOn_24 (v := 1) rfl ?_
  refine v_isub C dX6_liesOn_25 ?_
  refine v_callSN (As := [.int (x - (f 0)), .int 0, .int ((f 2) - 1)]) (rest := []) C (c_X9_isWithin (xl X) (xg X) (x - (f 0)) 0 ((f 2) - 1) M) pm_X9_isWithin wT_X9_isWithin wMN_X6_30 ⟨by decide, by decide⟩ ⟨by decide, by decide⟩ (nle rfl) dX6_liesOn_26 rfl (dt1 ?_)
  show V X (rmD 1 0 0) M 0 0 [(4, .int (y - (f 1))), (3, .int (x - (f 0))), (0, .ref a), (1, .int x), (2, .int y)] 29 [.int (bI (qin (x - (f 0)) 0 ((f 2) - 1)))]
  refine v_ifb_eq (tgt := 52) C dX6_liesOn_29 (by decide) (fun h29 => ?_) (fun h29 => ?_)
  · refine v_iconst C dX6_liesOn_52 (v := 0) rfl ?_
    exact v_zret C E dX6_liesOn_53 (nle rfl) (nle rfl) (by decide) ⟨by simp_all [lies, bI], rfl⟩
  · refine v_iload C dX6_liesOn_32 rfl ?_
    refine v_iconst C dX6_liesOn_34 (v := 0) rfl ?_
    refine v_aload_n C dX6_liesOn_35 rfl ?_
    refine v_iconst C dX6_liesOn_36 (v := 3) rfl ?_
    refine v_callV (As := [.int 3]) (rest := [.int 0, .int (y - (f 1))]) (b := a) C (c_X6_mark (xl X) (xg X) M a ma da nu f 3 (by decide) ht hk) pm_X6_mark wI_X6_mark wS_X6_mark wM_X6_26 kX6 ht ⟨by decide, by decide⟩ ⟨by decide, by decide⟩ (nle rfl) dX6_liesOn_37 rfl (dt1 ?_)
    show V X (rmD 1 0 0) M 0 0 [(4, .int (y - (f 1))), (3, .int (x - (f 0))), (0, .ref a), (1, .int x), (2, .int y)] 40 [.int (f 3), .int 0, .int (y - (f 1))]
    refine v_iconst C dX6_liesOn_40 (v := 1) rfl ?_
    refine v_isub C dX6_liesOn_41 ?_
    refine v_callSN (As := [.int (y - (f 1)), .int 0, .int ((f 3) - 1)]) (rest := []) C (c_X9_isWithin (xl X) (xg X) (y - (f 1)) 0 ((f 3) - 1) M) pm_X9_isWithin wT_X9_isWithin wMN_X6_30 ⟨by decide, by decide⟩ ⟨by decide, by decide⟩ (nle rfl) dX6_liesOn_42 rfl (dt1 ?_)
    show V X (rmD 1 0 0) M 0 0 [(4, .int (y - (f 1))), (3, .int (x - (f 0))), (0, .ref a), (1, .int x), (2, .int y)] 45 [.int (bI (qin (y - (f 1)) 0 ((f 3) - 1)))]
    refine v_ifb_eq (tgt := 52) C dX6_liesOn_45 (by decide) (fun h45 => ?_) (fun h45 => ?_)
    · refine v_iconst C dX6_liesOn_52 (v := 0) rfl ?_
      exact v_zret C E dX6_liesOn_53 (nle rfl) (nle rfl) (by decide) ⟨by simp_all [lies, bI], rfl⟩
    · refine v_iconst C dX6_liesOn_48 (v := 1) rfl ?_
      refine v_goto (tgt := 53) C dX6_liesOn_49 (by decide) ?_
      exact v_zret C E dX6_liesOn_53 (nle rfl) (nle rfl) (by decide) ⟨by simp_all [lies, bI], rfl⟩

set_option maxHeartbeats 4000000 in
set_option maxRecDepth 100000 in
theorem c_X6_isAboveN (l : Launch) (g : Gm) (M : Mem) (a ma da : Nat) (nu : Int32) (f : Nat → Int32) (ht : M a = some (.inr (6, [.int nu, .ref ma, .ref da]))) (hk : M ma = some (aI g 11 f)) : Ct l g yX6_isAbove cX6_isAbove 2 (some .boolean) 1 0 0 [.ref a, .null] M (fun v N => v = some (.int (bI true)) ∧ N = M) := by
  refine Ct.of (by decide) (Nat.le_of_ble_eq_true rfl) ?_
  intro X hXl hXg hN C E
  subst hXl; subst hXg
  show V X (rmD 1 0 0) M 0 0 [(0, .ref a), (1, .null)] 0 []
  refine v_aload_nN C dX6_isAbove_0 rfl ?_
  refine v_ifnullN (tgt := 17) C dX6_isAbove_1 (by decide) ?_
  refine v_iconst C dX6_isAbove_17 (v := 1) rfl ?_
  refine v_goto (tgt := 22) C dX6_isAbove_18 (by decide) ?_
  exact v_zret C E dX6_isAbove_22 (nle rfl) (nle rfl) (by decide) ⟨rfl, rfl⟩

set_option maxHeartbeats 4000000 in
set_option maxRecDepth 100000 in
theorem c_X6_isAbove (l : Launch) (g : Gm) (M : Mem) (a ma da : Nat) (nu : Int32) (f : Nat → Int32) (b mb db : Nat) (nb : Int32) (q : Nat → Int32) (ht : M a = some (.inr (6, [.int nu, .ref ma, .ref da]))) (hk : M ma = some (aI g 11 f)) (ht2 : M b = some (.inr (6, [.int nb, .ref mb, .ref db]))) (hk2 : M mb = some (aI g 11 q)) : Ct l g yX6_isAbove cX6_isAbove 2 (some .boolean) 1 0 0 [.ref a, .ref b] M (fun v N => v = some (.int (bI (decide (q 4 < f 4)))) ∧ N = M) := by
  refine Ct.of (by decide) (Nat.le_of_ble_eq_true rfl) ?_
  intro X hXl hXg hN C E
  subst hXl; subst hXg
  show V X (rmD 1 0 0) M 0 0 [(0, .ref a), (1, .ref b)] 0 []
  refine v_aload_n C dX6_isAbove_0 rfl ?_
  refine v_ifnull C dX6_isAbove_1 ?_
  refine v_aload_n C dX6_isAbove_4 rfl ?_
  refine v_iconst C dX6_isAbove_5 (v := 4) rfl ?_
  refine v_callV (As := [.int 4]) (rest := []) (b := a) C (c_X6_mark (xl X) (xg X) M a ma da nu f 4 (by decide) ht hk) pm_X6_mark wI_X6_mark wS_X6_mark wM_X6_26 kX6 ht ⟨by decide, by decide⟩ ⟨by decide, by decide⟩ (nle rfl) dX6_isAbove_6 rfl (dt1 ?_)
  show V X (rmD 1 0 0) M 0 0 [(0, .ref a), (1, .ref b)] 9 [.int (f 4)]
  refine v_aload_n C dX6_isAbove_9 rfl ?_
  refine v_iconst C dX6_isAbove_10 (v := 4) rfl ?_
  refine v_callV (As := [.int 4]) (rest := [.int (f 4)]) (b := b) C (c_X6_mark (xl X) (xg X) M b mb db nb q 4 (by decide) ht2 hk2) pm_X6_mark wI_X6_mark wS_X6_mark wM_X6_26 kX6 ht2 ⟨by decide, by decide⟩ ⟨by decide, by decide⟩ (nle rfl) dX6_isAbove_11 rfl (dt1 ?_)
  show V X (rmD 1 0 0) M 0 0 [(0, .ref a), (1, .ref b)] 14 [.int (q 4), .int (f 4)]
  refine v_icmp_le (tgt := 21) C dX6_isAbove_14 (by decide) (fun h14 => ?_) (fun h14 => ?_)
  · refine v_iconst C dX6_isAbove_21 (v := 0) rfl ?_
    exact v_zret C E dX6_isAbove_22 (nle rfl) (nle rfl) (by decide) ⟨by simp_all [bI, i32_lt_nle, i32_nle], rfl⟩
  · refine v_iconst C dX6_isAbove_17 (v := 1) rfl ?_
    refine v_goto (tgt := 22) C dX6_isAbove_18 (by decide) ?_
    exact v_zret C E dX6_isAbove_22 (nle rfl) (nle rfl) (by decide) ⟨by simp_all [bI, i32_lt_nle, i32_nle], rfl⟩

set_option maxHeartbeats 4000000 in
set_option maxRecDepth 100000 in
theorem c_X6_hasLine (l : Launch) (g : Gm) (M : Mem) (a ma da : Nat) (nu : Int32) (f : Nat → Int32) (x : Int32) (ht : M a = some (.inr (6, [.int nu, .ref ma, .ref da]))) (hk : M ma = some (aI g 11 f)) : Ct l g yX6_hasLine cX6_hasLine 2 (some .boolean) 2 0 0 [.ref a, .int x] M (fun v N => v = some (.int (bI (!decide (f 8 = 8) && qin x (f 6) (f 7)))) ∧ N = M) := by
  refine Ct.of (by decide) (Nat.le_of_ble_eq_true rfl) ?_
  intro X hXl hXg hN C E
  subst hXl; subst hXg
  show V X (rmD 2 0 0) M 0 0 [(0, .ref a), (1, .int x)] 0 []
  refine v_aload_n C dX6_hasLine_0 rfl ?_
  refine v_bipush C dX6_hasLine_1 (v := 8) rfl ?_
  refine v_callV (As := [.int 8]) (rest := []) (b := a) C (c_X6_mark (xl X) (xg X) M a ma da nu f 8 (by decide) ht hk) pm_X6_mark wI_X6_mark wS_X6_mark wM_X6_26 kX6 ht ⟨by decide, by decide⟩ ⟨by decide, by decide⟩ (nle rfl) dX6_hasLine_3 rfl (dt1 ?_)
  show V X (rmD 2 0 0) M 0 0 [(0, .ref a), (1, .int x)] 6 [.int (f 8)]
  refine v_bipush C dX6_hasLine_6 (v := 8) rfl ?_
  refine v_icmp_eq (tgt := 23) C dX6_hasLine_8 (by decide) (fun h8 => ?_) (fun h8 => ?_)
  · refine v_iconst C dX6_hasLine_23 (v := 0) rfl ?_
    exact v_zret C E dX6_hasLine_24 (nle rfl) (nle rfl) (by decide) ⟨by simp_all [bI], rfl⟩
  · refine v_aload_n C dX6_hasLine_11 rfl ?_
    refine v_iload_n C dX6_hasLine_12 rfl ?_
    refine v_callV (As := [.int x]) (rest := []) (b := a) C (c_X6_isThere (xl X) (xg X) M a ma da nu f x ht hk) pm_X6_isThere wI_X6_isThere wS_X6_isThere wM_X6_34 kX6 ht ⟨by decide, by decide⟩ ⟨by decide, by decide⟩ (nle rfl) dX6_hasLine_13 rfl (dt1 ?_)
    show V X (rmD 2 0 0) M 0 0 [(0, .ref a), (1, .int x)] 16 [.int (bI (qin x (f 6) (f 7)))]
    refine v_ifb_eq (tgt := 23) C dX6_hasLine_16 (by decide) (fun h16 => ?_) (fun h16 => ?_)
    · refine v_iconst C dX6_hasLine_23 (v := 0) rfl ?_
      exact v_zret C E dX6_hasLine_24 (nle rfl) (nle rfl) (by decide) ⟨by simp_all [bI], rfl⟩
    · refine v_iconst C dX6_hasLine_19 (v := 1) rfl ?_
      refine v_goto (tgt := 24) C dX6_hasLine_20 (by decide) ?_
      exact v_zret C E dX6_hasLine_24 (nle rfl) (nle rfl) (by decide) ⟨by simp_all [bI], rfl⟩

def iabs (x : Int32) : Int32 := if 0 ≤ x then x else 0 - x
set_option maxHeartbeats 4000000 in
set_option maxRecDepth 100000 in
theorem c_X6_distance (l : Launch) (g : Gm) (M : Mem) (a ma da : Nat) (nu : Int32) (f : Nat → Int32) (x y : Int32) (ht : M a = some (.inr (6, [.int nu, .ref ma, .ref da]))) (hk : M ma = some (aI g 11 f)) : Ct l g yX6_distance cX6_distance 3 (some .int) 1 0 0 [.ref a, .int x, .int y] M (fun v N => v = some (.int (iabs (x - f 0) + iabs (y - f 1))) ∧ N = M) := by
  refine Ct.of (by decide) (Nat.le_of_ble_eq_true rfl) ?_
  intro X hXl hXg hN C E
  subst hXl; subst hXg
  show V X (rmD 1 0 0) M 0 0 [(0, .ref a), (1, .int x), (2, .int y)] 0 []
  refine v_iload_n C dX6_distance_0 rfl ?_
  refine v_aload_n C dX6_distance_1 rfl ?_
  refine v_iconst C dX6_distance_2 (v := 0) rfl ?_
  refine v_callV (As := [.int 0]) (rest := [.int x]) (b := a) C (c_X6_mark (xl X) (xg X) M a ma da nu f 0 (by decide) ht hk) pm_X6_mark wI_X6_mark wS_X6_mark wM_X6_26 kX6 ht ⟨by decide, by decide⟩ ⟨by decide, by decide⟩ (nle rfl) dX6_distance_3 rfl (dt1 ?_)
  show V X (rmD 1 0 0) M 0 0 [(0, .ref a), (1, .int x), (2, .int y)] 6 [.int (f 0), .int x]
  refine v_isub C dX6_distance_6 ?_
  refine v_abs C wM_X6_38 wT_J9_abs_0f7a4 wN_J9 wC_J9_abs_0f7a4 (by decide) (nle rfl) ⟨by decide, by decide⟩ dX6_distance_7 ?_
  refine v_iload_n C dX6_distance_10 rfl ?_
  refine v_aload_n C dX6_distance_11 rfl ?_
  refine v_iconst C dX6_distance_12 (v := 1) rfl ?_
  refine v_callV (As := [.int 1]) (rest := [.int y, .int (if 0 ≤ (x - (f 0)) then (x - (f 0)) else 0 - (x - (f 0)))]) (b := a) C (c_X6_mark (xl X) (xg X) M a ma da nu f 1 (by decide) ht hk) pm_X6_mark wI_X6_mark wS_X6_mark wM_X6_26 kX6 ht ⟨by decide, by decide⟩ ⟨by decide, by decide⟩ (nle rfl) dX6_distance_13 rfl (dt1 ?_)
  show V X (rmD 1 0 0) M 0 0 [(0, .ref a), (1, .int x), (2, .int y)] 16 [.int (f 1), .int y, .int (if 0 ≤ (x - (f 0)) then (x - (f 0)) else 0 - (x - (f 0)))]
  refine v_isub C dX6_distance_16 ?_
  refine v_abs C wM_X6_38 wT_J9_abs_0f7a4 wN_J9 wC_J9_abs_0f7a4 (by decide) (nle rfl) ⟨by decide, by decide⟩ dX6_distance_17 ?_
  refine v_iadd C dX6_distance_20 ?_
  exact v_iret C E dX6_distance_21 (nle rfl) (nle rfl) ⟨rfl, rfl⟩

set_option maxHeartbeats 4000000 in
set_option maxRecDepth 100000 in
theorem c_X6_tickDoing (l : Launch) (g : Gm) (M : Mem) (a ma da : Nat) (nu : Int32) (lo hi : Int64) (j : Nat) (b : Bool) (hj : j < 128) (ht : M a = some (.inr (6, [.int nu, .ref ma, .ref da]))) (hm : M da = some (.inr (7, [.long lo, .long hi]))) : Ct l g yX6_tickDoing cX6_tickDoing 3 (some .boolean) 2 0 0 [.ref a, .int (nI j), .int (bI b)] M (fun w N => w = some (.int (bI (tk lo hi j))) ∧ ∃ lo' hi' : Int64, N = mset M da (.inr (7, [.long lo', .long hi'])) ∧ ∀ i, i < 128 → tk lo' hi' i = if i = j then b else tk lo hi i) := by
  refine Ct.of (by decide) (Nat.le_of_ble_eq_true rfl) ?_
  intro X hXl hXg hN C E
  subst hXl; subst hXg
  show V X (rmD 2 0 0) M 0 0 [(0, .ref a), (1, .int (nI j)), (2, .int (bI b))] 0 []
  refine v_aload_n C dX6_tickDoing_0 rfl ?_
  refine v_get C kX6 ht 2 (by decide) wF_X6_12 rfl dX6_tickDoing_1 ?_
  refine v_iload_n C dX6_tickDoing_4 rfl ?_
  refine v_iload_n C dX6_tickDoing_5 rfl ?_
  refine v_callV (As := [.int (nI j), .int (bI b)]) (rest := []) (b := da) C (c_X7_put (xl X) (xg X) M da lo hi j b hm hj) pm_X7_put wI_X7_put wS_X7_put wM_X6_43 kX7 hm ⟨by decide, by decide⟩ ⟨by decide, by decide⟩ (nle rfl) dX6_tickDoing_6 rfl ?_
  rintro _ _ ⟨rfl, lo', hi', rfl, hq⟩
  show V X (rmD 2 0 0) (mset M da (.inr (7, [.long (lo'), .long (hi')]))) 0 0 [(0, .ref a), (1, .int (nI j)), (2, .int (bI b))] 9 [.int (bI (tk lo hi j))]
  exact v_zret C E dX6_tickDoing_9 (nle rfl) (nle rfl) (bI_01 _) ⟨rfl, _, _, rfl, hq⟩

set_option maxHeartbeats 4000000 in
set_option maxRecDepth 100000 in
theorem c_X6_daysWithout (l : Launch) (g : Gm) (M : Mem) (a ma da : Nat) (nu : Int32) (lo hi : Int64) (s e : Nat) (hs : s < 100) (he : e < 100) (ht : M a = some (.inr (6, [.int nu, .ref ma, .ref da]))) (hm : M da = some (.inr (7, [.long lo, .long hi]))) : Ct l g yX6_daysWithout cX6_daysWithout 5 (some .int) 1 0 0 [.ref a, .int (nI s), .int (nI e)] M (fun w N => w = some (.int (nI (cntNo (tk lo hi) s (e + 1 - s)))) ∧ N = M) := by
  refine Ct.of (by decide) (Nat.le_of_ble_eq_true rfl) ?_
  intro X hXl hXg hN C E
  subst hXl; subst hXg
  show V X (rmD 1 0 0) M 0 0 [(0, .ref a), (1, .int (nI s)), (2, .int (nI e))] 0 []
  refine v_iconst C dX6_daysWithout_0 (v := 0) rfl ?_
  refine v_istore_n (lv' := [(3, .int 0), (0, .ref a), (1, .int (nI s)), (2, .int (nI e))]) C dX6_daysWithout_1 hN (by decide) rfl ?_
  refine v_iload_n C dX6_daysWithout_2 rfl ?_
  refine v_istore (lv' := [(4, .int (nI s)), (3, .int 0), (0, .ref a), (1, .int (nI s)), (2, .int (nI e))]) C dX6_daysWithout_3 hN (by decide) rfl ?_
  refine v_sub (lv' := [(0, .ref a), (1, .int (nI s)), (2, .int (nI e)), (3, .int 0), (4, .int (nI s))]) [2, 3, 4, 1, 0] rfl ?_
  have lp5 : ∀ (mm : Nat) (i : Nat) (h1 : i ≤ e + 1 - s), e + 1 - s - i < mm → V X (rmD 1 0 0) M 0 0 [(0, .ref a), (1, .int (nI s)), (2, .int (nI e)), (3, .int (nI (cntNo (tk lo hi) s i))), (4, .int (nI (s + i)))] 5 [] := by
    intro mm
    induction mm with
    | zero => intro i h1 hmu; exact absurd hmu (Nat.not_lt_zero _)
    | succ mm ih5 =>
      intro i h1 hmu
      refine v_iload C dX6_daysWithout_5 rfl ?_
      refine v_iload_n C dX6_daysWithout_7 rfl ?_
      refine v_icmp_gt (tgt := 32) C dX6_daysWithout_8 (by decide) (fun h8 => ?_) (fun h8 => ?_)
      · have g8 := nI_ltN (by omega) (by omega) h8
        refine v_iload_n C dX6_daysWithout_32 rfl ?_
        exact v_iret C E dX6_daysWithout_33 (nle rfl) (nle rfl) ⟨by rw [show i = e + 1 - s by omega], rfl⟩
      · have g8 := nI_nltN (by omega) (by omega) h8
        refine v_aload_n C dX6_daysWithout_11 rfl ?_
        refine v_get C kX6 ht 2 (by decide) wF_X6_12 rfl dX6_daysWithout_12 ?_
        refine v_iload C dX6_daysWithout_15 rfl ?_
        refine v_callV (As := [.int (nI (s + i))]) (rest := []) (b := da) C (c_X7_has (xl X) (xg X) M da lo hi (s + i) hm (by omega)) pm_X7_has wI_X7_has wS_X7_has wM_X6_47 kX7 hm ⟨by decide, by decide⟩ ⟨by decide, by decide⟩ (nle rfl) dX6_daysWithout_17 rfl (dt1 ?_)
        show V X (rmD 1 0 0) M 0 0 [(0, .ref a), (1, .int (nI s)), (2, .int (nI e)), (3, .int (nI (cntNo (tk lo hi) s i))), (4, .int (nI (s + i)))] 20 [.int (bI (tk lo hi (s + i)))]
        refine v_ifb_ne (tgt := 26) C dX6_daysWithout_20 (by decide) (fun h20 => ?_) (fun h20 => ?_)
        · refine v_iinc (lv' := [(4, .int (nI ((s + i) + 1))), (0, .ref a), (1, .int (nI s)), (2, .int (nI e)), (3, .int (nI (cntNo (tk lo hi) s i)))]) C dX6_daysWithout_26 4 rfl (nI_1 _) hN (by decide) rfl ?_
          refine v_goto (tgt := 5) C dX6_daysWithout_29 (by decide) ?_
          refine v_sub (lv' := [(0, .ref a), (1, .int (nI s)), (2, .int (nI e)), (3, .int (nI (cntNo (tk lo hi) s i))), (4, .int (nI ((s + i) + 1)))]) [1, 2, 3, 4, 0] rfl ?_
          rw [show nI (s + i + 1) = nI (s + (i + 1)) from rfl, show cntNo (tk lo hi) s i = cntNo (tk lo hi) s (i + 1) by simp [cntNo, h20]]
          exact ih5 (i + 1) (by omega) (by omega)
        · refine v_iinc (lv' := [(3, .int (nI ((cntNo (tk lo hi) s i) + 1))), (0, .ref a), (1, .int (nI s)), (2, .int (nI e)), (4, .int (nI (s + i)))]) C dX6_daysWithout_23 3 rfl (nI_1 _) hN (by decide) rfl ?_
          refine v_iinc (lv' := [(4, .int (nI ((s + i) + 1))), (3, .int (nI ((cntNo (tk lo hi) s i) + 1))), (0, .ref a), (1, .int (nI s)), (2, .int (nI e))]) C dX6_daysWithout_26 4 rfl (nI_1 _) hN (by decide) rfl ?_
          refine v_goto (tgt := 5) C dX6_daysWithout_29 (by decide) ?_
          refine v_sub (lv' := [(0, .ref a), (1, .int (nI s)), (2, .int (nI e)), (3, .int (nI ((cntNo (tk lo hi) s i) + 1))), (4, .int (nI ((s + i) + 1)))]) [2, 3, 4, 1, 0] rfl ?_
          rw [show nI (s + i + 1) = nI (s + (i + 1)) from rfl, show cntNo (tk lo hi) s i + 1 = cntNo (tk lo hi) s (i + 1) by simp [cntNo, h20]]
          exact ih5 (i + 1) (by omega) (by omega)
  exact lp5 (_ + 1) 0 (Nat.zero_le _) (Nat.lt_succ_self _)


/-! The law from its entry. -/
theorem and31 (x : Int32) : ∃ r, r < 32 ∧ x &&& 31 = nI r := by
  refine ⟨(x &&& 31).toBitVec.toNat, ?_, ?_⟩
  · show (x.toBitVec &&& 31#32).toNat < 32
    rw [BitVec.toNat_and]
    exact Nat.lt_of_le_of_lt Nat.and_le_right (by decide)
  · refine Int32.toBitVec_inj.mp ?_
    show (x &&& 31).toBitVec = BitVec.ofNat 32 _
    simp
set_option maxHeartbeats 4000000 in
set_option maxRecDepth 100000 in
theorem law_loop {X : FC} {b dk md L : Nat} {xs : Nat → Int32} (C : Bx X yL_law cL_law) (hN : xn X = 4) (hSx : Sx X b L xs) (hLx : Lx X b) (hL : L ≤ 4608) : ∀ (f i : Nat) (σ : St) (D E : Mem) (k n : Nat), L + 1 ≤ i + f → i ≤ L → DeskS (xg X) D dk σ → ModS (xg X) E md σ → (∀ a, E a ≠ none → D a = none) → k ≤ 100 + 4 * i → n ≤ 5000 + 202 * i → V X room_1 (mun D E) k n [(0, .ref b), (1, .ref dk), (2, .ref md), (3, .int (nI i))] 18 [] := by
  intro f
  induction f with
  | zero => intro i σ D E k n h1 h2; exact absurd h1 (by omega)
  | succ f ih =>
    intro i σ D E k n hf hiL hD hM hd hk hn
    refine v_iload_n C dL_law_18 rfl ?_
    refine v_aload_n C dL_law_19 rfl ?_
    refine v_slen C hSx dL_law_20 ?_
    refine v_bipush C dL_law_21 (v := 9) rfl ?_
    refine v_isub C dL_law_23 ?_
    refine v_icmp_gt (tgt := 1322) C dL_law_24 (by decide) (fun h24 => ?_) (fun h24 => ?_)
    · refine v_iconst C dL_law_1322 (v := 1) rfl ?_
      exact v_law C hLx dL_law_1323 (by omega) (by omega)
    · have g24 : i + 9 ≤ L := by have q := Int32.not_lt.mp h24; rw [Int32.le_iff_toInt_le, show nI L - 9 = nI L - nI 9 from rfl, i32_toInt_sub (by omega) (by omega), nI_toInt (by omega)] at q; omega
      refine v_aload_n C dL_law_27 rfl ?_
      refine v_iload_n C dL_law_28 rfl ?_
      refine v_sld C hSx (vp_in_nI (by omega) (by omega)) dL_law_29 ?_
      rw [nI_clamp (n := i) (by omega)]
      refine v_bipush C dL_law_30 (v := 31) rfl ?_
      refine v_iand C dL_law_32 ?_
      obtain ⟨r, hr, her⟩ := and31 (xs i)
      rw [her]
      have nx : ∀ (σ : St) (D' E' : Mem) (k' n' : Nat), DeskS (xg X) D' dk σ → ModS (xg X) E' md σ → (∀ a, E' a ≠ none → D' a = none) → k' ≤ k + 4 → n' ≤ n + 202 → V X room_1 (mun D' E') k' n' [(0, .ref b), (1, .ref dk), (2, .ref md), (3, .int (nI i))] 1316 [] := by
        intro σ' D' E' k' n' q1 q2 q3 q4 q5
        refine v_iinc (lv' := [(3, .int (nI (i + 9))), (0, .ref b), (1, .ref dk), (2, .ref md)]) C dL_law_1316 3 rfl (ix_ad (b := 9) rfl rfl) hN (by decide) rfl ?_
        refine v_goto (tgt := 18) C dL_law_1319 (by decide) ?_
        refine v_sub (lv' := [(0, .ref b), (1, .ref dk), (2, .ref md), (3, .int (nI (i + 9)))]) [1, 2, 3, 0] rfl ?_
        exact ih (i + 9) σ' D' E' k' n' (by omega) (by omega) q1 q2 q3 (by omega) (by omega)
      obtain ⟨nT, m, dB, nP, pf, cB, nS, sg, ln, tx, fl⟩ := σ
      rcases (show r = 0 ∨ r = 1 ∨ r = 2 ∨ r = 3 ∨ r = 4 ∨ r = 5 ∨ r = 6 ∨ r = 7 ∨ r = 8 ∨ r = 9 ∨ r = 10 ∨ r = 11 ∨ r = 12 ∨ r = 13 ∨ r = 14 ∨ r = 15 ∨ r = 16 ∨ r = 17 ∨ r = 18 ∨ r = 19 ∨ r = 20 ∨ r = 21 ∨ r = 22 ∨ r = 23 ∨ r = 24 ∨ r = 25 ∨ r = 26 ∨ r = 27 ∨ 28 ≤ r by omega) with rfl | rfl | rfl | rfl | rfl | rfl | rfl | rfl | rfl | rfl | rfl | rfl | rfl | rfl | rfl | rfl | rfl | rfl | rfl | rfl | rfl | rfl | rfl | rfl | rfl | rfl | rfl | rfl | hr28
      · exact v_tableIn (tgt := 160) C dL_law_33 (by decide) (by decide) (off := 127) rfl (by decide) (law_thing C hN hSx g24 hL (by omega) (by omega) hD hM hd nx)
      · exact v_tableIn (tgt := 259) C dL_law_33 (by decide) (by decide) (off := 226) rfl (by decide) (law_of C hN hSx g24 hL (by omega) (by omega) hD hM hd nx)
      · exact v_tableIn (tgt := 292) C dL_law_33 (by decide) (by decide) (off := 259) rfl (by decide) (law_set C hN hSx g24 hL (by omega) (by omega) hD hM hd nx)
      · exact v_tableIn (tgt := 335) C dL_law_33 (by decide) (by decide) (off := 302) rfl (by decide) (law_at C hN hSx g24 hL (by omega) (by omega) hD hM hd nx)
      · exact v_tableIn (tgt := 368) C dL_law_33 (by decide) (by decide) (off := 335) rfl (by decide) (law_picture C hN hSx g24 hL (by omega) (by omega) hD hM hd nx)
      · exact v_tableIn (tgt := 431) C dL_law_33 (by decide) (by decide) (off := 398) rfl (by decide) (law_cloud C hN hSx g24 hL (by omega) (by omega) hD hM hd nx)
      · exact v_tableIn (tgt := 490) C dL_law_33 (by decide) (by decide) (off := 457) rfl (by decide) (law_shows C hN hSx g24 hL (by omega) (by omega) hD hM hd nx)
      · exact v_tableIn (tgt := 523) C dL_law_33 (by decide) (by decide) (off := 490) rfl (by decide) (law_count C hN hSx g24 hL (by omega) (by omega) hD hM hd nx)
      · exact v_tableIn (tgt := 556) C dL_law_33 (by decide) (by decide) (off := 523) rfl (by decide) (law_span C hN hSx g24 hL (by omega) (by omega) hD hM hd nx)
      · exact v_tableIn (tgt := 599) C dL_law_33 (by decide) (by decide) (off := 566) rfl (by decide) (law_changed C hN hSx g24 hL (by omega) (by omega) hD hM hd nx)
      · exact v_tableIn (tgt := 642) C dL_law_33 (by decide) (by decide) (off := 609) rfl (by decide) (law_say C hN hSx g24 hL (by omega) (by omega) hD hM hd nx)
      · exact v_tableIn (tgt := 665) C dL_law_33 (by decide) (by decide) (off := 632) rfl (by decide) (law_wipe C hN hSx g24 hL (by omega) (by omega) hD hM hd nx)
      · exact v_tableIn (tgt := 678) C dL_law_33 (by decide) (by decide) (off := 645) rfl (by decide) (law_fault C hN hSx g24 hL (by omega) (by omega) hD hM hd nx)
      · exact v_tableIn (tgt := 691) C dL_law_33 (by decide) (by decide) (off := 658) rfl (by decide) (law_use C hN hSx g24 hL (by omega) (by omega) hD hM hd nx)
      · exact v_tableIn (tgt := 714) C dL_law_33 (by decide) (by decide) (off := 681) rfl (by decide) (law_fact C hN hSx g24 hL (by omega) (by omega) hD hM hd nx)
      · exact v_tableIn (tgt := 757) C dL_law_33 (by decide) (by decide) (off := 724) rfl (by decide) (law_fit C hN hSx g24 hL (by omega) (by omega) hD hM hd nx)
      · exact v_tableIn (tgt := 800) C dL_law_33 (by decide) (by decide) (off := 767) rfl (by decide) (law_could C hN hSx g24 hL (by omega) (by omega) hD hM hd nx)
      · exact v_tableIn (tgt := 833) C dL_law_33 (by decide) (by decide) (off := 800) rfl (by decide) (law_all C hN hSx g24 hL (by omega) (by omega) hD hM hd nx)
      · exact v_tableIn (tgt := 876) C dL_law_33 (by decide) (by decide) (off := 843) rfl (by decide) (law_meet C hN hSx g24 hL (by omega) (by omega) hD hM hd nx)
      · exact v_tableIn (tgt := 909) C dL_law_33 (by decide) (by decide) (off := 876) rfl (by decide) (law_chance C hN hSx g24 hL (by omega) (by omega) hD hM hd nx)
      · exact v_tableIn (tgt := 943) C dL_law_33 (by decide) (by decide) (off := 910) rfl (by decide) (law_did C hN hSx g24 hL (by omega) (by omega) hD hM hd nx)
      · exact v_tableIn (tgt := 1002) C dL_law_33 (by decide) (by decide) (off := 969) rfl (by decide) (law_decoy C hN hSx g24 hL (by omega) (by omega) hD hM hd nx)
      · exact v_tableIn (tgt := 1066) C dL_law_33 (by decide) (by decide) (off := 1033) rfl (by decide) (law_sure C hN hSx g24 hL (by omega) (by omega) hD hM hd nx)
      · exact v_tableIn (tgt := 1099) C dL_law_33 (by decide) (by decide) (off := 1066) rfl (by decide) (law_flight C hN hSx g24 hL (by omega) (by omega) hD hM hd nx)
      · exact v_tableIn (tgt := 1162) C dL_law_33 (by decide) (by decide) (off := 1129) rfl (by decide) (law_worth C hN hSx g24 hL (by omega) (by omega) hD hM hd nx)
      · exact v_tableIn (tgt := 1196) C dL_law_33 (by decide) (by decide) (off := 1163) rfl (by decide) (law_best C hN hSx g24 hL (by omega) (by omega) hD hM hd nx)
      · exact v_tableIn (tgt := 1229) C dL_law_33 (by decide) (by decide) (off := 1196) rfl (by decide) (law_lean C hN hSx g24 hL (by omega) (by omega) hD hM hd nx)
      · exact v_tableIn (tgt := 1293) C dL_law_33 (by decide) (by decide) (off := 1260) rfl (by decide) (law_told C hN hSx g24 hL (by omega) (by omega) hD hM hd nx)
      · exact v_tableOut (tgt := 1316) C dL_law_33 (Or.inr (by rw [nI_toInt (by omega)]; omega)) (by decide) (nx _ D E k n hD hM hd (by omega) (by omega))
theorem mset_mun {D : Mem} {q : Nat} {e : va_E} (h : D q = none) : mset D q e = mun (mset (fun _ => none) q e) D := by
  funext a
  by_cases z : a = q
  · subst z
    rw [mset_same, mun_l (mset_same _ _ _)]
  · rw [mset_ne z, mun_r (mset_ne z)]
set_option maxHeartbeats 4000000 in
set_option maxRecDepth 100000 in
theorem law_start {X : FC} {b L : Nat} {xs : Nat → Int32} (C : Bx X yL_law cL_law) (hN : xn X = 4) (hSx : Sx X b L xs) (hLx : Lx X b) (hL : L ≤ 4608) : V X room_1 (fun _ => none) 0 0 [(0, .ref b)] 0 [] := by
  refine v_new (fs := [.null, .null, .null, .null, .null, .null]) C kX9 wL_L_7 wB_X9 wN_X9 (by decide +kernel) (by decide) (by decide) dL_law_0 (fun q0 hq0 => ?_)
  show V X room_1 (mset (fun _ => none) q0 (.inr (9, [.null, .null, .null, .null, .null, .null]))) 1 6 [(0, .ref b)] 3 [.ref q0]
  refine v_dup C dL_law_3 rfl ?_
  refine v_callI (As := []) (rest := [.ref q0]) (b := q0) C (c_X9_init (xl X) (xg X) (mset (fun _ => none) q0 (.inr (9, [.null, .null, .null, .null, .null, .null]))) q0 (fun _ _ => 0) (fun _ _ => 0) (fun _ _ => false) (fun _ _ => false) (fun _ => 0) (fun _ => 0) (fun _ _ => 0) (mset_same _ _ _)) pm_X9_init wI_X9_init rfl wM_L_9 ⟨by decide, by decide⟩ ⟨by decide, by decide⟩ (nle rfl) dL_law_4 rfl ?_
  rintro _ D0 ⟨rfl, hD0⟩
  show V X room_1 D0 25 947 [(0, .ref b)] 7 [.ref q0]
  refine v_astore_n (lv' := [(1, .ref q0), (0, .ref b)]) C dL_law_7 hN (by decide) rfl ?_
  refine v_new (fs := [.int 0, .null, .null, .int 0, .null, .null, .int 0, .null, .null, .null, .null, .int 0]) C kX10 wL_L_10 wB_X10 wN_X10 (by decide +kernel) (by decide) (by decide) dL_law_8 (fun q8 hq8 => ?_)
  show V X room_1 (mset D0 q8 (.inr (10, [.int 0, .null, .null, .int 0, .null, .null, .int 0, .null, .null, .null, .null, .int 0]))) 26 959 [(1, .ref q0), (0, .ref b)] 11 [.ref q8]
  rw [mset_mun hq8]
  show V X room_1 (mun (mset (fun _ => none) q8 (.inr (10, [.int 0, .null, .null, .int 0, .null, .null, .int 0, .null, .null, .null, .null, .int 0]))) D0) 26 959 [(1, .ref q0), (0, .ref b)] 11 [.ref q8]
  refine v_dup C dL_law_11 rfl ?_
  refine v_callI (As := []) (rest := [.ref q8]) (b := q8) C ((c_X10_init (xl X) (xg X) (mset (fun _ => none) q8 (.inr (10, [.int 0, .null, .null, .int 0, .null, .null, .int 0, .null, .null, .null, .null, .int 0]))) q8 (fun _ _ => 0) (fun _ _ => 0) (fun _ _ => false) (fun _ _ => false) (mset_same _ _ _)).frame (fun a ha => mset_ne (fun z => ha (by rw [z]; exact hq8)))) pm_X10_init wI_X10_init rfl wM_L_12 ⟨by decide, by decide⟩ ⟨by decide, by decide⟩ (nle rfl) dL_law_12 rfl ?_
  rintro _ _ ⟨E0, ⟨rfl, hE0⟩, rfl, hdd⟩
  rw [mun_comm hdd]
  show V X room_1 (mun D0 E0) 34 3578 [(1, .ref q0), (0, .ref b)] 15 [.ref q8]
  refine v_astore_n (lv' := [(2, .ref q8), (1, .ref q0), (0, .ref b)]) C dL_law_15 hN (by decide) rfl ?_
  refine v_iconst C dL_law_16 (v := 0) rfl ?_
  refine v_istore_n (lv' := [(3, .int 0), (2, .ref q8), (1, .ref q0), (0, .ref b)]) C dL_law_17 hN (by decide) rfl ?_
  refine v_sub (lv' := [(0, .ref b), (1, .ref q0), (2, .ref q8), (3, .int 0)]) [3, 2, 1, 0] rfl ?_
  exact law_loop C hN hSx hLx hL (L + 1) 0 (0, fun _ _ => 0, fun _ _ => false, 0, fun _ _ => 0, fun _ _ => false, 0, fun _ => 0, fun _ => 0, fun _ _ => 0, fun _ _ => 0) D0 E0 34 3578 (by omega) (Nat.zero_le _) ⟨fun _ _ => 0, fun _ _ _ _ => rfl, hD0⟩ hE0 (mun_dis hdd) (by omega) (by omega)
theorem arr_cls {s : State} {args : Array Value} {ty : FieldType} (h : (Cond.arrayClass ty).before args s = true) : ∃ c, ArrOfT s c ty ∧ s.vm.findClass ("[" ++ ty.toString) = some c := by
  obtain ⟨c, k, comp, h1, h2, h3⟩ := Cond.arrayClass_spec h
  exact ⟨c, fun n z => ⟨(fun k h => by cases h), k, h2, comp, h3⟩, h1⟩
theorem arr_obj {s : State} {args : Array Value} {Cn : String} (h : (Cond.arrayOver (.object Cn)).before args s = true) : ∃ c, ArrOfT s c (.object Cn) ∧ va_RA s c (.object Cn) := by
  obtain ⟨comp, c, k, h1, h2, h3, h4, h5⟩ := Cond.arrayOver_spec h
  exact ⟨c, fun n z => ⟨(fun k h => by cases h), k, h3, comp, h4⟩, k, comp, h3, h4, h1, h5⟩
theorem arr_arr {s : State} {args : Array Value} (h : (Cond.arrayOver (.array .int)).before args s = true) : ∃ c, ArrOfT s c (.array .int) ∧ va_RA s c (.array .int) := by
  obtain ⟨comp, c, k, h1, h2, h3, h4, h5⟩ := aoI_spec h
  exact ⟨c, fun n z => ⟨(fun k h => by cases h), k, h3, comp, h4⟩, h5⟩
theorem tb_any {w : Cond} (h : okWord w = true) {s : State} {a0 : Array Value} (hZ : w.before a0 s = true) : ∀ a, w.before a s = true := by
  intro a'
  have hW : s.WarmedH s.vm := State.WarmedH.refl s
  by_cases h1 : (∃ a b c d, w = .methodLinkNest a b c d) ∨ (∃ a b c d e f, w = .fieldLinkNest a b c d e f) ∨ (∃ a, w = .arrayOver (.object a)) ∨ w = .arrayOver (.array .int)
  · rcases h1 with ⟨a, b, c, d, rfl⟩ | ⟨a, b, c, d, e, f, rfl⟩ | ⟨a, rfl⟩ | rfl
    · exact va_Nw.use rfl (va_Nw.warmM hW hZ)
    · exact va_Nw.use rfl (va_Nw.warmF hW hZ)
    · exact va_AO.use (va_AO.moved hW.alike hZ)
    · exact aoI_moved hW.alike hZ
  · have h2 : goodWord w = true := by
      unfold okWord at h
      split at h
      · exact absurd (Or.inl ⟨_, _, _, _, rfl⟩) h1
      · exact absurd (Or.inr (Or.inl ⟨_, _, _, _, _, _, rfl⟩)) h1
      · exact absurd (Or.inr (Or.inr (Or.inl ⟨_, rfl⟩))) h1
      · exact absurd (Or.inr (Or.inr (Or.inr rfl))) h1
      · exact h
    exact word_at hW (good_of_word h2) hZ
set_option maxHeartbeats 4000000 in
set_option maxRecDepth 100000 in
theorem whole_start {p : Program} {e : Env} {s : State} {m : MethodId} {below : List Frame} {meth : Method} {c : Code} (l : Launch) {b L : Nat} {xs : Nat → Int32} (hL : L ≤ 4608) (C0 : lw_At p s m meth c b L xs) : W p l e room_1 s m #[Value.ref b] below meth c s.heap [] 0 0 (lw_Z below #[Value.ref b] s) (entryFrame m ([Value.ref b] : List Value).toArray 4) := by
  obtain ⟨hx, hb, hr, hml, hown, hts, hX, hbl, hlocks, hgv⟩ := id C0
  have hs := flat_of_before _ hgv
  have htb : ∀ w ∈ tbl, w.before #[Value.ref b] s = true := fun w hw => hts w (List.mem_filter.mp hw).1
  have hA0 : ∀ a : Nat, a < s.heap.size → ¬ (fun q : Nat => s.heap.size ≤ q) a := fun a h => Nat.not_le.mpr h
  obtain ⟨c0, i0, K0⟩ := u_known (C := RX0) (T := TX0) (N := 2) (n := 2) htb kX0.2.2.2 (htb _ wB_X0)
  obtain ⟨c1, i1, K1⟩ := u_known (C := RX1) (T := TX1) (N := 3) (n := 3) htb kX1.2.2.2 (htb _ wB_X1)
  obtain ⟨c2, i2, K2⟩ := u_known (C := RX2) (T := TX2) (N := 6) (n := 6) htb kX2.2.2.2 (htb _ wB_X2)
  obtain ⟨c3, i3, K3⟩ := u_known (C := RX3) (T := TX3) (N := 2) (n := 2) htb kX3.2.2.2 (htb _ wB_X3)
  obtain ⟨c4, i4, K4⟩ := u_known (C := RX4) (T := TX4) (N := 3) (n := 3) htb kX4.2.2.2 (htb _ wB_X4)
  obtain ⟨c5, i5, K5⟩ := u_known (C := RX5) (T := TX5) (N := 8) (n := 8) htb kX5.2.2.2 (htb _ wB_X5)
  obtain ⟨c6, i6, K6⟩ := u_known (C := RX6) (T := TX6) (N := 3) (n := 3) htb kX6.2.2.2 (htb _ wB_X6)
  obtain ⟨c7, i7, K7⟩ := u_known (C := RX7) (T := TX7) (N := 2) (n := 2) htb kX7.2.2.2 (htb _ wB_X7)
  obtain ⟨c8, i8, K8⟩ := u_known (C := RX8) (T := TX8) (N := 4) (n := 4) htb kX8.2.2.2 (htb _ wB_X8)
  obtain ⟨c9, i9, K9⟩ := u_known (C := RX9) (T := TX9) (N := 6) (n := 6) htb kX9.2.2.2 (htb _ wB_X9)
  obtain ⟨c10, i10, K10⟩ := u_known (C := RX10) (T := TX10) (N := 12) (n := 12) htb kX10.2.2.2 (htb _ wB_X10)
  obtain ⟨dC, dI, hKc⟩ : ∃ (dC : Nat → ClassId) (dI : Nat → Nat → Nat), ∀ (k : Nat) (q : vw_C), vwCl[k]? = some q → u_Kn s q.1 q.2.1 q.2.2 (dC k) (dI k) := by
    refine ⟨fun k => if k = 0 then c0 else if k = 1 then c1 else if k = 2 then c2 else if k = 3 then c3 else if k = 4 then c4 else if k = 5 then c5 else if k = 6 then c6 else if k = 7 then c7 else if k = 8 then c8 else if k = 9 then c9 else c10, fun k => if k = 0 then i0 else if k = 1 then i1 else if k = 2 then i2 else if k = 3 then i3 else if k = 4 then i4 else if k = 5 then i5 else if k = 6 then i6 else if k = 7 then i7 else if k = 8 then i8 else if k = 9 then i9 else i10, ?_⟩
    intro k q hq
    match k, hq with
    | 0, hq => cases hq; exact K0
    | 1, hq => cases hq; exact K1
    | 2, hq => cases hq; exact K2
    | 3, hq => cases hq; exact K3
    | 4, hq => cases hq; exact K4
    | 5, hq => cases hq; exact K5
    | 6, hq => cases hq; exact K6
    | 7, hq => cases hq; exact K7
    | 8, hq => cases hq; exact K8
    | 9, hq => cases hq; exact K9
    | 10, hq => cases hq; exact K10
    | k + 11, hq => simp [vwCl] at hq
  obtain ⟨a0, hA_0, hR_0⟩ := arr_cls (htb _ wA_Jvm_ClassFile_FieldType_int)
  obtain ⟨a1, hA_1, hR_1⟩ := arr_cls (htb _ wA_Jvm_ClassFile_FieldType_long)
  obtain ⟨a2, hA_2, hR_2⟩ := arr_cls (htb _ wA_Jvm_ClassFile_FieldType_boolean)
  obtain ⟨a3, hA_3, hR_3⟩ := arr_obj (htb _ wO_Jvm_ClassFile_FieldType_object_PictureDesk_Picture)
  obtain ⟨a4, hA_4, hR_4⟩ := arr_obj (htb _ wO_Jvm_ClassFile_FieldType_object_PictureDesk_Thing)
  obtain ⟨a5, hA_5, hR_5⟩ := arr_arr (htb _ wO_Jvm_ClassFile_FieldType_array_Jvm_ClassFile_FieldType_int)
  have harrE : (Cond.arrayOf (.static "PictureDesk" "EAST_STEP" "[I" : Term) .int).before #[Value.ref b] s = true := hs _ (by decide +kernel)
  have hlenE : (Cond.eq (.length (.static "PictureDesk" "EAST_STEP" "[I" : Term)) (.int 8)).before #[Value.ref b] s = true := hs _ (by decide +kernel)
  have helE0 : (Cond.eq (.elem (.static "PictureDesk" "EAST_STEP" "[I" : Term) (.int 0)) (.int 0)).before #[Value.ref b] s = true := hs _ (by decide +kernel)
  have helE1 : (Cond.eq (.elem (.static "PictureDesk" "EAST_STEP" "[I" : Term) (.int 1)) (.int 1)).before #[Value.ref b] s = true := hs _ (by decide +kernel)
  have helE2 : (Cond.eq (.elem (.static "PictureDesk" "EAST_STEP" "[I" : Term) (.int 2)) (.int 1)).before #[Value.ref b] s = true := hs _ (by decide +kernel)
  have helE3 : (Cond.eq (.elem (.static "PictureDesk" "EAST_STEP" "[I" : Term) (.int 3)) (.int 1)).before #[Value.ref b] s = true := hs _ (by decide +kernel)
  have helE4 : (Cond.eq (.elem (.static "PictureDesk" "EAST_STEP" "[I" : Term) (.int 4)) (.int 0)).before #[Value.ref b] s = true := hs _ (by decide +kernel)
  have helE5 : (Cond.eq (.elem (.static "PictureDesk" "EAST_STEP" "[I" : Term) (.int 5)) (.int (-1))).before #[Value.ref b] s = true := hs _ (by decide +kernel)
  have helE6 : (Cond.eq (.elem (.static "PictureDesk" "EAST_STEP" "[I" : Term) (.int 6)) (.int (-1))).before #[Value.ref b] s = true := hs _ (by decide +kernel)
  have helE7 : (Cond.eq (.elem (.static "PictureDesk" "EAST_STEP" "[I" : Term) (.int 7)) (.int (-1))).before #[Value.ref b] s = true := hs _ (by decide +kernel)
  obtain ⟨tE, hvE, hTE⟩ := va_Tof (tm := (.static "PictureDesk" "EAST_STEP" "[I" : Term)) (ty := .int) (N := 8) (f := fun k => .int (east k)) (A := fun q : Nat => s.heap.size ≤ q) (by decide) harrE (va_eqt hlenE) (fun j hj => by
    rcases (show j = 0 ∨ j = 1 ∨ j = 2 ∨ j = 3 ∨ j = 4 ∨ j = 5 ∨ j = 6 ∨ j = 7 by omega) with rfl | rfl | rfl | rfl | rfl | rfl | rfl | rfl
    · exact va_eqt helE0
    · exact va_eqt helE1
    · exact va_eqt helE2
    · exact va_eqt helE3
    · exact va_eqt helE4
    · exact va_eqt helE5
    · exact va_eqt helE6
    · exact va_eqt helE7) hA0
  have hZE : va_Z "PictureDesk" "EAST_STEP" "[I" (.ref tE) (fun q : Nat => s.heap.size ≤ q) s s.heap := va_Zof (hts _ wY_EAST_STEP) (htb _ wN_X9) hvE hA0
  have harrS : (Cond.arrayOf (.static "PictureDesk" "SOUTH_STEP" "[I" : Term) .int).before #[Value.ref b] s = true := hs _ (by decide +kernel)
  have hlenS : (Cond.eq (.length (.static "PictureDesk" "SOUTH_STEP" "[I" : Term)) (.int 8)).before #[Value.ref b] s = true := hs _ (by decide +kernel)
  have helS0 : (Cond.eq (.elem (.static "PictureDesk" "SOUTH_STEP" "[I" : Term) (.int 0)) (.int (-1))).before #[Value.ref b] s = true := hs _ (by decide +kernel)
  have helS1 : (Cond.eq (.elem (.static "PictureDesk" "SOUTH_STEP" "[I" : Term) (.int 1)) (.int (-1))).before #[Value.ref b] s = true := hs _ (by decide +kernel)
  have helS2 : (Cond.eq (.elem (.static "PictureDesk" "SOUTH_STEP" "[I" : Term) (.int 2)) (.int 0)).before #[Value.ref b] s = true := hs _ (by decide +kernel)
  have helS3 : (Cond.eq (.elem (.static "PictureDesk" "SOUTH_STEP" "[I" : Term) (.int 3)) (.int 1)).before #[Value.ref b] s = true := hs _ (by decide +kernel)
  have helS4 : (Cond.eq (.elem (.static "PictureDesk" "SOUTH_STEP" "[I" : Term) (.int 4)) (.int 1)).before #[Value.ref b] s = true := hs _ (by decide +kernel)
  have helS5 : (Cond.eq (.elem (.static "PictureDesk" "SOUTH_STEP" "[I" : Term) (.int 5)) (.int 1)).before #[Value.ref b] s = true := hs _ (by decide +kernel)
  have helS6 : (Cond.eq (.elem (.static "PictureDesk" "SOUTH_STEP" "[I" : Term) (.int 6)) (.int 0)).before #[Value.ref b] s = true := hs _ (by decide +kernel)
  have helS7 : (Cond.eq (.elem (.static "PictureDesk" "SOUTH_STEP" "[I" : Term) (.int 7)) (.int (-1))).before #[Value.ref b] s = true := hs _ (by decide +kernel)
  obtain ⟨tS, hvS, hTS⟩ := va_Tof (tm := (.static "PictureDesk" "SOUTH_STEP" "[I" : Term)) (ty := .int) (N := 8) (f := fun k => .int (south k)) (A := fun q : Nat => s.heap.size ≤ q) (by decide) harrS (va_eqt hlenS) (fun j hj => by
    rcases (show j = 0 ∨ j = 1 ∨ j = 2 ∨ j = 3 ∨ j = 4 ∨ j = 5 ∨ j = 6 ∨ j = 7 by omega) with rfl | rfl | rfl | rfl | rfl | rfl | rfl | rfl
    · exact va_eqt helS0
    · exact va_eqt helS1
    · exact va_eqt helS2
    · exact va_eqt helS3
    · exact va_eqt helS4
    · exact va_eqt helS5
    · exact va_eqt helS6
    · exact va_eqt helS7) hA0
  have hZS : va_Z "PictureDesk" "SOUTH_STEP" "[I" (.ref tS) (fun q : Nat => s.heap.size ≤ q) s s.heap := va_Zof (hts _ wY_SOUTH_STEP) (htb _ wN_X9) hvS hA0
  obtain ⟨g, hg⟩ : ∃ g : Gm, g = ((dC, dI), (fun k => if k = 0 then a0 else if k = 1 then a1 else if k = 2 then a2 else if k = 3 then a3 else if k = 4 then a4 else a5), s.heap.size, tE, tS) := ⟨_, rfl⟩
  have hE : eW g s := by
    subst hg
    refine ⟨⟨hKc, fun k q hk => ?_⟩, fun w hw => tb_any (tb_ok hw) (htb w hw)⟩
    match k, hk with
    | 0, hk => cases hk; exact ⟨hA_0, hR_0⟩
    | 1, hk => cases hk; exact ⟨hA_1, hR_1⟩
    | 2, hk => cases hk; exact ⟨hA_2, hR_2⟩
    | 3, hk => cases hk; exact ⟨hA_3, hR_3⟩
    | 4, hk => cases hk; exact ⟨hA_4, hR_4⟩
    | 5, hk => cases hk; exact ⟨hA_5, hR_5⟩
    | k + 6, hk => simp at hk
  have hZ : sW g s s.heap := by
    subst hg
    exact ⟨⟨hZE, hTE⟩, hZS, hTS⟩
  have hgB : gB g = s.heap.size := by subst hg; rfl
  have hl := lv_entry ([.ref b]) (n := 4) (Nat.le_of_ble_eq_true rfl)
  rw [lg_entry_eq]
  generalize (lg_sl ([.ref b]) ++ List.replicate (4 - (lg_sl ([.ref b])).length) Slot.unset).toArray = ls at hl ⊢
  have hC : Bx (p, l, e, s, m, #[Value.ref b], below, meth, c, lw_Z below #[Value.ref b] s, g, 4, fun q : Nat => s.heap.size ≤ q) yL_law cL_law := ⟨hx, hb, hml, hown, hE, hZ, Nat.le_of_eq hgB, fun q h => h, fun q h => by show gB g ≤ q; rw [hgB]; exact h⟩
  have key := law_start (b := b) (L := L) (xs := xs) hC rfl ⟨hX, hbl, by show ¬ gB g ≤ b; rw [hgB]; exact Nat.not_le.mpr hbl⟩ ⟨rfl, rfl, hr, hlocks, hgB⟩ hL
  exact key s.heap [] ls ⟨⟨Nat.le_of_eq hgB, fun a x h => by cases h⟩, fun a h => absurd rfl h⟩ ⟨Nat.le_refl _, fun _ _ _ => rfl, fun _ h => by cases h⟩ hl

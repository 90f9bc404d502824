/-! The desk's methods: uses, facts, lines, doings, flights. -/
theorem DeskA.W {g : Gm} {M : Mem} {dk : Nat} {la ta : Nat} {th mk dn : Nat → Nat} {al pt : Nat} {pa ca ka ra : Nat → Nat} {fa va : Nat} {ua sa xa na : Nat} {tA : Nat → Nat} {li xr : Nat} {fy f0 f1 f2 f3 ja jb : Nat} {lo hi pl ph : Nat → Int64} {cn lk : Nat → Nat → Int32} {bc bs : Bool} {vf : Nat → Int32} {cv mv : Int32} {xf : Nat → Int32} {ga gb : Nat → Int64} {nT : Nat} {m : Nat → Nat → Nat} {dB : Nat → Nat → Bool} {nP : Nat} {pf : Nat → Nat → Nat} {cB : Nat → Nat → Bool} {nS : Nat} {sg : Nat → Int32} {ln : Nat → Nat} {tx : Nat → Nat → Int32} {fl : Nat → Nat → Nat} (hD : DeskA g M dk la ta th mk dn al pt pa ca ka ra fa va ua sa xa na tA li xr fy f0 f1 f2 f3 ja jb lo hi pl ph cn lk bc bs vf cv mv xf ga gb nT m dB nP pf cB nS sg ln tx fl) : DeskW g M dk nT m dB nP pf cB nS sg ln tx fl := ⟨la, ta, th, mk, dn, al, pt, pa, ca, ka, ra, fa, va, ua, sa, xa, na, tA, li, xr, fy, f0, f1, f2, f3, ja, jb, lo, hi, pl, ph, cn, lk, bc, bs, vf, cv, mv, xf, ga, gb, hD⟩
theorem visA_congr {nP : Nat} {pf : Nat → Nat → Nat} {B B' : Nat → Nat → Bool} {L : Nat → Nat → Nat} {d : Nat} (h : ∀ p, p < nP → ∀ c, c < 96 → B p c = B' p c) {p c : Nat} (hp : p < nP) (hc : c < 96) : visA pf B L d c p = visA pf B' L d c p := by
  unfold visA
  rw [cov_see (h p hp) hc]
theorem covA_congr {nP : Nat} {pf : Nat → Nat → Nat} {B B' : Nat → Nat → Bool} {d : Nat} (h : ∀ p, p < nP → ∀ c, c < 96 → B p c = B' p c) {c : Nat} (hc : c < 96) : covA nP pf B d c = covA nP pf B' d c := anyB_congr (fun p hp => by rw [cov_see (h p hp) hc])
theorem nearD_congr {Q Q' : Nat → Bool} {D : Nat → Nat} : ∀ {n : Nat}, (∀ c, c < n → Q c = Q' c) → nearD Q D n = nearD Q' D n
  | 0, _ => rfl
  | n + 1, h => by
    unfold nearD
    rw [nearD_congr (fun c hc => h c (by omega)), h n (by omega)]
theorem factN_congr {nP : Nat} {pf : Nat → Nat → Nat} {B B' : Nat → Nat → Bool} {L : Nat → Nat → Nat} {K : Nat → Nat → Option Nat} {m : Nat → Nat} {t d w : Nat} (h : ∀ p, p < nP → ∀ c, c < 96 → B p c = B' p c) : factN nP pf B L K m t d w = factN nP pf B' L K m t d w := by
  have e1 : cntB (seenA nP pf B L K t d) 96 = cntB (seenA nP pf B' L K t d) 96 := cntB_congr (fun c hc => anyB_congr (fun p hp => by rw [visA_congr h hp hc]))
  have e2 : nearD (nearA nP pf B L K t d (w - 3)) (distN m) 96 = nearD (nearA nP pf B' L K t d (w - 3)) (distN m) 96 := nearD_congr (fun c hc => anyB_congr (fun p hp => by rw [visA_congr h hp hc]))
  have e3 : gapA nP pf B m d 96 = gapA nP pf B' m d 96 := anyB_congr (fun c hc => by rw [covA_congr h hc])
  unfold factN
  rw [e1, e2, e3]
theorem rowsK {m pf : Nat → Nat → Nat} {nT nP : Nat} {cn lk : Nat → Nat → Int32} (h12 : nT ≤ 12) (hok : ∀ t, t < nT → okM (m t)) (hrw : ∀ p, p < nP → ∀ c, c < 96 → cn p c = oI (bst m (c % 12) (c / 12) (pf p 2) nT) ∧ lk p c = nI (lookN m nT (pf p) c)) : rowsOk nP cn lk (Lk m nT pf) (Kk m nT pf) := fun p hp c hc => ⟨⟨(hrw p hp c hc).1, fun k hk => Nat.lt_of_lt_of_le (bst_lt hk) h12⟩, (hrw p hp c hc).2, look_le hok _ _⟩
theorem knI_congr {f f' : Nat → Int32} (h : ∀ w, w < 9 → f w = f' w) : knI f = knI f' := by
  funext x
  unfold knI
  by_cases q : 0 ≤ x ∧ x < 9
  · rw [if_pos q, if_pos q]
    have : x < nI 9 := q.2
    obtain ⟨j, hj, rfl⟩ := nI_of2 (M := nI 9) (nI_toInt (by decide)) (Int32.not_lt.mpr q.1) (Int32.le_of_lt q.2)
    rw [nI_clamp (by omega)]
    exact h j (nI_ltN (by omega) (by decide) this)
  · rw [if_neg q, if_neg q]
theorem jud_congr {kf : Int32 → Int32} {tx tx' : Nat → Int32} {n : Nat} (h : ∀ k, k < n → tx k = tx' k) : jud kf tx n = jud kf tx' n := by
  have : txE tx n = txE tx' n := by
    funext k
    unfold txE
    by_cases q : k < n
    · rw [if_pos q, if_pos q, h k q]
    · rw [if_neg q, if_neg q]
  unfold jud
  rw [this]
theorem qin_no {x : Int32} {n : Nat} (hn : n < 2 ^ 31) (h : ∀ i, i < n + 1 → ¬ x = nI i) : qin x 0 (nI n) = false := by
  cases hq : qin x 0 (nI n) with
  | false => rfl
  | true =>
    obtain ⟨j, -, hj, e⟩ := qin_nJ (x := x) (L := 0) (N := n) hn (by decide) hq
    exact absurd e (h j (by omega))
theorem tab_out {x : Int32} {n : Nat} (hn : n < 2 ^ 30) (h : ∀ i, i < n → ¬ x = nI i) : x.toInt < 0 ∨ (n : Int) ≤ x.toInt := by
  by_cases q : x.toInt < 0 ∨ (n : Int) ≤ x.toInt
  · exact q
  · exfalso
    have h0 : (0 : Int32) ≤ x := by rw [Int32.le_iff_toInt_le, show (0 : Int32).toInt = 0 from rfl]; omega
    have h1 : x ≤ nI n := by rw [Int32.le_iff_toInt_le, nI_toInt (by omega)]; omega
    obtain ⟨j, hj, e⟩ := nI_of2 (M := nI n) (nI_toInt (by omega)) (Int32.not_lt.mpr h0) h1
    refine h j ?_ e
    rw [e, nI_toInt (by omega)] at q
    omega
theorem strip_eq (a b : Int32) : (qin a 0 11 && qin b a 11) = ((qin a 0 11 && qin b 0 11) && decide (a ≤ b)) := by
  rw [Bool.eq_iff_iff]
  unfold qin
  simp only [Bool.and_eq_true, decide_eq_true_eq]
  constructor
  · rintro ⟨⟨h1, h2⟩, h3, h4⟩
    exact ⟨⟨⟨h1, h2⟩, Int32.le_trans h1 h3, h4⟩, h3⟩
  · rintro ⟨⟨⟨h1, h2⟩, -, h4⟩, h3⟩
    exact ⟨⟨h1, h2⟩, h3, h4⟩
theorem pwL_N (b : Nat) : ∀ n, pwL (lN b) n = lN (b ^ n)
  | 0 => rfl
  | n + 1 => by
    show pwL (lN b) n * lN b = _
    rw [pwL_N b n, lN_mul, Nat.pow_succ]
theorem pow_lt63 {b n : Nat} (hb : b ≤ 20) (hn : n ≤ 12) : b ^ n ≤ 4096000000000000 := Nat.le_trans (Nat.pow_le_pow_left hb n) (Nat.le_trans (Nat.pow_le_pow_right (by decide) hn) (by decide))
set_option maxHeartbeats 4000000 in
set_option maxRecDepth 100000 in
theorem c_X8_hasN (l : Launch) (g : Gm) (M : Mem) (ua sa xa na : Nat) (ta : Nat → Nat) (nS : Nat) (sg : Nat → Int32) (ln : Nat → Nat) (tx : Nat → Nat → Int32) (x : Int32) (hn : ∀ i, i < 5 → ¬ x = nI i) (hU : UseW g M ua sa xa na ta nS sg ln tx) : Ct l g yX8_has cX8_has 2 (some .boolean) 2 0 0 [.ref ua, .int x] M (fun v N => v = some (.int (bI false)) ∧ N = M) := by
  refine Ct.of (by decide) (Nat.le_of_ble_eq_true rfl) ?_
  intro X hXl hXg hN C E
  subst hXl; subst hXg
  show V X (rmD 2 0 0) M 0 0 [(0, .ref ua), (1, .int x)] 0 []
  refine v_aload_n C dX8_has_0 rfl ?_
  refine v_iload_n C dX8_has_1 rfl ?_
  refine v_callV (As := [.int x]) (rest := []) (b := ua) C (c_X8_isPlace (xl X) (xg X) ua x M) pm_X8_isPlace wI_X8_isPlace wS_X8_isPlace wM_X8_46 kX8 hU.2.1 ⟨by decide, by decide⟩ ⟨by decide, by decide⟩ (nle rfl) dX8_has_2 rfl (dt1 ?_)
  show V X (rmD 2 0 0) M 0 0 [(0, .ref ua), (1, .int x)] 5 [.int (bI (qin x 0 4))]
  refine v_ifb_eq (tgt := 21) C dX8_has_5 (by decide) (fun h5 => ?_) (fun hbad => absurd hbad (by rw [show qin x 0 4 = false from qin_no (n := 4) (by decide) hn]; decide))
  refine v_iconst C dX8_has_21 (v := 0) rfl ?_
  exact v_zret C E dX8_has_22 (nle rfl) (nle rfl) (by decide) ⟨rfl, rfl⟩

set_option maxHeartbeats 4000000 in
set_option maxRecDepth 100000 in
theorem c_X9_say (l : Launch) (g : Gm) (M : Mem) (dk : Nat) (la ta : Nat) (th mk dn : Nat → Nat) (al pt : Nat) (pa ca ka ra : Nat → Nat) (fa va : Nat) (ua sa xa na : Nat) (tA : Nat → Nat) (li xr : Nat) (fy f0 f1 f2 f3 ja jb : Nat) (lo hi pl ph : Nat → Int64) (cn lk : Nat → Nat → Int32) (bc bs : Bool) (vf : Nat → Int32) (cv mv : Int32) (xf : Nat → Int32) (ga gb : Nat → Int64) (nT : Nat) (m : Nat → Nat → Nat) (dB : Nat → Nat → Bool) (nP : Nat) (pf : Nat → Nat → Nat) (cB : Nat → Nat → Bool) (nS : Nat) (sg : Nat → Int32) (ln : Nat → Nat) (tx : Nat → Nat → Int32) (fl : Nat → Nat → Nat) (hD : DeskA g M dk la ta th mk dn al pt pa ca ka ra fa va ua sa xa na tA li xr fy f0 f1 f2 f3 ja jb lo hi pl ph cn lk bc bs vf cv mv xf ga gb nT m dB nP pf cB nS sg ln tx fl) (x : Int32) : Ct l g yX9_say cX9_say 2 (some .int) 8 0 0 [.ref dk, .int x] M (fun v N => v = some (.int (aSay nS x)) ∧ (if qin x 33 126 = true ∧ nS < 40 then DeskW g N dk nT m dB nP pf cB (nS + 1) (upd sg nS x) ln tx fl else DeskW g N dk nT m dB nP pf cB nS sg ln tx fl)) := by
  refine Ct.of (by decide) (Nat.le_of_ble_eq_true rfl) ?_
  intro X hXl hXg hN C E
  subst hXl; subst hXg
  show V X (rmD 8 0 0) M 0 0 [(0, .ref dk), (1, .int x)] 0 []
  obtain ⟨hD1, hL, hA, ⟨hF, hV⟩, hU, ⟨hI, hX⟩, hY, hdB, hcB, hrw, hinj, hxr, hct⟩ := id hD
  have h12 := hL.1
  have h10 := hA.1
  refine v_iload_n C dX9_say_0 rfl ?_
  refine v_bipush C dX9_say_1 (v := 33) rfl ?_
  refine v_bipush C dX9_say_3 (v := 126) rfl ?_
  refine v_callS (As := [.int x, .int 33, .int 126]) (rest := []) C (c_X9_isWithin (xl X) (xg X) x 33 126 M) pm_X9_isWithin wT_X9_isWithin wM_X9_55 ⟨by decide, by decide⟩ ⟨by decide, by decide⟩ (nle rfl) dX9_say_5 rfl (dt1 ?_)
  show V X (rmD 8 0 0) M 0 0 [(0, .ref dk), (1, .int x)] 8 [.int (bI (qin x 33 126))]
  refine v_ifb_ne (tgt := 14) C dX9_say_8 (by decide) (fun h8 => ?_) (fun h8 => ?_)
  · refine v_aload_n C dX9_say_14 rfl ?_
    refine v_get C kX9 hD1 3 (by decide) wF_X9_33 rfl dX9_say_15 ?_
    refine v_iload_n C dX9_say_18 rfl ?_
    refine v_callV (As := [.int x]) (rest := []) (b := ua) C (c_X8_append (xl X) (xg X) M ua sa xa na tA nS sg ln tx x hU) pm_X8_append wI_X8_append wS_X8_append wM_X9_137 kX8 hU.2.1 ⟨by decide, by decide⟩ ⟨by decide, by decide⟩ (nle rfl) dX9_say_19 rfl ?_
    rintro _ _ (⟨hfull, rfl, rfl⟩ | ⟨hfull, rfl, rfl⟩)
    · exact v_iret C E dX9_say_22 (nle rfl) (nle rfl) ⟨by rw [aSay, h8, if_pos rfl, if_pos (Nat.le_antisymm hU.1 hfull)], by rw [if_neg (by omega)]; exact hD.W⟩
    · exact v_iret C E dX9_say_22 (nle rfl) (nle rfl) ⟨by rw [aSay, h8, if_pos rfl, if_neg (by omega)], by rw [if_pos ⟨h8, hfull⟩]; exact (hD.uses (hU.app (by omega) _) (fun h => keep2 hU.2.2.1 hU.2.1 (cell_ne hU.2.1 hU.2.2.1 (by simp)) h.2.1 h.1 _ _)).W⟩
  · refine v_bipush C dX9_say_11 (v := (-2)) rfl ?_
    exact v_iret C E dX9_say_13 (nle rfl) (nle rfl) ⟨by simp [aSay, h8], by rw [if_neg (by rw [h8]; simp)]; exact hD.W⟩

theorem UseW.clear {g : Gm} {M : Mem} {ua sa xa na : Nat} {ta : Nat → Nat} {nS : Nat} {sg : Nat → Int32} {ln : Nat → Nat} {tx : Nat → Nat → Int32} (hU : UseW g M ua sa xa na ta nS sg ln tx) : UseW g (mset M ua (.inr (8, [.ref sa, .int 0, .ref xa, .ref na]))) ua sa xa na ta 0 sg ln tx := by
  have h := hU.app (n := 0) (by omega) sg
  rw [mset_id hU.2.2.1] at h
  exact h
set_option maxHeartbeats 4000000 in
set_option maxRecDepth 100000 in
theorem c_X9_wipe (l : Launch) (g : Gm) (M : Mem) (dk : Nat) (la ta : Nat) (th mk dn : Nat → Nat) (al pt : Nat) (pa ca ka ra : Nat → Nat) (fa va : Nat) (ua sa xa na : Nat) (tA : Nat → Nat) (li xr : Nat) (fy f0 f1 f2 f3 ja jb : Nat) (lo hi pl ph : Nat → Int64) (cn lk : Nat → Nat → Int32) (bc bs : Bool) (vf : Nat → Int32) (cv mv : Int32) (xf : Nat → Int32) (ga gb : Nat → Int64) (nT : Nat) (m : Nat → Nat → Nat) (dB : Nat → Nat → Bool) (nP : Nat) (pf : Nat → Nat → Nat) (cB : Nat → Nat → Bool) (nS : Nat) (sg : Nat → Int32) (ln : Nat → Nat) (tx : Nat → Nat → Int32) (fl : Nat → Nat → Nat) (hD : DeskA g M dk la ta th mk dn al pt pa ca ka ra fa va ua sa xa na tA li xr fy f0 f1 f2 f3 ja jb lo hi pl ph cn lk bc bs vf cv mv xf ga gb nT m dB nP pf cB nS sg ln tx fl)  : Ct l g yX9_wipe cX9_wipe 1 (some .int) 8 0 0 [.ref dk] M (fun v N => v = some (.int (nI nS)) ∧ DeskW g N dk nT m dB nP pf cB 0 sg ln tx fl) := by
  refine Ct.of (by decide) (Nat.le_of_ble_eq_true rfl) ?_
  intro X hXl hXg hN C E
  subst hXl; subst hXg
  show V X (rmD 8 0 0) M 0 0 [(0, .ref dk)] 0 []
  obtain ⟨hD1, hL, hA, ⟨hF, hV⟩, hU, ⟨hI, hX⟩, hY, hdB, hcB, hrw, hinj, hxr, hct⟩ := id hD
  have h12 := hL.1
  have h10 := hA.1
  refine v_aload_n C dX9_wipe_0 rfl ?_
  refine v_get C kX9 hD1 3 (by decide) wF_X9_33 rfl dX9_wipe_1 ?_
  refine v_callV (As := []) (rest := []) (b := ua) C (c_X8_clear (xl X) (xg X) M ua sa xa na tA nS sg ln tx hU) pm_X8_clear wI_X8_clear wS_X8_clear wM_X9_140 kX8 hU.2.1 ⟨by decide, by decide⟩ ⟨by decide, by decide⟩ (nle rfl) dX9_wipe_4 rfl ?_
  rintro _ _ ⟨rfl, rfl⟩
  show V X (rmD 8 0 0) (mset M ua (.inr (8, [.ref sa, .int 0, .ref xa, .ref na]))) 0 0 [(0, .ref dk)] 7 [.int (nI nS)]
  exact v_iret C E dX9_wipe_7 (nle rfl) (nle rfl) ⟨rfl, (hD.uses hU.clear (fun h => Keep.set hU.2.1 h.1 _)).W⟩

theorem flt_none {o : Option Nat} (h : ∀ k, o = some k → k < 2 ^ 31) : oI o = -6 ↔ o = none := by
  cases o with
  | none => exact ⟨fun _ => rfl, fun _ => rfl⟩
  | some k => exact ⟨fun q => absurd q.symm (m6_ne (h k rfl)), fun q => by cases q⟩
theorem flt_lt {sg : Nat → Int32} {n k : Nat} (h : faultN sg n = some k) : k ≤ n := by
  unfold faultN at h
  split at h
  · next i hi =>
    cases h
    have : ∀ n, fstB (fun i => decide (aut sg (i + 1) = 6)) n = some k → k < n := fun n => by
      induction n with
      | zero => intro h; cases h
      | succ n ih =>
        intro h
        unfold fstB at h
        split at h
        · next q => cases h; have := ih q; omega
        · split at h
          · cases h; omega
          · cases h
    exact Nat.le_of_lt (this n hi)
  · split at h
    · cases h
    · cases h; exact Nat.le_refl _
set_option maxHeartbeats 4000000 in
set_option maxRecDepth 100000 in
theorem c_X9_use (l : Launch) (g : Gm) (M : Mem) (dk : Nat) (la ta : Nat) (th mk dn : Nat → Nat) (al pt : Nat) (pa ca ka ra : Nat → Nat) (fa va : Nat) (ua sa xa na : Nat) (tA : Nat → Nat) (li xr : Nat) (fy f0 f1 f2 f3 ja jb : Nat) (lo hi pl ph : Nat → Int64) (cn lk : Nat → Nat → Int32) (bc bs : Bool) (vf : Nat → Int32) (cv mv : Int32) (xf : Nat → Int32) (ga gb : Nat → Int64) (nT : Nat) (m : Nat → Nat → Nat) (dB : Nat → Nat → Bool) (nP : Nat) (pf : Nat → Nat → Nat) (cB : Nat → Nat → Bool) (nS : Nat) (sg : Nat → Int32) (ln : Nat → Nat) (tx : Nat → Nat → Int32) (fl : Nat → Nat → Nat) (hD : DeskA g M dk la ta th mk dn al pt pa ca ka ra fa va ua sa xa na tA li xr fy f0 f1 f2 f3 ja jb lo hi pl ph cn lk bc bs vf cv mv xf ga gb nT m dB nP pf cB nS sg ln tx fl) (u : Int32) : Ct l g yX9_use cX9_use 3 (some .int) 8 0 0 [.ref dk, .int u] M (fun v N => v = some (.int (aUse nS sg ln u)) ∧ (match okUse nS sg u with | none => DeskW g N dk nT m dB nP pf cB nS sg ln tx fl | some k => ∃ f : Nat → Int32, (∀ j, j < nS → f j = sg j) ∧ DeskW g N dk nT m dB nP pf cB 0 sg (fun v => if v = k then nS else ln v) (fun v => if v = k then f else tx v) fl)) := by
  refine Ct.of (by decide) (Nat.le_of_ble_eq_true rfl) ?_
  intro X hXl hXg hN C E
  subst hXl; subst hXg
  show V X (rmD 8 0 0) M 0 0 [(0, .ref dk), (1, .int u)] 0 []
  obtain ⟨hD1, hL, hA, ⟨hF, hV⟩, hU, ⟨hI, hX⟩, hY, hdB, hcB, hrw, hinj, hxr, hct⟩ := id hD
  have h12 := hL.1
  have h10 := hA.1
  rcases idx_cases 5 (by decide) u with ⟨i, lt, rfl, hx⟩ | ⟨hn, hx⟩
  · have hzi := trivial
    show V X (rmD 8 0 0) M 0 0 [(0, .ref dk), (1, .int (nI i))] 0 []
    refine v_aload_n C dX9_use_0 rfl ?_
    refine v_get C kX9 hD1 3 (by decide) wF_X9_33 rfl dX9_use_1 ?_
    refine v_iload_n C dX9_use_4 rfl ?_
    refine v_callV (As := [.int (nI i)]) (rest := []) (b := ua) C (c_X8_isPlace (xl X) (xg X) ua (nI i) M) pm_X8_isPlace wI_X8_isPlace wS_X8_isPlace wM_X9_147 kX8 hU.2.1 ⟨by decide, by decide⟩ ⟨by decide, by decide⟩ (nle rfl) dX9_use_5 rfl (dt1 ?_)
    show V X (rmD 8 0 0) M 0 0 [(0, .ref dk), (1, .int (nI i))] 8 [.int (bI (qin (nI i) 0 4))]
    refine v_ifb_ne (tgt := 13) C dX9_use_8 (by decide) (fun h8 => ?_) (fun hbad => absurd hbad (by rw [qin_u lt]; decide))
    refine v_aload_n C dX9_use_13 rfl ?_
    refine v_get C kX9 hD1 3 (by decide) wF_X9_33 rfl dX9_use_14 ?_
    refine v_callV (As := []) (rest := []) (b := ua) C (c_X8_firstFault (xl X) (xg X) M ua sa xa na tA nS sg ln tx hU) pm_X8_firstFault wI_X8_firstFault wS_X8_firstFault wM_X9_144 kX8 hU.2.1 ⟨by decide, by decide⟩ ⟨by decide, by decide⟩ (nle rfl) dX9_use_17 rfl (dt1 ?_)
    show V X (rmD 8 0 0) M 0 0 [(0, .ref dk), (1, .int (nI i))] 20 [.int (oI (faultN sg nS))]
    refine v_bipush C dX9_use_20 (v := (-6)) rfl ?_
    refine v_icmp_eq (tgt := 28) C dX9_use_22 (by decide) (fun h22 => ?_) (fun h22 => ?_)
    · have g22 : faultN sg nS = none := (flt_none (fun k hk => by have := flt_lt hk; have := hU.1; omega)).mp h22
      refine v_aload_n C dX9_use_28 rfl ?_
      refine v_get C kX9 hD1 3 (by decide) wF_X9_33 rfl dX9_use_29 ?_
      refine v_iload_n C dX9_use_32 rfl ?_
      refine v_callV (As := [.int (nI i)]) (rest := []) (b := ua) C (c_X8_has (xl X) (xg X) M ua sa xa na tA nS sg ln tx i lt hU) pm_X8_has wI_X8_has wS_X8_has wM_X9_150 kX8 hU.2.1 ⟨by decide, by decide⟩ ⟨by decide, by decide⟩ (nle rfl) dX9_use_33 rfl (dt1 ?_)
      show V X (rmD 8 0 0) M 0 0 [(0, .ref dk), (1, .int (nI i))] 36 [.int (bI (decide (0 < ln i)))]
      refine v_ifb_eq (tgt := 43) C dX9_use_36 (by decide) (fun h36 => ?_) (fun h36 => ?_)
      · refine v_iconst C dX9_use_43 (v := 1) rfl ?_
        refine v_istore_n (lv' := [(2, .int 1), (0, .ref dk), (1, .int (nI i))]) C dX9_use_44 hN (by decide) rfl ?_
        refine v_aload_n C dX9_use_45 rfl ?_
        refine v_get C kX9 hD1 3 (by decide) wF_X9_33 rfl dX9_use_46 ?_
        refine v_iload_n C dX9_use_49 rfl ?_
        refine v_callV (As := [.int (nI i)]) (rest := []) (b := ua) C (c_X8_keep (xl X) (xg X) M ua sa xa na tA nS sg ln tx hU i lt) pm_X8_keep wI_X8_keep wS_X8_keep wM_X9_153 kX8 hU.2.1 ⟨by decide, by decide⟩ ⟨by decide, by decide⟩ (nle rfl) dX9_use_50 rfl ?_
        rintro _ N ⟨rfl, f, hN, hf, hfr⟩
        show V X (rmD 8 0 0) N 0 0 [(2, .int 1), (0, .ref dk), (1, .int (nI i))] 53 []
        refine v_iload_n C dX9_use_53 rfl ?_
        exact v_iret C E dX9_use_54 (nle rfl) (nle rfl) ⟨by simp only [decide_eq_true_eq, decide_eq_false_iff_not] at h36; simp only [aUse, hx, g22, if_true]; first | rw [if_pos h36] | rw [if_neg h36], by simp only [okUse, hx, g22, if_true]; exact ⟨f, hf, (hD.uses hN (fun h a e ha he => by rw [hfr a (fun z => by rw [z, hU.2.1] at ha; cases ha; exact h.1 he) (fun z => by rw [z, hU.2.2.2.2.1] at ha; cases ha; exact h.2.2 he) (fun z => by rw [z, (hU.2.2.2.2.2 i lt).1] at ha; cases ha; exact h.2.1 he)]; exact ha)).W⟩⟩
      · refine v_iconst C dX9_use_39 (v := 0) rfl ?_
        refine v_goto (tgt := 44) C dX9_use_40 (by decide) ?_
        refine v_istore_n (lv' := [(2, .int 0), (0, .ref dk), (1, .int (nI i))]) C dX9_use_44 hN (by decide) rfl ?_
        refine v_aload_n C dX9_use_45 rfl ?_
        refine v_get C kX9 hD1 3 (by decide) wF_X9_33 rfl dX9_use_46 ?_
        refine v_iload_n C dX9_use_49 rfl ?_
        refine v_callV (As := [.int (nI i)]) (rest := []) (b := ua) C (c_X8_keep (xl X) (xg X) M ua sa xa na tA nS sg ln tx hU i lt) pm_X8_keep wI_X8_keep wS_X8_keep wM_X9_153 kX8 hU.2.1 ⟨by decide, by decide⟩ ⟨by decide, by decide⟩ (nle rfl) dX9_use_50 rfl ?_
        rintro _ N ⟨rfl, f, hN, hf, hfr⟩
        show V X (rmD 8 0 0) N 0 0 [(2, .int 0), (0, .ref dk), (1, .int (nI i))] 53 []
        refine v_iload_n C dX9_use_53 rfl ?_
        exact v_iret C E dX9_use_54 (nle rfl) (nle rfl) ⟨by simp only [decide_eq_true_eq, decide_eq_false_iff_not] at h36; simp only [aUse, hx, g22, if_true]; first | rw [if_pos h36] | rw [if_neg h36], by simp only [okUse, hx, g22, if_true]; exact ⟨f, hf, (hD.uses hN (fun h a e ha he => by rw [hfr a (fun z => by rw [z, hU.2.1] at ha; cases ha; exact h.1 he) (fun z => by rw [z, hU.2.2.2.2.1] at ha; cases ha; exact h.2.2 he) (fun z => by rw [z, (hU.2.2.2.2.2 i lt).1] at ha; cases ha; exact h.2.1 he)]; exact ha)).W⟩⟩
    · have g22 : ¬ faultN sg nS = none := fun q => h22 (by rw [q]; rfl)
      refine v_bipush C dX9_use_25 (v := (-5)) rfl ?_
      exact v_iret C E dX9_use_27 (nle rfl) (nle rfl) ⟨by simp [aUse, hx, g22], by simp only [okUse, hx, g22, if_false]; exact hD.W⟩
  · have hzi := trivial
    show V X (rmD 8 0 0) M 0 0 [(0, .ref dk), (1, .int u)] 0 []
    refine v_aload_n C dX9_use_0 rfl ?_
    refine v_get C kX9 hD1 3 (by decide) wF_X9_33 rfl dX9_use_1 ?_
    refine v_iload_n C dX9_use_4 rfl ?_
    refine v_callV (As := [.int u]) (rest := []) (b := ua) C (c_X8_isPlace (xl X) (xg X) ua u M) pm_X8_isPlace wI_X8_isPlace wS_X8_isPlace wM_X9_147 kX8 hU.2.1 ⟨by decide, by decide⟩ ⟨by decide, by decide⟩ (nle rfl) dX9_use_5 rfl (dt1 ?_)
    show V X (rmD 8 0 0) M 0 0 [(0, .ref dk), (1, .int u)] 8 [.int (bI (qin u 0 4))]
    refine v_ifb_ne (tgt := 13) C dX9_use_8 (by decide) (fun hbad => absurd hbad (by rw [show qin u 0 4 = false from qin_no (n := 4) (by decide) hn]; decide)) (fun h8 => ?_)
    refine v_iconst C dX9_use_11 (v := (-1)) rfl ?_
    exact v_iret C E dX9_use_12 (nle rfl) (nle rfl) ⟨by simp [aUse, hx], by simp only [okUse, hx]; exact hD.W⟩


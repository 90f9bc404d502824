/-! The model: whether a use fits. -/
theorem jrun_s (kf : Int32 → Int32) (tx : Nat → Int32) (k : Nat) : jrun kf tx (k + 1) = jst kf (jrun kf tx k) (tx k) := rfl
theorem txE_lt {tx : Nat → Int32} {n k : Nat} (h : k < n) : txE tx n k = tx k := if_pos h
theorem txE_end (tx : Nat → Int32) (n : Nat) : txE tx n n = 124 := if_neg (Nat.lt_irrefl n)
theorem fstB_no {p : Nat → Bool} : ∀ {n : Nat}, fstB p n = none → ∀ i, i < n → p i = false
  | 0, _, i, hi => absurd hi (Nat.not_lt_zero i)
  | n + 1, h, i, hi => by
    rw [fstB_s] at h
    cases hf : fstB p n with
    | some k => rw [hf] at h; cases h
    | none =>
      rw [hf] at h
      simp only at h
      by_cases z : i = n
      · rw [z]
        cases hp : p n with
        | true => rw [hp] at h; cases h
        | false => rfl
      · exact fstB_no hf i (by omega)
theorem vd_none {T : Nat → Int32} {n : Nat} (h : faultN T n = none) : fstB (fun i => decide (aut T (i + 1) = 6)) n = none ∧ (aut T n = 4 ∨ aut T n = 5) := by
  unfold faultN at h
  cases hf : fstB (fun i => decide (aut T (i + 1) = 6)) n with
  | some k => rw [hf] at h; cases h
  | none =>
    rw [hf] at h
    simp only at h
    by_cases z : aut T n = 4 ∨ aut T n = 5
    · exact ⟨rfl, z⟩
    · rw [if_neg z] at h; cases h
theorem vd_ne {T : Nat → Int32} {n : Nat} (h : faultN T n = none) {k : Nat} (hk : k < n) : ¬ stp (aut T k) (T k) = 6 := fun z => by
  have := fstB_no (vd_none h).1 k hk
  exact of_decide_eq_false this z
theorem vd_lt {T : Nat → Int32} {n : Nat} (h : faultN T n = none) {k : Nat} (hk : k ≤ n) (ha : aut T k < 4) : k < n := by
  rcases Nat.lt_or_ge k n with z | z
  · exact z
  · have e : k = n := Nat.le_antisymm hk z
    have := (vd_none h).2
    rw [e] at ha
    omega
theorem vd0 {T : Nat → Int32} {n : Nat} (h : faultN T n = none) {k : Nat} (hk : k < n) (ha : aut T k = 0) : (T k = 110 ∧ aut T (k + 1) = 1) ∨ (T k = 115 ∧ aut T (k + 1) = 2) ∨ (T k = 107 ∧ aut T (k + 1) = 2) ∨ (T k = 104 ∧ aut T (k + 1) = 2) := by
  have ne := vd_ne h hk
  rw [aut_s, ha] at *
  unfold stp at ne ⊢
  rw [if_pos rfl] at ne ⊢
  by_cases z : T k = 110
  · rw [if_pos z]; exact Or.inl ⟨z, rfl⟩
  · rw [if_neg z] at ne ⊢
    by_cases y : T k = 115 ∨ T k = 107 ∨ T k = 104
    · rw [if_pos y]
      rcases y with y | y | y
      · exact Or.inr (Or.inl ⟨y, rfl⟩)
      · exact Or.inr (Or.inr (Or.inl ⟨y, rfl⟩))
      · exact Or.inr (Or.inr (Or.inr ⟨y, rfl⟩))
    · rw [if_neg y] at ne; exact absurd rfl ne
theorem vd1 {T : Nat → Int32} {n : Nat} (h : faultN T n = none) {k : Nat} (hk : k ≤ n) (ha : aut T k = 1) : k < n ∧ qin (T k) 48 53 = true ∧ aut T (k + 1) = 2 := by
  have hl := vd_lt h hk (by omega)
  have ne := vd_ne h hl
  refine ⟨hl, ?_⟩
  rw [aut_s, ha] at *
  cases z : qin (T k) 48 53 with
  | true => exact ⟨rfl, by simp [stp, z]⟩
  | false => exact absurd (by simp [stp, z]) ne
theorem vd2 {T : Nat → Int32} {n : Nat} (h : faultN T n = none) {k : Nat} (hk : k ≤ n) (ha : aut T k = 2) : k < n ∧ (T k = 60 ∨ T k = 62 ∨ T k = 61) ∧ aut T (k + 1) = 3 := by
  have hl := vd_lt h hk (by omega)
  have ne := vd_ne h hl
  refine ⟨hl, ?_⟩
  rw [aut_s, ha] at *
  by_cases z : T k = 60 ∨ T k = 62 ∨ T k = 61
  · exact ⟨z, by unfold stp; rw [if_neg (by decide), if_neg (by decide), if_pos rfl, if_pos z]⟩
  · exact absurd (by unfold stp; rw [if_neg (by decide), if_neg (by decide), if_pos rfl, if_neg z]) ne
theorem vd3 {T : Nat → Int32} {n : Nat} (h : faultN T n = none) {k : Nat} (hk : k ≤ n) (ha : aut T k = 3) : k < n ∧ qin (T k) 48 57 = true := by
  have hl := vd_lt h hk (by omega)
  have ne := vd_ne h hl
  refine ⟨hl, ?_⟩
  rw [ha] at *
  cases z : qin (T k) 48 57 with
  | true => rfl
  | false => exact absurd (by simp [stp, z]) ne
theorem vdd {T : Nat → Int32} {n : Nat} (h : faultN T n = none) {k : Nat} (hk : k < n) (ha : aut T k = 3 ∨ aut T k = 4 ∨ aut T k = 5) (hq : qin (T k) 48 57 = true) : aut T (k + 1) = 3 ∨ aut T (k + 1) = 4 ∨ aut T (k + 1) = 5 := by
  have ne := vd_ne h hk
  rw [aut_s]
  rcases ha with z | z | z
  · rw [z]; exact Or.inr (Or.inl (by simp [stp, hq]))
  · rw [z]; exact Or.inr (Or.inr (by simp [stp, hq]))
  · rw [z] at ne
    refine absurd ?_ ne
    obtain ⟨e, h1, h2, h3⟩ := qin_nJ (L := 48) (N := 57) (by decide) (by decide) hq
    unfold stp
    rw [if_neg (by decide), if_neg (by decide), if_neg (by decide), if_neg (by decide), if_neg (by decide), if_pos rfl, if_neg]
    rw [h3]
    intro q
    rcases q with q | q
    · exact absurd (nI_eqN (b := 38) (by omega) (by decide) q) (by omega)
    · exact absurd (nI_eqN (b := 124) (by omega) (by decide) q) (by omega)
theorem vdx {T : Nat → Int32} {n : Nat} (h : faultN T n = none) {k : Nat} (hk : k ≤ n) (ha : aut T k = 3 ∨ aut T k = 4 ∨ aut T k = 5) (hx : n ≤ k ∨ qin (T k) 48 57 = false) : k = n ∨ (k < n ∧ (T k = 38 ∨ T k = 124) ∧ aut T (k + 1) = 0) := by
  rcases Nat.lt_or_ge k n with hl | hl
  · have hq := hx.resolve_left (by omega)
    have ne := vd_ne h hl
    refine Or.inr ⟨hl, ?_⟩
    rw [aut_s]
    rcases ha with z | z | z
    · exact absurd (vd3 h hk z).2 (by rw [hq]; simp)
    · rw [z] at ne ⊢
      by_cases y : T k = 38 ∨ T k = 124
      · exact ⟨y, by unfold stp; rw [if_neg (by decide), if_neg (by decide), if_neg (by decide), if_neg (by decide), if_pos rfl, hq, if_neg (by decide), if_pos y]⟩
      · exact absurd (by unfold stp; rw [if_neg (by decide), if_neg (by decide), if_neg (by decide), if_neg (by decide), if_pos rfl, hq, if_neg (by decide), if_neg y]) ne
    · rw [z] at ne ⊢
      by_cases y : T k = 38 ∨ T k = 124
      · exact ⟨y, by unfold stp; rw [if_neg (by decide), if_neg (by decide), if_neg (by decide), if_neg (by decide), if_neg (by decide), if_pos rfl, if_pos y]⟩
      · exact absurd (by unfold stp; rw [if_neg (by decide), if_neg (by decide), if_neg (by decide), if_neg (by decide), if_neg (by decide), if_pos rfl, if_neg y]) ne
  · exact Or.inl (Nat.le_antisymm hk hl)
theorem jf_s {kf : Int32 → Int32} {T : Nat → Int32} {n k : Nat} {a b x : Int32} (hk : k < n) (hj : jrun kf (txE T n) k = (a, b, x, 0, 0)) (hs : T k = 115) : jrun kf (txE T n) (k + 1) = (a, b, nI 0, 0, 0) := by
  rw [jrun_s, hj, txE_lt hk, hs]; rfl
theorem jf_k {kf : Int32 → Int32} {T : Nat → Int32} {n k : Nat} {a b x : Int32} (hk : k < n) (hj : jrun kf (txE T n) k = (a, b, x, 0, 0)) (hs : T k = 107) : jrun kf (txE T n) (k + 1) = (a, b, nI 1, 0, 0) := by
  rw [jrun_s, hj, txE_lt hk, hs]; rfl
theorem jf_h {kf : Int32 → Int32} {T : Nat → Int32} {n k : Nat} {a b x : Int32} (hk : k < n) (hj : jrun kf (txE T n) k = (a, b, x, 0, 0)) (hs : T k = 104) : jrun kf (txE T n) (k + 1) = (a, b, nI 2, 0, 0) := by
  rw [jrun_s, hj, txE_lt hk, hs]; rfl
theorem dig_ne {x : Int32} (h : qin x 48 57 = true) : ¬ (x = 38 ∨ x = 124) := by
  rintro (rfl | rfl) <;> exact absurd h (by decide)
theorem dig_n {e : Nat} (h1 : 48 ≤ e) (h2 : e ≤ 53) : (3 : Int32) + nI e - 48 = nI (e - 45) := by
  rw [show (3 : Int32) + nI e = nI (3 + e) from ix_ad rfl rfl, show nI (3 + e) - 48 = nI (3 + e - 48) from pk_sub (b := 48) (by omega), show 3 + e - 48 = e - 45 by omega]
theorem jf_n {kf : Int32 → Int32} {T : Nat → Int32} {n k e : Nat} {a b x : Int32} (hk : k + 1 < n) (hj : jrun kf (txE T n) k = (a, b, x, 0, 0)) (hs : T k = 110) (he : T (k + 1) = nI e) (h1 : 48 ≤ e) (h2 : e ≤ 53) : jrun kf (txE T n) (k + 1 + 1) = (a, b, nI (e - 45), 0, 0) := by
  have q : qin (nI e) 48 57 = true := by
    rw [show qin (nI e) 48 57 = qin (nI e) (nI 48) (nI 57) from rfl, qin_N (by omega) (by decide) (by decide), decide_eq_true h1, decide_eq_true (show e ≤ 57 by omega)]; rfl
  rw [jrun_s, jrun_s, hj, txE_lt (by omega), txE_lt hk, hs, he]
  show jst kf (a, b, 2, 0, 0) (nI e) = _
  unfold jst
  rw [if_neg (dig_ne q), if_pos q]
  simp only [if_true]
  rw [dig_n h1 h2]
theorem jf_r {kf : Int32 → Int32} {T : Nat → Int32} {n k : Nat} {a b x : Int32} (hk : k < n) (hj : jrun kf (txE T n) k = (a, b, x, 0, 0)) (hs : T k = 60 ∨ T k = 62 ∨ T k = 61) : jrun kf (txE T n) (k + 1) = (a, b, x, T k, 0) := by
  rw [jrun_s, hj, txE_lt hk]
  rcases hs with z | z | z <;> rw [z] <;> rfl
theorem jf_d {kf : Int32 → Int32} {T : Nat → Int32} {n k : Nat} {a b x r v : Int32} (hk : k < n) (hj : jrun kf (txE T n) k = (a, b, x, r, v)) (hr : ¬ r = 0) (hq : qin (T k) 48 57 = true) : jrun kf (txE T n) (k + 1) = (a, b, x, r, 10 * v + T k - 48) := by
  rw [jrun_s, hj, txE_lt hk]
  unfold jst
  rw [if_neg (dig_ne hq), if_pos hq]
  simp only
  rw [if_neg hr]
theorem jf_and {kf : Int32 → Int32} {T : Nat → Int32} {n k : Nat} {a b x r v f : Int32} (hk : k < n) (hj : jrun kf (txE T n) k = (a, b, x, r, v)) (hf : kf x = f) (hs : T k = 38) : jrun kf (txE T n) (k + 1) = (a, (if jtest f r v < b then jtest f r v else b), x, 0, 0) := by
  rw [jrun_s, hj, txE_lt hk, hs, ← hf]; rfl
theorem jf_or {kf : Int32 → Int32} {T : Nat → Int32} {n k : Nat} {a b x r v f : Int32} (hj : jrun kf (txE T n) k = (a, b, x, r, v)) (hf : kf x = f) (hs : txE T n k = 124) : jrun kf (txE T n) (k + 1) = ((if a < (if jtest f r v < b then jtest f r v else b) then (if jtest f r v < b then jtest f r v else b) else a), 2, x, 0, 0) := by
  rw [jrun_s, hj, hs, ← hf]; rfl
/-- whether a known fact keeps the relation -/
def relB (is r v : Int32) : Bool := if r = 60 then decide (is < v) else if r = 62 then decide (v < is) else decide (is = v)
theorem jtest_rel {o : Option Nat} (h : ∀ k, o = some k → k < 2 ^ 31) (r v : Int32) : jtest (oI o) r v = if oI o < 0 then 1 else if relB (oI o) r v then 2 else 0 := by
  cases o with
  | none => rfl
  | some k =>
    have hk := h k rfl
    show jtest (nI k) r v = if nI k < 0 then 1 else if relB (nI k) r v then 2 else 0
    rw [if_neg (nI_pos hk)]
    unfold jtest relB
    rw [if_neg (fun z => m6_ne hk z.symm)]
    by_cases h1 : r = 60
    · rw [if_pos h1, if_pos h1]; simp
    · rw [if_neg h1, if_neg h1]
      by_cases h2 : r = 62
      · rw [if_pos h2, if_pos h2]; simp
      · rw [if_neg h2, if_neg h2]; simp
theorem knI_N {vf : Nat → Int32} {w : Nat} (h : w < 9) : knI vf (nI w) = vf w := by
  unfold knI
  rw [if_pos ⟨Int32.not_lt.mp (nI_pos (by omega)), (nI_ltI (b := 9) (by omega) (by decide)).mpr h⟩, nI_clamp (by omega)]
theorem factN_b {nP : Nat} {pf : Nat → Nat → Nat} {B : Nat → Nat → Bool} {L : Nat → Nat → Nat} {K : Nat → Nat → Option Nat} {m : Nat → Nat} {t d w : Nat} (hm : okM m) : ∀ k, factN nP pf B L K m t d w = some k → k < 2 ^ 31 := by
  intro k h
  have hc := cntB_le (seenA nP pf B L K t d) 96
  have hm2 := hm
  unfold okM at hm2
  unfold factN at h
  by_cases h0 : w = 0
  · rw [if_pos h0] at h; cases h; omega
  rw [if_neg h0] at h
  by_cases h1 : w = 1
  · rw [if_pos h1] at h
    split at h <;> cases h
    omega
  rw [if_neg h1] at h
  by_cases h2 : w = 2
  · rw [if_pos h2] at h
    split at h <;> cases h
    omega
  rw [if_neg h2] at h
  cases hn : nearD (nearA nP pf B L K t d (w - 3)) (distN m) 96 with
  | some b =>
    rw [hn] at h
    simp only at h
    cases h
    have := nearD_99 (fun c hc => Nat.lt_of_le_of_lt (dist_le hm hc) (by decide)) (Nat.le_refl 96) hn
    omega
  | none =>
    rw [hn] at h
    simp only at h
    split at h <;> cases h
    decide
set_option maxHeartbeats 4000000 in
set_option maxRecDepth 100000 in
theorem c_X10_fitOf (l : Launch) (g : Gm) (M : Mem) (md : Nat) (t1 t2 t3 t4 t5 t6 t7 t8 : Nat) (fT fD fP fC fS fU fX fF : Nat → Int32) (mo : Int32) (nT : Nat) (m : Nat → Nat → Nat) (dB : Nat → Nat → Bool) (nP : Nat) (pf : Nat → Nat → Nat) (cB : Nat → Nat → Bool) (nS : Nat) (sg : Nat → Int32) (ln : Nat → Nat) (tx : Nat → Nat → Int32) (fl : Nat → Nat → Nat) (hM : ModA g M md t1 t2 t3 t4 t5 t6 t7 t8 fT fD fP fC fS fU fX fF mo nT m dB nP pf cB nS sg ln tx fl) (u t d : Nat) (hu : u < 5) (hl : 0 < ln u) (lt : t < nT) (hd : d < 100) : Ct l g yX10_fitOf cX10_fitOf 14 (some .int) 7 0 0 [.ref md, .int (nI u), .int (nI t), .int (nI d)] M (fun v N => v = some (.int (fitI nT m nP pf cB ln tx u t d)) ∧ N = M) := by
  refine Ct.of (by decide) (Nat.le_of_ble_eq_true rfl) ?_
  intro X hXl hXg hN C E
  subst hXl; subst hXg
  show V X (rmD 7 0 0) M 0 0 [(0, .ref md), (1, .int (nI u)), (2, .int (nI t)), (3, .int (nI d))] 0 []
  obtain ⟨hO, h1_, h2_, h3_, h4_, h5_, h6_, h7_, h8_, bT, bP, bS, okT_, cT, cD, okP_, cP, cC, cS, cU, bU_, cX, okX, okF_, cF⟩ := id hM
  have hv := okX u hu hl
  have hb40 := bU_ u hu
  refine v_iconst C dX10_fitOf_0 (v := 0) rfl ?_
  refine v_istore (lv' := [(4, .int 0), (0, .ref md), (1, .int (nI u)), (2, .int (nI t)), (3, .int (nI d))]) C dX10_fitOf_1 hN (by decide) rfl ?_
  refine v_iconst C dX10_fitOf_3 (v := 2) rfl ?_
  refine v_istore (lv' := [(5, .int 2), (4, .int 0), (0, .ref md), (1, .int (nI u)), (2, .int (nI t)), (3, .int (nI d))]) C dX10_fitOf_4 hN (by decide) rfl ?_
  refine v_iconst C dX10_fitOf_6 (v := 0) rfl ?_
  refine v_istore (lv' := [(6, .int 0), (5, .int 2), (4, .int 0), (0, .ref md), (1, .int (nI u)), (2, .int (nI t)), (3, .int (nI d))]) C dX10_fitOf_7 hN (by decide) rfl ?_
  refine v_sub (lv' := [(0, .ref md), (1, .int (nI u)), (2, .int (nI t)), (3, .int (nI d)), (4, .int 0), (5, .int 2), (6, .int 0)]) [3, 4, 5, 6, 2, 1, 0] rfl ?_
  have lp9 : ∀ (mm : Nat) (k : Nat) (ay : Int32) (al : Int32) (hI : (k ≤ ln u ∧ aut (tx u) k = 0 ∧ ∃ x, jrun (knI (fun w => oI (factN nP pf cB (Lk m nT pf) (Kk m nT pf) (m t) t d w))) (txE (tx u) (ln u)) k = (ay, al, x, 0, 0)) ∨ (k = ln u + 1 ∧ (jrun (knI (fun w => oI (factN nP pf cB (Lk m nT pf) (Kk m nT pf) (m t) t d w))) (txE (tx u) (ln u)) (ln u + 1)).1 = ay)), ln u + 2 - k < mm → V X (rmD 7 0 0) M 0 0 [(0, .ref md), (1, .int (nI u)), (2, .int (nI t)), (3, .int (nI d)), (4, .int ay), (5, .int al), (6, .int (nI k))] 9 [] := by
    intro mm
    induction mm with
    | zero => intro k ay al hI hmu; exact absurd hmu (Nat.not_lt_zero _)
    | succ mm ih9 =>
      intro k ay al hI hmu
      refine v_iload C dX10_fitOf_9 rfl ?_
      refine v_aload_n C dX10_fitOf_11 rfl ?_
      refine v_get C kX10 hO 8 (by decide) wF_X10_26 rfl dX10_fitOf_12 ?_
      refine v_iload_n C dX10_fitOf_15 rfl ?_
      refine v_iald C h6_ (vp_in_nI (by omega) (by decide)) dX10_fitOf_16 ?_
      rw [show fU (nI u : Int32).toNatClampNeg = nI (ln u) from by rw [nI_clamp (by omega)]; exact cU u (by omega)]
      refine v_icmp_ge (tgt := 346) C dX10_fitOf_17 (by decide) (fun h17 => ?_) (fun h17 => ?_)
      · have hk0 : k ≤ ln u + 1 := hI.elim (fun z => Nat.le_succ_of_le z.1) (fun z => Nat.le_of_eq z.1)
        have g17 : ln u ≤ k := nI_leN (by omega) (by omega) h17
        have hend := hI.resolve_left (fun z => by have h4 := (vd_none hv).2; have h5 := z.2.1; rw [show k = ln u by omega] at h5; omega)
        refine v_iload C dX10_fitOf_346 rfl ?_
        exact v_iret C E dX10_fitOf_348 (nle rfl) (nle rfl) ⟨by rw [fitI, jud, hend.2], rfl⟩
      · have hk0 : k ≤ ln u + 1 := hI.elim (fun z => Nat.le_succ_of_le z.1) (fun z => Nat.le_of_eq z.1)
        have g17 : k < ln u := nI_nleN (by omega) (by omega) h17
        obtain ⟨-, ha, x0, hj⟩ := hI.resolve_right (fun z => by have := z.1; omega)
        refine v_aload_n C dX10_fitOf_20 rfl ?_
        refine v_get C kX10 hO 9 (by decide) wF_X10_29 rfl dX10_fitOf_21 ?_
        refine v_bipush C dX10_fitOf_24 (v := 40) rfl ?_
        refine v_iload_n C dX10_fitOf_26 rfl ?_
        refine v_imul C dX10_fitOf_27 ?_
        refine v_iload C dX10_fitOf_28 rfl ?_
        refine v_iadd C dX10_fitOf_30 ?_
        rw [show ((40 * (nI u)) + (nI k) : Int32) = nI (40 * u + k) from ix_ad (ix_mu rfl rfl) rfl]
        refine v_iald C h7_ (vp_in_nI (by omega) (by decide)) dX10_fitOf_31 ?_
        rw [show fX (nI (40 * u + k) : Int32).toNatClampNeg = tx u k from by rw [nI_clamp (by omega)]; exact cX u (by omega) k (by omega)]
        refine v_istore (lv' := [(7, .int (tx u k)), (0, .ref md), (1, .int (nI u)), (2, .int (nI t)), (3, .int (nI d)), (4, .int ay), (5, .int al), (6, .int (nI k))]) C dX10_fitOf_32 hN (by decide) rfl ?_
        have j106 : ∀ (k2 : Nat) (w : Nat) (hkk : k < k2) (hk2 : k2 ≤ ln u) (ha3 : aut (tx u) k2 = 2) (hj2 : jrun (knI (fun w => oI (factN nP pf cB (Lk m nT pf) (Kk m nT pf) (m t) t d w))) (txE (tx u) (ln u)) k2 = (ay, al, nI w, 0, 0)) (hw : w < 9), V X (rmD 7 0 0) M 0 0 [(0, .ref md), (1, .int (nI u)), (2, .int (nI t)), (3, .int (nI d)), (4, .int ay), (5, .int al), (6, .int (nI k2)), (8, .int (nI w))] 106 [] := by
          intro k2 w hkk hk2 ha3 hj2 hw
          obtain ⟨hl2, hr, ha4⟩ := vd2 hv hk2 ha3
          refine v_aload_n C dX10_fitOf_106 rfl ?_
          refine v_get C kX10 hO 9 (by decide) wF_X10_29 rfl dX10_fitOf_107 ?_
          refine v_bipush C dX10_fitOf_110 (v := 40) rfl ?_
          refine v_iload_n C dX10_fitOf_112 rfl ?_
          refine v_imul C dX10_fitOf_113 ?_
          refine v_iload C dX10_fitOf_114 rfl ?_
          refine v_iadd C dX10_fitOf_116 ?_
          rw [show ((40 * (nI u)) + (nI k2) : Int32) = nI (40 * u + k2) from ix_ad (ix_mu rfl rfl) rfl]
          refine v_iald C h7_ (vp_in_nI (by omega) (by decide)) dX10_fitOf_117 ?_
          rw [show fX (nI (40 * u + k2) : Int32).toNatClampNeg = tx u k2 from by rw [nI_clamp (by omega)]; exact cX u (by omega) k2 (by omega)]
          refine v_istore (lv' := [(9, .int (tx u k2)), (0, .ref md), (1, .int (nI u)), (2, .int (nI t)), (3, .int (nI d)), (4, .int ay), (5, .int al), (6, .int (nI k2)), (8, .int (nI w))]) C dX10_fitOf_118 hN (by decide) rfl ?_
          have hr0 : ¬ tx u k2 = 0 := by rcases hr with z | z | z <;> rw [z] <;> decide
          refine v_iinc (lv' := [(6, .int (nI (k2 + 1))), (9, .int (tx u k2)), (0, .ref md), (1, .int (nI u)), (2, .int (nI t)), (3, .int (nI d)), (4, .int ay), (5, .int al), (8, .int (nI w))]) C dX10_fitOf_120 7 rfl (nI_1 _) hN (by decide) rfl ?_
          refine v_iconst C dX10_fitOf_123 (v := 0) rfl ?_
          refine v_istore (lv' := [(10, .int 0), (6, .int (nI (k2 + 1))), (9, .int (tx u k2)), (0, .ref md), (1, .int (nI u)), (2, .int (nI t)), (3, .int (nI d)), (4, .int ay), (5, .int al), (8, .int (nI w))]) C dX10_fitOf_124 hN (by decide) rfl ?_
          refine v_sub (lv' := [(0, .ref md), (1, .int (nI u)), (2, .int (nI t)), (3, .int (nI d)), (4, .int ay), (5, .int al), (6, .int (nI (k2 + 1))), (8, .int (nI w)), (9, .int (tx u k2)), (10, .int 0)]) [3, 4, 5, 6, 7, 8, 1, 9, 2, 0] rfl ?_
          have lp126 : ∀ (mm : Nat) (i : Nat) (v : Int32) (h0 : k < i) (h1 : i ≤ ln u) (h2 : aut (tx u) i = 3 ∨ aut (tx u) i = 4 ∨ aut (tx u) i = 5) (h3 : jrun (knI (fun w => oI (factN nP pf cB (Lk m nT pf) (Kk m nT pf) (m t) t d w))) (txE (tx u) (ln u)) i = (ay, al, nI w, tx u k2, v)), ln u - i < mm → V X (rmD 7 0 0) M 0 0 [(0, .ref md), (1, .int (nI u)), (2, .int (nI t)), (3, .int (nI d)), (4, .int ay), (5, .int al), (6, .int (nI i)), (8, .int (nI w)), (9, .int (tx u k2)), (10, .int v)] 126 [] := by
            intro mm
            induction mm with
            | zero => intro i v h0 h1 h2 h3 hmu; exact absurd hmu (Nat.not_lt_zero _)
            | succ mm ih126 =>
              intro i v h0 h1 h2 h3 hmu
              refine v_iload C dX10_fitOf_126 rfl ?_
              have j188 : ∀  (hx : i = ln u ∨ (i < ln u ∧ (tx u i = 38 ∨ tx u i = 124) ∧ aut (tx u) (i + 1) = 0)), V X (rmD 7 0 0) M 0 0 [(0, .ref md), (1, .int (nI u)), (2, .int (nI t)), (3, .int (nI d)), (4, .int ay), (5, .int al), (6, .int (nI i)), (8, .int (nI w)), (9, .int (tx u k2)), (10, .int v)] 188 [] := by
                intro hx
                have hfb := factN_b (nP := nP) (pf := pf) (B := cB) (L := Lk m nT pf) (K := Kk m nT pf) (t := t) (d := d) (w := w) (okT_ t lt)
                refine v_aload_n C dX10_fitOf_188 rfl ?_
                refine v_iload_n C dX10_fitOf_189 rfl ?_
                refine v_iload_n C dX10_fitOf_190 rfl ?_
                refine v_iload C dX10_fitOf_191 rfl ?_
                refine v_callV (As := [.int (nI t), .int (nI d), .int (nI w)]) (rest := []) (b := md) C (c_X10_factOf (xl X) (xg X) M md t1 t2 t3 t4 t5 t6 t7 t8 fT fD fP fC fS fU fX fF mo nT m dB nP pf cB nS sg ln tx fl hM t d w (by omega) (by omega) (by omega)) pm_X10_factOf wI_X10_factOf wS_X10_factOf wM_X10_103 kX10 hO ⟨by decide, by decide⟩ ⟨by decide, by decide⟩ (nle rfl) dX10_fitOf_193 rfl (dt1 ?_)
                show V X (rmD 7 0 0) M 0 0 [(0, .ref md), (1, .int (nI u)), (2, .int (nI t)), (3, .int (nI d)), (4, .int ay), (5, .int al), (6, .int (nI i)), (8, .int (nI w)), (9, .int (tx u k2)), (10, .int v)] 196 [.int (oI (factN nP pf cB (Lk m nT pf) (Kk m nT pf) (m t) t d w))]
                refine v_istore (lv' := [(11, .int (oI (factN nP pf cB (Lk m nT pf) (Kk m nT pf) (m t) t d w))), (0, .ref md), (1, .int (nI u)), (2, .int (nI t)), (3, .int (nI d)), (4, .int ay), (5, .int al), (6, .int (nI i)), (8, .int (nI w)), (9, .int (tx u k2)), (10, .int v)]) C dX10_fitOf_196 hN (by decide) rfl ?_
                have j254 : V X (rmD 7 0 0) M 0 0 [(0, .ref md), (1, .int (nI u)), (2, .int (nI t)), (3, .int (nI d)), (4, .int ay), (5, .int al), (6, .int (nI i)), (8, .int (nI w)), (9, .int (tx u k2)), (10, .int v), (11, .int (oI (factN nP pf cB (Lk m nT pf) (Kk m nT pf) (m t) t d w)))] 254 [.int (bI (relB (oI (factN nP pf cB (Lk m nT pf) (Kk m nT pf) (m t) t d w)) (tx u k2) v))] := by
                  refine v_istore (lv' := [(12, .int (bI (relB (oI (factN nP pf cB (Lk m nT pf) (Kk m nT pf) (m t) t d w)) (tx u k2) v))), (0, .ref md), (1, .int (nI u)), (2, .int (nI t)), (3, .int (nI d)), (4, .int ay), (5, .int al), (6, .int (nI i)), (8, .int (nI w)), (9, .int (tx u k2)), (10, .int v), (11, .int (oI (factN nP pf cB (Lk m nT pf) (Kk m nT pf) (m t) t d w)))]) C dX10_fitOf_254 hN (by decide) rfl ?_
                  have j275 : V X (rmD 7 0 0) M 0 0 [(0, .ref md), (1, .int (nI u)), (2, .int (nI t)), (3, .int (nI d)), (4, .int ay), (5, .int al), (6, .int (nI i)), (8, .int (nI w)), (9, .int (tx u k2)), (10, .int v), (11, .int (oI (factN nP pf cB (Lk m nT pf) (Kk m nT pf) (m t) t d w)))] 275 [.int (jtest (oI (factN nP pf cB (Lk m nT pf) (Kk m nT pf) (m t) t d w)) (tx u k2) v)] := by
                    refine v_istore (lv' := [(13, .int (jtest (oI (factN nP pf cB (Lk m nT pf) (Kk m nT pf) (m t) t d w)) (tx u k2) v)), (0, .ref md), (1, .int (nI u)), (2, .int (nI t)), (3, .int (nI d)), (4, .int ay), (5, .int al), (6, .int (nI i)), (8, .int (nI w)), (9, .int (tx u k2)), (10, .int v), (11, .int (oI (factN nP pf cB (Lk m nT pf) (Kk m nT pf) (m t) t d w)))]) C dX10_fitOf_275 hN (by decide) rfl ?_
                    have j291 : V X (rmD 7 0 0) M 0 0 [(0, .ref md), (1, .int (nI u)), (2, .int (nI t)), (3, .int (nI d)), (4, .int ay), (5, .int al), (6, .int (nI i)), (8, .int (nI w)), (9, .int (tx u k2)), (10, .int v), (11, .int (oI (factN nP pf cB (Lk m nT pf) (Kk m nT pf) (m t) t d w)))] 291 [.int (if jtest (oI (factN nP pf cB (Lk m nT pf) (Kk m nT pf) (m t) t d w)) (tx u k2) v < al then jtest (oI (factN nP pf cB (Lk m nT pf) (Kk m nT pf) (m t) t d w)) (tx u k2) v else al)] := by
                      refine v_istore (lv' := [(5, .int (if jtest (oI (factN nP pf cB (Lk m nT pf) (Kk m nT pf) (m t) t d w)) (tx u k2) v < al then jtest (oI (factN nP pf cB (Lk m nT pf) (Kk m nT pf) (m t) t d w)) (tx u k2) v else al)), (0, .ref md), (1, .int (nI u)), (2, .int (nI t)), (3, .int (nI d)), (4, .int ay), (6, .int (nI i)), (8, .int (nI w)), (9, .int (tx u k2)), (10, .int v), (11, .int (oI (factN nP pf cB (Lk m nT pf) (Kk m nT pf) (m t) t d w)))]) C dX10_fitOf_291 hN (by decide) rfl ?_
                      have j321 : ∀  (h124 : (txE (tx u) (ln u)) i = 124), V X (rmD 7 0 0) M 0 0 [(0, .ref md), (1, .int (nI u)), (2, .int (nI t)), (3, .int (nI d)), (4, .int ay), (6, .int (nI i)), (8, .int (nI w)), (9, .int (tx u k2)), (10, .int v), (5, .int (if jtest (oI (factN nP pf cB (Lk m nT pf) (Kk m nT pf) (m t) t d w)) (tx u k2) v < al then jtest (oI (factN nP pf cB (Lk m nT pf) (Kk m nT pf) (m t) t d w)) (tx u k2) v else al))] 321 [] := by
                        intro h124
                        refine v_iload C dX10_fitOf_321 rfl ?_
                        have j335 : V X (rmD 7 0 0) M 0 0 [(0, .ref md), (1, .int (nI u)), (2, .int (nI t)), (3, .int (nI d)), (4, .int ay), (6, .int (nI i)), (8, .int (nI w)), (9, .int (tx u k2)), (10, .int v), (5, .int (if jtest (oI (factN nP pf cB (Lk m nT pf) (Kk m nT pf) (m t) t d w)) (tx u k2) v < al then jtest (oI (factN nP pf cB (Lk m nT pf) (Kk m nT pf) (m t) t d w)) (tx u k2) v else al))] 335 [.int (if ay < (if jtest (oI (factN nP pf cB (Lk m nT pf) (Kk m nT pf) (m t) t d w)) (tx u k2) v < al then jtest (oI (factN nP pf cB (Lk m nT pf) (Kk m nT pf) (m t) t d w)) (tx u k2) v else al) then (if jtest (oI (factN nP pf cB (Lk m nT pf) (Kk m nT pf) (m t) t d w)) (tx u k2) v < al then jtest (oI (factN nP pf cB (Lk m nT pf) (Kk m nT pf) (m t) t d w)) (tx u k2) v else al) else ay)] := by
                          refine v_istore (lv' := [(4, .int (if ay < (if jtest (oI (factN nP pf cB (Lk m nT pf) (Kk m nT pf) (m t) t d w)) (tx u k2) v < al then jtest (oI (factN nP pf cB (Lk m nT pf) (Kk m nT pf) (m t) t d w)) (tx u k2) v else al) then (if jtest (oI (factN nP pf cB (Lk m nT pf) (Kk m nT pf) (m t) t d w)) (tx u k2) v < al then jtest (oI (factN nP pf cB (Lk m nT pf) (Kk m nT pf) (m t) t d w)) (tx u k2) v else al) else ay)), (0, .ref md), (1, .int (nI u)), (2, .int (nI t)), (3, .int (nI d)), (6, .int (nI i)), (8, .int (nI w)), (9, .int (tx u k2)), (10, .int v), (5, .int (if jtest (oI (factN nP pf cB (Lk m nT pf) (Kk m nT pf) (m t) t d w)) (tx u k2) v < al then jtest (oI (factN nP pf cB (Lk m nT pf) (Kk m nT pf) (m t) t d w)) (tx u k2) v else al))]) C dX10_fitOf_335 hN (by decide) rfl ?_
                          refine v_iconst C dX10_fitOf_337 (v := 2) rfl ?_
                          refine v_istore (lv' := [(5, .int 2), (4, .int (if ay < (if jtest (oI (factN nP pf cB (Lk m nT pf) (Kk m nT pf) (m t) t d w)) (tx u k2) v < al then jtest (oI (factN nP pf cB (Lk m nT pf) (Kk m nT pf) (m t) t d w)) (tx u k2) v else al) then (if jtest (oI (factN nP pf cB (Lk m nT pf) (Kk m nT pf) (m t) t d w)) (tx u k2) v < al then jtest (oI (factN nP pf cB (Lk m nT pf) (Kk m nT pf) (m t) t d w)) (tx u k2) v else al) else ay)), (0, .ref md), (1, .int (nI u)), (2, .int (nI t)), (3, .int (nI d)), (6, .int (nI i)), (8, .int (nI w)), (9, .int (tx u k2)), (10, .int v)]) C dX10_fitOf_338 hN (by decide) rfl ?_
                          refine v_iinc (lv' := [(6, .int (nI (i + 1))), (5, .int 2), (4, .int (if ay < (if jtest (oI (factN nP pf cB (Lk m nT pf) (Kk m nT pf) (m t) t d w)) (tx u k2) v < al then jtest (oI (factN nP pf cB (Lk m nT pf) (Kk m nT pf) (m t) t d w)) (tx u k2) v else al) then (if jtest (oI (factN nP pf cB (Lk m nT pf) (Kk m nT pf) (m t) t d w)) (tx u k2) v < al then jtest (oI (factN nP pf cB (Lk m nT pf) (Kk m nT pf) (m t) t d w)) (tx u k2) v else al) else ay)), (0, .ref md), (1, .int (nI u)), (2, .int (nI t)), (3, .int (nI d)), (8, .int (nI w)), (9, .int (tx u k2)), (10, .int v)]) C dX10_fitOf_340 6 rfl (nI_1 _) hN (by decide) rfl ?_
                          refine v_goto (tgt := 9) C dX10_fitOf_343 (by decide) ?_
                          refine v_sub (lv' := [(0, .ref md), (1, .int (nI u)), (2, .int (nI t)), (3, .int (nI d)), (4, .int (if ay < (if jtest (oI (factN nP pf cB (Lk m nT pf) (Kk m nT pf) (m t) t d w)) (tx u k2) v < al then jtest (oI (factN nP pf cB (Lk m nT pf) (Kk m nT pf) (m t) t d w)) (tx u k2) v else al) then (if jtest (oI (factN nP pf cB (Lk m nT pf) (Kk m nT pf) (m t) t d w)) (tx u k2) v < al then jtest (oI (factN nP pf cB (Lk m nT pf) (Kk m nT pf) (m t) t d w)) (tx u k2) v else al) else ay)), (5, .int 2), (6, .int (nI (i + 1)))]) [3, 4, 5, 6, 2, 1, 0] rfl ?_
                          exact ih9 (i + 1) (if ay < (if jtest (oI (factN nP pf cB (Lk m nT pf) (Kk m nT pf) (m t) t d w)) (tx u k2) v < al then jtest (oI (factN nP pf cB (Lk m nT pf) (Kk m nT pf) (m t) t d w)) (tx u k2) v else al) then (if jtest (oI (factN nP pf cB (Lk m nT pf) (Kk m nT pf) (m t) t d w)) (tx u k2) v < al then jtest (oI (factN nP pf cB (Lk m nT pf) (Kk m nT pf) (m t) t d w)) (tx u k2) v else al) else ay) (2) (hx.elim (fun z => Or.inr ⟨by omega, by have q := jf_or h3 (knI_N hw) h124; rw [z] at q; rw [q]⟩) (fun z => Or.inl ⟨by omega, z.2.2, _, jf_or h3 (knI_N hw) h124⟩)) (by omega)
                        refine v_iload C dX10_fitOf_323 rfl ?_
                        refine v_icmp_le (tgt := 333) C dX10_fitOf_325 (by decide) (fun h325 => ?_) (fun h325 => ?_)
                        · refine v_iload C dX10_fitOf_333 rfl ?_
                          have hmx : (if ay < (if jtest (oI (factN nP pf cB (Lk m nT pf) (Kk m nT pf) (m t) t d w)) (tx u k2) v < al then jtest (oI (factN nP pf cB (Lk m nT pf) (Kk m nT pf) (m t) t d w)) (tx u k2) v else al) then (if jtest (oI (factN nP pf cB (Lk m nT pf) (Kk m nT pf) (m t) t d w)) (tx u k2) v < al then jtest (oI (factN nP pf cB (Lk m nT pf) (Kk m nT pf) (m t) t d w)) (tx u k2) v else al) else ay) = ay := if_neg (Int32.not_lt.mpr h325)
                          have e335 := j335
                          rw [hmx] at e335
                          exact e335
                        · refine v_iload C dX10_fitOf_328 rfl ?_
                          refine v_goto (tgt := 335) C dX10_fitOf_330 (by decide) ?_
                          have hmx : (if ay < (if jtest (oI (factN nP pf cB (Lk m nT pf) (Kk m nT pf) (m t) t d w)) (tx u k2) v < al then jtest (oI (factN nP pf cB (Lk m nT pf) (Kk m nT pf) (m t) t d w)) (tx u k2) v else al) then (if jtest (oI (factN nP pf cB (Lk m nT pf) (Kk m nT pf) (m t) t d w)) (tx u k2) v < al then jtest (oI (factN nP pf cB (Lk m nT pf) (Kk m nT pf) (m t) t d w)) (tx u k2) v else al) else ay) = (if jtest (oI (factN nP pf cB (Lk m nT pf) (Kk m nT pf) (m t) t d w)) (tx u k2) v < al then jtest (oI (factN nP pf cB (Lk m nT pf) (Kk m nT pf) (m t) t d w)) (tx u k2) v else al) := if_pos (Int32.not_le.mp h325)
                          have e335 := j335
                          rw [hmx] at e335
                          exact e335
                      refine v_iload C dX10_fitOf_293 rfl ?_
                      refine v_aload_n C dX10_fitOf_295 rfl ?_
                      refine v_get C kX10 hO 8 (by decide) wF_X10_26 rfl dX10_fitOf_296 ?_
                      refine v_iload_n C dX10_fitOf_299 rfl ?_
                      refine v_iald C h6_ (vp_in_nI (by omega) (by decide)) dX10_fitOf_300 ?_
                      rw [show fU (nI u : Int32).toNatClampNeg = nI (ln u) from by rw [nI_clamp (by omega)]; exact cU u (by omega)]
                      refine v_icmp_eq (tgt := 321) C dX10_fitOf_301 (by decide) (fun h301 => ?_) (fun h301 => ?_)
                      · refine v_sub (lv' := [(0, .ref md), (1, .int (nI u)), (2, .int (nI t)), (3, .int (nI d)), (4, .int ay), (6, .int (nI i)), (8, .int (nI w)), (9, .int (tx u k2)), (10, .int v), (5, .int (if jtest (oI (factN nP pf cB (Lk m nT pf) (Kk m nT pf) (m t) t d w)) (tx u k2) v < al then jtest (oI (factN nP pf cB (Lk m nT pf) (Kk m nT pf) (m t) t d w)) (tx u k2) v else al))]) [1, 2, 3, 4, 5, 6, 7, 8, 9, 0] rfl ?_
                        exact j321 (by rw [nI_eqN (by omega) (by omega) h301]; exact txE_end _ _)
                      · have g301 : ¬ i = ln u := fun z => h301 (by rw [z])
                        have hi2 := (hx.resolve_left g301).1
                        refine v_aload_n C dX10_fitOf_304 rfl ?_
                        refine v_get C kX10 hO 9 (by decide) wF_X10_29 rfl dX10_fitOf_305 ?_
                        refine v_bipush C dX10_fitOf_308 (v := 40) rfl ?_
                        refine v_iload_n C dX10_fitOf_310 rfl ?_
                        refine v_imul C dX10_fitOf_311 ?_
                        refine v_iload C dX10_fitOf_312 rfl ?_
                        refine v_iadd C dX10_fitOf_314 ?_
                        rw [show ((40 * (nI u)) + (nI i) : Int32) = nI (40 * u + i) from ix_ad (ix_mu rfl rfl) rfl]
                        refine v_iald C h7_ (vp_in_nI (by omega) (by decide)) dX10_fitOf_315 ?_
                        rw [show fX (nI (40 * u + i) : Int32).toNatClampNeg = tx u i from by rw [nI_clamp (by omega)]; exact cX u (by omega) i (by omega)]
                        refine v_bipush C dX10_fitOf_316 (v := 124) rfl ?_
                        refine v_icmp_ne (tgt := 340) C dX10_fitOf_318 (by decide) (fun h318 => ?_) (fun h318 => ?_)
                        · refine v_iinc (lv' := [(6, .int (nI (i + 1))), (5, .int (if jtest (oI (factN nP pf cB (Lk m nT pf) (Kk m nT pf) (m t) t d w)) (tx u k2) v < al then jtest (oI (factN nP pf cB (Lk m nT pf) (Kk m nT pf) (m t) t d w)) (tx u k2) v else al)), (0, .ref md), (1, .int (nI u)), (2, .int (nI t)), (3, .int (nI d)), (4, .int ay), (8, .int (nI w)), (9, .int (tx u k2)), (10, .int v), (11, .int (oI (factN nP pf cB (Lk m nT pf) (Kk m nT pf) (m t) t d w)))]) C dX10_fitOf_340 6 rfl (nI_1 _) hN (by decide) rfl ?_
                          refine v_goto (tgt := 9) C dX10_fitOf_343 (by decide) ?_
                          refine v_sub (lv' := [(0, .ref md), (1, .int (nI u)), (2, .int (nI t)), (3, .int (nI d)), (4, .int ay), (5, .int (if jtest (oI (factN nP pf cB (Lk m nT pf) (Kk m nT pf) (m t) t d w)) (tx u k2) v < al then jtest (oI (factN nP pf cB (Lk m nT pf) (Kk m nT pf) (m t) t d w)) (tx u k2) v else al)), (6, .int (nI (i + 1)))]) [2, 3, 4, 5, 6, 1, 0] rfl ?_
                          exact ih9 (i + 1) (ay) (if jtest (oI (factN nP pf cB (Lk m nT pf) (Kk m nT pf) (m t) t d w)) (tx u k2) v < al then jtest (oI (factN nP pf cB (Lk m nT pf) (Kk m nT pf) (m t) t d w)) (tx u k2) v else al) (Or.inl ⟨by omega, (hx.resolve_left g301).2.2, _, jf_and (hx.resolve_left g301).1 h3 (knI_N hw) ((hx.resolve_left g301).2.1.resolve_right h318)⟩) (by omega)
                        · refine v_sub (lv' := [(0, .ref md), (1, .int (nI u)), (2, .int (nI t)), (3, .int (nI d)), (4, .int ay), (6, .int (nI i)), (8, .int (nI w)), (9, .int (tx u k2)), (10, .int v), (5, .int (if jtest (oI (factN nP pf cB (Lk m nT pf) (Kk m nT pf) (m t) t d w)) (tx u k2) v < al then jtest (oI (factN nP pf cB (Lk m nT pf) (Kk m nT pf) (m t) t d w)) (tx u k2) v else al))]) [1, 2, 3, 4, 5, 6, 7, 8, 9, 0] rfl ?_
                          exact j321 ((txE_lt ((hx.resolve_left g301).1)).trans h318)
                    refine v_iload C dX10_fitOf_277 rfl ?_
                    refine v_iload C dX10_fitOf_279 rfl ?_
                    refine v_icmp_ge (tgt := 289) C dX10_fitOf_281 (by decide) (fun h281 => ?_) (fun h281 => ?_)
                    · refine v_iload C dX10_fitOf_289 rfl ?_
                      refine v_sub (lv' := [(0, .ref md), (1, .int (nI u)), (2, .int (nI t)), (3, .int (nI d)), (4, .int ay), (5, .int al), (6, .int (nI i)), (8, .int (nI w)), (9, .int (tx u k2)), (10, .int v), (11, .int (oI (factN nP pf cB (Lk m nT pf) (Kk m nT pf) (m t) t d w)))]) [1, 2, 3, 4, 5, 6, 7, 8, 9, 10, 11] rfl ?_
                      have hmn : (if jtest (oI (factN nP pf cB (Lk m nT pf) (Kk m nT pf) (m t) t d w)) (tx u k2) v < al then jtest (oI (factN nP pf cB (Lk m nT pf) (Kk m nT pf) (m t) t d w)) (tx u k2) v else al) = al := if_neg (Int32.not_lt.mpr h281)
                      have e291 := j291
                      rw [hmn] at e291
                      exact e291
                    · refine v_iload C dX10_fitOf_284 rfl ?_
                      refine v_goto (tgt := 291) C dX10_fitOf_286 (by decide) ?_
                      refine v_sub (lv' := [(0, .ref md), (1, .int (nI u)), (2, .int (nI t)), (3, .int (nI d)), (4, .int ay), (5, .int al), (6, .int (nI i)), (8, .int (nI w)), (9, .int (tx u k2)), (10, .int v), (11, .int (oI (factN nP pf cB (Lk m nT pf) (Kk m nT pf) (m t) t d w)))]) [1, 2, 3, 4, 5, 6, 7, 8, 9, 10, 11] rfl ?_
                      have hmn : (if jtest (oI (factN nP pf cB (Lk m nT pf) (Kk m nT pf) (m t) t d w)) (tx u k2) v < al then jtest (oI (factN nP pf cB (Lk m nT pf) (Kk m nT pf) (m t) t d w)) (tx u k2) v else al) = jtest (oI (factN nP pf cB (Lk m nT pf) (Kk m nT pf) (m t) t d w)) (tx u k2) v := if_pos (Int32.not_le.mp h281)
                      have e291 := j291
                      rw [hmn] at e291
                      exact e291
                  refine v_iload C dX10_fitOf_256 rfl ?_
                  refine v_if_ge (tgt := 265) C dX10_fitOf_258 (by decide) (fun h258 => ?_) (fun h258 => ?_)
                  · refine v_iload C dX10_fitOf_265 rfl ?_
                    refine v_ifb_eq (tgt := 274) C dX10_fitOf_267 (by decide) (fun h267 => ?_) (fun h267 => ?_)
                    · refine v_iconst C dX10_fitOf_274 (v := 0) rfl ?_
                      refine v_sub (lv' := [(0, .ref md), (1, .int (nI u)), (2, .int (nI t)), (3, .int (nI d)), (4, .int ay), (5, .int al), (6, .int (nI i)), (8, .int (nI w)), (9, .int (tx u k2)), (10, .int v), (11, .int (oI (factN nP pf cB (Lk m nT pf) (Kk m nT pf) (m t) t d w)))]) [1, 2, 3, 4, 5, 6, 7, 8, 9, 10, 11] rfl ?_
                      have hjt : jtest (oI (factN nP pf cB (Lk m nT pf) (Kk m nT pf) (m t) t d w)) (tx u k2) v = 0 := by rw [jtest_rel hfb, if_neg (Int32.not_lt.mpr h258), h267]; rfl
                      have e275 := j275
                      rw [hjt] at e275
                      exact e275
                    · refine v_iconst C dX10_fitOf_270 (v := 2) rfl ?_
                      refine v_goto (tgt := 275) C dX10_fitOf_271 (by decide) ?_
                      refine v_sub (lv' := [(0, .ref md), (1, .int (nI u)), (2, .int (nI t)), (3, .int (nI d)), (4, .int ay), (5, .int al), (6, .int (nI i)), (8, .int (nI w)), (9, .int (tx u k2)), (10, .int v), (11, .int (oI (factN nP pf cB (Lk m nT pf) (Kk m nT pf) (m t) t d w)))]) [1, 2, 3, 4, 5, 6, 7, 8, 9, 10, 11] rfl ?_
                      have hjt : jtest (oI (factN nP pf cB (Lk m nT pf) (Kk m nT pf) (m t) t d w)) (tx u k2) v = 2 := by rw [jtest_rel hfb, if_neg (Int32.not_lt.mpr h258), h267]; rfl
                      have e275 := j275
                      rw [hjt] at e275
                      exact e275
                  · refine v_iconst C dX10_fitOf_261 (v := 1) rfl ?_
                    refine v_goto (tgt := 275) C dX10_fitOf_262 (by decide) ?_
                    refine v_sub (lv' := [(0, .ref md), (1, .int (nI u)), (2, .int (nI t)), (3, .int (nI d)), (4, .int ay), (5, .int al), (6, .int (nI i)), (8, .int (nI w)), (9, .int (tx u k2)), (10, .int v), (11, .int (oI (factN nP pf cB (Lk m nT pf) (Kk m nT pf) (m t) t d w)))]) [1, 2, 3, 4, 5, 6, 7, 8, 9, 10, 11] rfl ?_
                    have hjt : jtest (oI (factN nP pf cB (Lk m nT pf) (Kk m nT pf) (m t) t d w)) (tx u k2) v = 1 := by rw [jtest_rel hfb, if_pos (Int32.not_le.mp h258)]
                    have e275 := j275
                    rw [hjt] at e275
                    exact e275
                refine v_iload C dX10_fitOf_198 rfl ?_
                refine v_bipush C dX10_fitOf_200 (v := 60) rfl ?_
                refine v_icmp_ne (tgt := 220) C dX10_fitOf_202 (by decide) (fun h202 => ?_) (fun h202 => ?_)
                · refine v_iload C dX10_fitOf_220 rfl ?_
                  refine v_bipush C dX10_fitOf_222 (v := 62) rfl ?_
                  refine v_icmp_ne (tgt := 242) C dX10_fitOf_224 (by decide) (fun h224 => ?_) (fun h224 => ?_)
                  · refine v_iload C dX10_fitOf_242 rfl ?_
                    refine v_iload C dX10_fitOf_244 rfl ?_
                    refine v_icmp_ne (tgt := 253) C dX10_fitOf_246 (by decide) (fun h246 => ?_) (fun h246 => ?_)
                    · refine v_iconst C dX10_fitOf_253 (v := 0) rfl ?_
                      refine v_sub (lv' := [(0, .ref md), (1, .int (nI u)), (2, .int (nI t)), (3, .int (nI d)), (4, .int ay), (5, .int al), (6, .int (nI i)), (8, .int (nI w)), (9, .int (tx u k2)), (10, .int v), (11, .int (oI (factN nP pf cB (Lk m nT pf) (Kk m nT pf) (m t) t d w)))]) [1, 2, 3, 4, 5, 6, 7, 8, 9, 10, 0] rfl ?_
                      have hrl : relB (oI (factN nP pf cB (Lk m nT pf) (Kk m nT pf) (m t) t d w)) (tx u k2) v = false := by unfold relB; rw [if_neg h202, if_neg h224]; exact decide_eq_false h246
                      have e254 := j254
                      rw [hrl] at e254
                      exact e254
                    · refine v_iconst C dX10_fitOf_249 (v := 1) rfl ?_
                      refine v_goto (tgt := 254) C dX10_fitOf_250 (by decide) ?_
                      refine v_sub (lv' := [(0, .ref md), (1, .int (nI u)), (2, .int (nI t)), (3, .int (nI d)), (4, .int ay), (5, .int al), (6, .int (nI i)), (8, .int (nI w)), (9, .int (tx u k2)), (10, .int v), (11, .int (oI (factN nP pf cB (Lk m nT pf) (Kk m nT pf) (m t) t d w)))]) [1, 2, 3, 4, 5, 6, 7, 8, 9, 10, 0] rfl ?_
                      have hrl : relB (oI (factN nP pf cB (Lk m nT pf) (Kk m nT pf) (m t) t d w)) (tx u k2) v = true := by unfold relB; rw [if_neg h202, if_neg h224]; exact decide_eq_true h246
                      have e254 := j254
                      rw [hrl] at e254
                      exact e254
                  · refine v_iload C dX10_fitOf_227 rfl ?_
                    refine v_iload C dX10_fitOf_229 rfl ?_
                    refine v_icmp_le (tgt := 238) C dX10_fitOf_231 (by decide) (fun h231 => ?_) (fun h231 => ?_)
                    · refine v_iconst C dX10_fitOf_238 (v := 0) rfl ?_
                      refine v_goto (tgt := 254) C dX10_fitOf_239 (by decide) ?_
                      refine v_sub (lv' := [(0, .ref md), (1, .int (nI u)), (2, .int (nI t)), (3, .int (nI d)), (4, .int ay), (5, .int al), (6, .int (nI i)), (8, .int (nI w)), (9, .int (tx u k2)), (10, .int v), (11, .int (oI (factN nP pf cB (Lk m nT pf) (Kk m nT pf) (m t) t d w)))]) [1, 2, 3, 4, 5, 6, 7, 8, 9, 10, 0] rfl ?_
                      have hrl : relB (oI (factN nP pf cB (Lk m nT pf) (Kk m nT pf) (m t) t d w)) (tx u k2) v = false := by unfold relB; rw [if_neg h202, if_pos h224]; exact decide_eq_false (Int32.not_lt.mpr h231)
                      have e254 := j254
                      rw [hrl] at e254
                      exact e254
                    · refine v_iconst C dX10_fitOf_234 (v := 1) rfl ?_
                      refine v_goto (tgt := 254) C dX10_fitOf_235 (by decide) ?_
                      refine v_sub (lv' := [(0, .ref md), (1, .int (nI u)), (2, .int (nI t)), (3, .int (nI d)), (4, .int ay), (5, .int al), (6, .int (nI i)), (8, .int (nI w)), (9, .int (tx u k2)), (10, .int v), (11, .int (oI (factN nP pf cB (Lk m nT pf) (Kk m nT pf) (m t) t d w)))]) [1, 2, 3, 4, 5, 6, 7, 8, 9, 10, 0] rfl ?_
                      have hrl : relB (oI (factN nP pf cB (Lk m nT pf) (Kk m nT pf) (m t) t d w)) (tx u k2) v = true := by unfold relB; rw [if_neg h202, if_pos h224]; exact decide_eq_true (Int32.not_le.mp h231)
                      have e254 := j254
                      rw [hrl] at e254
                      exact e254
                · refine v_iload C dX10_fitOf_205 rfl ?_
                  refine v_iload C dX10_fitOf_207 rfl ?_
                  refine v_icmp_ge (tgt := 216) C dX10_fitOf_209 (by decide) (fun h209 => ?_) (fun h209 => ?_)
                  · refine v_iconst C dX10_fitOf_216 (v := 0) rfl ?_
                    refine v_goto (tgt := 254) C dX10_fitOf_217 (by decide) ?_
                    refine v_sub (lv' := [(0, .ref md), (1, .int (nI u)), (2, .int (nI t)), (3, .int (nI d)), (4, .int ay), (5, .int al), (6, .int (nI i)), (8, .int (nI w)), (9, .int (tx u k2)), (10, .int v), (11, .int (oI (factN nP pf cB (Lk m nT pf) (Kk m nT pf) (m t) t d w)))]) [1, 2, 3, 4, 5, 6, 7, 8, 9, 10, 0] rfl ?_
                    have hrl : relB (oI (factN nP pf cB (Lk m nT pf) (Kk m nT pf) (m t) t d w)) (tx u k2) v = false := by unfold relB; rw [if_pos h202]; exact decide_eq_false (Int32.not_lt.mpr h209)
                    have e254 := j254
                    rw [hrl] at e254
                    exact e254
                  · refine v_iconst C dX10_fitOf_212 (v := 1) rfl ?_
                    refine v_goto (tgt := 254) C dX10_fitOf_213 (by decide) ?_
                    refine v_sub (lv' := [(0, .ref md), (1, .int (nI u)), (2, .int (nI t)), (3, .int (nI d)), (4, .int ay), (5, .int al), (6, .int (nI i)), (8, .int (nI w)), (9, .int (tx u k2)), (10, .int v), (11, .int (oI (factN nP pf cB (Lk m nT pf) (Kk m nT pf) (m t) t d w)))]) [1, 2, 3, 4, 5, 6, 7, 8, 9, 10, 0] rfl ?_
                    have hrl : relB (oI (factN nP pf cB (Lk m nT pf) (Kk m nT pf) (m t) t d w)) (tx u k2) v = true := by unfold relB; rw [if_pos h202]; exact decide_eq_true (Int32.not_le.mp h209)
                    have e254 := j254
                    rw [hrl] at e254
                    exact e254
              refine v_aload_n C dX10_fitOf_128 rfl ?_
              refine v_get C kX10 hO 8 (by decide) wF_X10_26 rfl dX10_fitOf_129 ?_
              refine v_iload_n C dX10_fitOf_132 rfl ?_
              refine v_iald C h6_ (vp_in_nI (by omega) (by decide)) dX10_fitOf_133 ?_
              rw [show fU (nI u : Int32).toNatClampNeg = nI (ln u) from by rw [nI_clamp (by omega)]; exact cU u (by omega)]
              refine v_icmp_ge (tgt := 188) C dX10_fitOf_134 (by decide) (fun h134 => ?_) (fun h134 => ?_)
              · exact j188 (vdx hv h1 h2 (Or.inl (nI_leN (by omega) (by omega) h134)))
              · have g134 := nI_nleN (by omega) (by omega) h134
                refine v_aload_n C dX10_fitOf_137 rfl ?_
                refine v_get C kX10 hO 9 (by decide) wF_X10_29 rfl dX10_fitOf_138 ?_
                refine v_bipush C dX10_fitOf_141 (v := 40) rfl ?_
                refine v_iload_n C dX10_fitOf_143 rfl ?_
                refine v_imul C dX10_fitOf_144 ?_
                refine v_iload C dX10_fitOf_145 rfl ?_
                refine v_iadd C dX10_fitOf_147 ?_
                rw [show ((40 * (nI u)) + (nI i) : Int32) = nI (40 * u + i) from ix_ad (ix_mu rfl rfl) rfl]
                refine v_iald C h7_ (vp_in_nI (by omega) (by decide)) dX10_fitOf_148 ?_
                rw [show fX (nI (40 * u + i) : Int32).toNatClampNeg = tx u i from by rw [nI_clamp (by omega)]; exact cX u (by omega) i (by omega)]
                refine v_bipush C dX10_fitOf_149 (v := 48) rfl ?_
                refine v_bipush C dX10_fitOf_151 (v := 57) rfl ?_
                refine v_callS (As := [.int (tx u i), .int 48, .int 57]) (rest := []) C (c_X10_in (xl X) (xg X) (tx u i) 48 57 M) pm_X10_in wT_X10_in wM_X10_35 ⟨by decide, by decide⟩ ⟨by decide, by decide⟩ (nle rfl) dX10_fitOf_153 rfl (dt1 ?_)
                show V X (rmD 7 0 0) M 0 0 [(0, .ref md), (1, .int (nI u)), (2, .int (nI t)), (3, .int (nI d)), (4, .int ay), (5, .int al), (6, .int (nI i)), (8, .int (nI w)), (9, .int (tx u k2)), (10, .int v)] 156 [.int (bI (qin (tx u i) 48 57))]
                refine v_ifb_eq (tgt := 188) C dX10_fitOf_156 (by decide) (fun h156 => ?_) (fun h156 => ?_)
                · exact j188 (vdx hv h1 h2 (Or.inr h156))
                · refine v_bipush C dX10_fitOf_159 (v := 10) rfl ?_
                  refine v_iload C dX10_fitOf_161 rfl ?_
                  refine v_imul C dX10_fitOf_163 ?_
                  refine v_aload_n C dX10_fitOf_164 rfl ?_
                  refine v_get C kX10 hO 9 (by decide) wF_X10_29 rfl dX10_fitOf_165 ?_
                  refine v_bipush C dX10_fitOf_168 (v := 40) rfl ?_
                  refine v_iload_n C dX10_fitOf_170 rfl ?_
                  refine v_imul C dX10_fitOf_171 ?_
                  refine v_iload C dX10_fitOf_172 rfl ?_
                  refine v_iadd C dX10_fitOf_174 ?_
                  rw [show ((40 * (nI u)) + (nI i) : Int32) = nI (40 * u + i) from ix_ad (ix_mu rfl rfl) rfl]
                  refine v_iald C h7_ (vp_in_nI (by omega) (by decide)) dX10_fitOf_175 ?_
                  rw [show fX (nI (40 * u + i) : Int32).toNatClampNeg = tx u i from by rw [nI_clamp (by omega)]; exact cX u (by omega) i (by omega)]
                  refine v_iadd C dX10_fitOf_176 ?_
                  refine v_bipush C dX10_fitOf_177 (v := 48) rfl ?_
                  refine v_isub C dX10_fitOf_179 ?_
                  refine v_istore (lv' := [(10, .int (((10 * v) + (tx u i)) - 48)), (0, .ref md), (1, .int (nI u)), (2, .int (nI t)), (3, .int (nI d)), (4, .int ay), (5, .int al), (6, .int (nI i)), (8, .int (nI w)), (9, .int (tx u k2))]) C dX10_fitOf_180 hN (by decide) rfl ?_
                  refine v_iinc (lv' := [(6, .int (nI (i + 1))), (10, .int (((10 * v) + (tx u i)) - 48)), (0, .ref md), (1, .int (nI u)), (2, .int (nI t)), (3, .int (nI d)), (4, .int ay), (5, .int al), (8, .int (nI w)), (9, .int (tx u k2))]) C dX10_fitOf_182 7 rfl (nI_1 _) hN (by decide) rfl ?_
                  refine v_goto (tgt := 126) C dX10_fitOf_185 (by decide) ?_
                  refine v_sub (lv' := [(0, .ref md), (1, .int (nI u)), (2, .int (nI t)), (3, .int (nI d)), (4, .int ay), (5, .int al), (6, .int (nI (i + 1))), (8, .int (nI w)), (9, .int (tx u k2)), (10, .int (((10 * v) + (tx u i)) - 48))]) [2, 3, 4, 5, 6, 7, 0, 8, 9, 1] rfl ?_
                  exact ih126 (i + 1) (10 * v + tx u i - 48) (by omega) (by omega) (vdd hv g134 h2 h156) (jf_d g134 h3 hr0 h156) (by omega)
          exact lp126 (_ + 1) (k2 + 1) 0 (by omega) (by omega) (Or.inl ha4) (jf_r hl2 hj2 hr) (Nat.lt_succ_self _)
        refine v_iinc (lv' := [(6, .int (nI (k + 1))), (7, .int (tx u k)), (0, .ref md), (1, .int (nI u)), (2, .int (nI t)), (3, .int (nI d)), (4, .int ay), (5, .int al)]) C dX10_fitOf_34 7 rfl (nI_1 _) hN (by decide) rfl ?_
        rcases vd0 hv g17 ha with ⟨hs, ha1⟩ | ⟨hs, ha2⟩ | ⟨hs, ha2⟩ | ⟨hs, ha2⟩
        · rw [hs]
          obtain ⟨hk1, hq1, ha2⟩ := vd1 hv (by omega) ha1
          obtain ⟨e, he1, he2, he⟩ := qin_nJ (L := 48) (N := 53) (by decide) (by decide) hq1
          show V X (rmD 7 0 0) M 0 0 [(6, .int (nI (k + 1))), (7, .int 110), (0, .ref md), (1, .int (nI u)), (2, .int (nI t)), (3, .int (nI d)), (4, .int ay), (5, .int al)] 37 []
          refine v_iload C dX10_fitOf_37 rfl ?_
          refine v_bipush C dX10_fitOf_39 (v := 115) rfl ?_
          refine v_icmp_ne (tgt := 48) C dX10_fitOf_41 (by decide) (fun h41 => ?_) (fun hbad => absurd hbad (by decide))
          refine v_iload C dX10_fitOf_48 rfl ?_
          refine v_bipush C dX10_fitOf_50 (v := 107) rfl ?_
          refine v_icmp_ne (tgt := 59) C dX10_fitOf_52 (by decide) (fun h52 => ?_) (fun hbad => absurd hbad (by decide))
          refine v_iload C dX10_fitOf_59 rfl ?_
          refine v_bipush C dX10_fitOf_61 (v := 104) rfl ?_
          refine v_icmp_ne (tgt := 70) C dX10_fitOf_63 (by decide) (fun h63 => ?_) (fun hbad => absurd hbad (by decide))
          refine v_iconst C dX10_fitOf_70 (v := 3) rfl ?_
          refine v_aload_n C dX10_fitOf_71 rfl ?_
          refine v_get C kX10 hO 9 (by decide) wF_X10_29 rfl dX10_fitOf_72 ?_
          refine v_bipush C dX10_fitOf_75 (v := 40) rfl ?_
          refine v_iload_n C dX10_fitOf_77 rfl ?_
          refine v_imul C dX10_fitOf_78 ?_
          refine v_iload C dX10_fitOf_79 rfl ?_
          refine v_iadd C dX10_fitOf_81 ?_
          rw [show ((40 * (nI u)) + (nI (k + 1)) : Int32) = nI (40 * u + (k + 1)) from ix_ad (ix_mu rfl rfl) rfl]
          refine v_iald C h7_ (vp_in_nI (by omega) (by decide)) dX10_fitOf_82 ?_
          rw [show fX (nI (40 * u + (k + 1)) : Int32).toNatClampNeg = tx u (k + 1) from by rw [nI_clamp (by omega)]; exact cX u (by omega) (k + 1) (by omega)]
          refine v_iadd C dX10_fitOf_83 ?_
          refine v_bipush C dX10_fitOf_84 (v := 48) rfl ?_
          refine v_isub C dX10_fitOf_86 ?_
          rw [he, dig_n he1 he2]
          show V X (rmD 7 0 0) M 0 0 [(6, .int (nI (k + 1))), (7, .int 110), (0, .ref md), (1, .int (nI u)), (2, .int (nI t)), (3, .int (nI d)), (4, .int ay), (5, .int al)] 87 [.int (nI (e - 45))]
          refine v_istore (lv' := [(8, .int (nI (e - 45))), (6, .int (nI (k + 1))), (7, .int 110), (0, .ref md), (1, .int (nI u)), (2, .int (nI t)), (3, .int (nI d)), (4, .int ay), (5, .int al)]) C dX10_fitOf_87 hN (by decide) rfl ?_
          refine v_iload C dX10_fitOf_89 rfl ?_
          refine v_iload C dX10_fitOf_91 rfl ?_
          refine v_bipush C dX10_fitOf_93 (v := 110) rfl ?_
          refine v_icmp_ne (tgt := 102) C dX10_fitOf_95 (by decide) (fun hbad => absurd hbad (not_not_intro rfl)) (fun h95 => ?_)
          refine v_iconst C dX10_fitOf_98 (v := 1) rfl ?_
          refine v_goto (tgt := 103) C dX10_fitOf_99 (by decide) ?_
          refine v_iadd C dX10_fitOf_103 ?_
          rw [nI_1]
          show V X (rmD 7 0 0) M 0 0 [(8, .int (nI (e - 45))), (6, .int (nI (k + 1))), (7, .int 110), (0, .ref md), (1, .int (nI u)), (2, .int (nI t)), (3, .int (nI d)), (4, .int ay), (5, .int al)] 104 [.int (nI (k + 1 + 1))]
          refine v_istore (lv' := [(6, .int (nI (k + 1 + 1))), (8, .int (nI (e - 45))), (7, .int 110), (0, .ref md), (1, .int (nI u)), (2, .int (nI t)), (3, .int (nI d)), (4, .int ay), (5, .int al)]) C dX10_fitOf_104 hN (by decide) rfl ?_
          refine v_sub (lv' := [(0, .ref md), (1, .int (nI u)), (2, .int (nI t)), (3, .int (nI d)), (4, .int ay), (5, .int al), (6, .int (nI (k + 1 + 1))), (8, .int (nI (e - 45)))]) [3, 4, 5, 6, 7, 8, 0, 1] rfl ?_
          exact j106 (k + 1 + 1) (e - 45) (by omega) (by omega) ha2 (jf_n hk1 hj hs he he1 he2) (by omega)
        · rw [hs]
          show V X (rmD 7 0 0) M 0 0 [(6, .int (nI (k + 1))), (7, .int 115), (0, .ref md), (1, .int (nI u)), (2, .int (nI t)), (3, .int (nI d)), (4, .int ay), (5, .int al)] 37 []
          refine v_iload C dX10_fitOf_37 rfl ?_
          refine v_bipush C dX10_fitOf_39 (v := 115) rfl ?_
          refine v_icmp_ne (tgt := 48) C dX10_fitOf_41 (by decide) (fun hbad => absurd hbad (not_not_intro rfl)) (fun h41 => ?_)
          refine v_iconst C dX10_fitOf_44 (v := 0) rfl ?_
          refine v_goto (tgt := 87) C dX10_fitOf_45 (by decide) ?_
          refine v_istore (lv' := [(8, .int 0), (6, .int (nI (k + 1))), (7, .int 115), (0, .ref md), (1, .int (nI u)), (2, .int (nI t)), (3, .int (nI d)), (4, .int ay), (5, .int al)]) C dX10_fitOf_87 hN (by decide) rfl ?_
          refine v_iload C dX10_fitOf_89 rfl ?_
          refine v_iload C dX10_fitOf_91 rfl ?_
          refine v_bipush C dX10_fitOf_93 (v := 110) rfl ?_
          refine v_icmp_ne (tgt := 102) C dX10_fitOf_95 (by decide) (fun h95 => ?_) (fun hbad => absurd hbad (by decide))
          refine v_iconst C dX10_fitOf_102 (v := 0) rfl ?_
          refine v_iadd C dX10_fitOf_103 ?_
          rw [show nI (k + 1) + 0 = nI (k + 1) from Int32.add_zero _]
          show V X (rmD 7 0 0) M 0 0 [(8, .int 0), (6, .int (nI (k + 1))), (7, .int 115), (0, .ref md), (1, .int (nI u)), (2, .int (nI t)), (3, .int (nI d)), (4, .int ay), (5, .int al)] 104 [.int (nI (k + 1))]
          refine v_istore (lv' := [(6, .int (nI (k + 1))), (8, .int 0), (7, .int 115), (0, .ref md), (1, .int (nI u)), (2, .int (nI t)), (3, .int (nI d)), (4, .int ay), (5, .int al)]) C dX10_fitOf_104 hN (by decide) rfl ?_
          refine v_sub (lv' := [(0, .ref md), (1, .int (nI u)), (2, .int (nI t)), (3, .int (nI d)), (4, .int ay), (5, .int al), (6, .int (nI (k + 1))), (8, .int 0)]) [3, 4, 5, 6, 7, 8, 0, 1] rfl ?_
          exact j106 (k + 1) 0 (by omega) (by omega) ha2 (jf_s g17 hj hs) (by decide)
        · rw [hs]
          show V X (rmD 7 0 0) M 0 0 [(6, .int (nI (k + 1))), (7, .int 107), (0, .ref md), (1, .int (nI u)), (2, .int (nI t)), (3, .int (nI d)), (4, .int ay), (5, .int al)] 37 []
          refine v_iload C dX10_fitOf_37 rfl ?_
          refine v_bipush C dX10_fitOf_39 (v := 115) rfl ?_
          refine v_icmp_ne (tgt := 48) C dX10_fitOf_41 (by decide) (fun h41 => ?_) (fun hbad => absurd hbad (by decide))
          refine v_iload C dX10_fitOf_48 rfl ?_
          refine v_bipush C dX10_fitOf_50 (v := 107) rfl ?_
          refine v_icmp_ne (tgt := 59) C dX10_fitOf_52 (by decide) (fun hbad => absurd hbad (not_not_intro rfl)) (fun h52 => ?_)
          refine v_iconst C dX10_fitOf_55 (v := 1) rfl ?_
          refine v_goto (tgt := 87) C dX10_fitOf_56 (by decide) ?_
          refine v_istore (lv' := [(8, .int 1), (6, .int (nI (k + 1))), (7, .int 107), (0, .ref md), (1, .int (nI u)), (2, .int (nI t)), (3, .int (nI d)), (4, .int ay), (5, .int al)]) C dX10_fitOf_87 hN (by decide) rfl ?_
          refine v_iload C dX10_fitOf_89 rfl ?_
          refine v_iload C dX10_fitOf_91 rfl ?_
          refine v_bipush C dX10_fitOf_93 (v := 110) rfl ?_
          refine v_icmp_ne (tgt := 102) C dX10_fitOf_95 (by decide) (fun h95 => ?_) (fun hbad => absurd hbad (by decide))
          refine v_iconst C dX10_fitOf_102 (v := 0) rfl ?_
          refine v_iadd C dX10_fitOf_103 ?_
          rw [show nI (k + 1) + 0 = nI (k + 1) from Int32.add_zero _]
          show V X (rmD 7 0 0) M 0 0 [(8, .int 1), (6, .int (nI (k + 1))), (7, .int 107), (0, .ref md), (1, .int (nI u)), (2, .int (nI t)), (3, .int (nI d)), (4, .int ay), (5, .int al)] 104 [.int (nI (k + 1))]
          refine v_istore (lv' := [(6, .int (nI (k + 1))), (8, .int 1), (7, .int 107), (0, .ref md), (1, .int (nI u)), (2, .int (nI t)), (3, .int (nI d)), (4, .int ay), (5, .int al)]) C dX10_fitOf_104 hN (by decide) rfl ?_
          refine v_sub (lv' := [(0, .ref md), (1, .int (nI u)), (2, .int (nI t)), (3, .int (nI d)), (4, .int ay), (5, .int al), (6, .int (nI (k + 1))), (8, .int 1)]) [3, 4, 5, 6, 7, 8, 0, 1] rfl ?_
          exact j106 (k + 1) 1 (by omega) (by omega) ha2 (jf_k g17 hj hs) (by decide)
        · rw [hs]
          show V X (rmD 7 0 0) M 0 0 [(6, .int (nI (k + 1))), (7, .int 104), (0, .ref md), (1, .int (nI u)), (2, .int (nI t)), (3, .int (nI d)), (4, .int ay), (5, .int al)] 37 []
          refine v_iload C dX10_fitOf_37 rfl ?_
          refine v_bipush C dX10_fitOf_39 (v := 115) rfl ?_
          refine v_icmp_ne (tgt := 48) C dX10_fitOf_41 (by decide) (fun h41 => ?_) (fun hbad => absurd hbad (by decide))
          refine v_iload C dX10_fitOf_48 rfl ?_
          refine v_bipush C dX10_fitOf_50 (v := 107) rfl ?_
          refine v_icmp_ne (tgt := 59) C dX10_fitOf_52 (by decide) (fun h52 => ?_) (fun hbad => absurd hbad (by decide))
          refine v_iload C dX10_fitOf_59 rfl ?_
          refine v_bipush C dX10_fitOf_61 (v := 104) rfl ?_
          refine v_icmp_ne (tgt := 70) C dX10_fitOf_63 (by decide) (fun hbad => absurd hbad (not_not_intro rfl)) (fun h63 => ?_)
          refine v_iconst C dX10_fitOf_66 (v := 2) rfl ?_
          refine v_goto (tgt := 87) C dX10_fitOf_67 (by decide) ?_
          refine v_istore (lv' := [(8, .int 2), (6, .int (nI (k + 1))), (7, .int 104), (0, .ref md), (1, .int (nI u)), (2, .int (nI t)), (3, .int (nI d)), (4, .int ay), (5, .int al)]) C dX10_fitOf_87 hN (by decide) rfl ?_
          refine v_iload C dX10_fitOf_89 rfl ?_
          refine v_iload C dX10_fitOf_91 rfl ?_
          refine v_bipush C dX10_fitOf_93 (v := 110) rfl ?_
          refine v_icmp_ne (tgt := 102) C dX10_fitOf_95 (by decide) (fun h95 => ?_) (fun hbad => absurd hbad (by decide))
          refine v_iconst C dX10_fitOf_102 (v := 0) rfl ?_
          refine v_iadd C dX10_fitOf_103 ?_
          rw [show nI (k + 1) + 0 = nI (k + 1) from Int32.add_zero _]
          show V X (rmD 7 0 0) M 0 0 [(8, .int 2), (6, .int (nI (k + 1))), (7, .int 104), (0, .ref md), (1, .int (nI u)), (2, .int (nI t)), (3, .int (nI d)), (4, .int ay), (5, .int al)] 104 [.int (nI (k + 1))]
          refine v_istore (lv' := [(6, .int (nI (k + 1))), (8, .int 2), (7, .int 104), (0, .ref md), (1, .int (nI u)), (2, .int (nI t)), (3, .int (nI d)), (4, .int ay), (5, .int al)]) C dX10_fitOf_104 hN (by decide) rfl ?_
          refine v_sub (lv' := [(0, .ref md), (1, .int (nI u)), (2, .int (nI t)), (3, .int (nI d)), (4, .int ay), (5, .int al), (6, .int (nI (k + 1))), (8, .int 2)]) [3, 4, 5, 6, 7, 8, 0, 1] rfl ?_
          exact j106 (k + 1) 2 (by omega) (by omega) ha2 (jf_h g17 hj hs) (by decide)
  exact lp9 (_ + 1) 0 0 2 (Or.inl ⟨Nat.zero_le _, rfl, 0, rfl⟩) (Nat.lt_succ_self _)


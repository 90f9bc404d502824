/-! The model: what is written; a new model. -/
theorem up_cD {L Q nT i e : Nat} {f : Nat → Int32} {B : Nat → Nat → Bool} {b : Bool} (c : ∀ t, t < L → ∀ d, d < Q → f (Q * t + d) = bI (if t < nT then B t d else false)) (lt : i < nT) (he : e < Q) : ∀ t, t < L → ∀ d, d < Q → upd f (Q * i + e) (bI b) (Q * t + d) = bI (if t < nT then bU B i e b t d else false) := fun t ht d hd => by
  unfold upd bU
  by_cases z : t = i ∧ d = e
  · rw [if_pos (by rw [z.1, z.2]), if_pos (by omega), if_pos z]
  · rw [if_neg, if_neg z]
    · exact c t ht d hd
    · intro q
      refine z ?_
      have h1 : (Q * t + d) / Q = t := by rw [Nat.mul_add_div (by omega), Nat.div_eq_of_lt hd, Nat.add_zero]
      have h2 : (Q * i + e) / Q = i := by rw [Nat.mul_add_div (by omega), Nat.div_eq_of_lt he, Nat.add_zero]
      have h3 : t = i := by rw [← h1, q, h2]
      subst h3
      omega
theorem up_cT {nT i w v : Nat} {f : Nat → Int32} {m : Nat → Nat → Nat} (c : ∀ t, t < nT → ∀ w, w < 11 → f (11 * t + w) = nI (m t w)) (hw : w < 11) : ∀ t, t < nT → ∀ q, q < 11 → upd f (11 * i + w) (nI v) (11 * t + q) = nI (mU m i w v t q) := fun t ht q hq => by
  unfold upd mU
  by_cases z : t = i ∧ q = w
  · rw [if_pos (by rw [z.1, z.2]), if_pos z]
  · rw [if_neg (by omega), if_neg z]
    exact c t ht q hq
theorem up_okT {nT i w v : Nat} {m : Nat → Nat → Nat} (c : ∀ t, t < nT → okM (m t)) (lt : i < nT) (hw : (w = 8 ∧ v ≤ 8) ∨ (w = 9 ∧ v ≤ 1) ∨ (w = 10 ∧ v ≤ 1)) : ∀ t, t < nT → okM (mU m i w v t) := fun t ht => by
  by_cases z : t = i
  · rw [z]; exact okM_mU (c i lt) hw
  · rw [show mU m i w v t = m t from funext (fun q => if_neg (fun y => z y.1))]
    exact c t ht
theorem new_row {n t d : Nat} {B : Nat → Nat → Bool} : bI (if t < n then B t d else false) = bI (if t < n + 1 then (if t = n then fun _ => false else B t) d else false) := by
  by_cases z : t = n
  · rw [if_neg (by omega), if_pos (by omega), if_pos z]
  · by_cases y : t < n
    · rw [if_pos y, if_pos (by omega), if_neg z]
    · rw [if_neg y, if_neg (by omega)]
theorem up_11 {f : Nat → Int32} {n x y a b h k s t : Nat} {m : Nat → Nat → Nat} (c : ∀ t, t < n → ∀ w, w < 11 → f (11 * t + w) = nI (m t w)) : ∀ j, j < n + 1 → ∀ w, w < 11 → upd (upd (upd (upd (upd (upd (upd (upd (upd (upd (upd f (11 * n) (nI x)) (11 * n + 1) (nI y)) (11 * n + 2) (nI a)) (11 * n + 3) (nI b)) (11 * n + 4) (nI h)) (11 * n + 5) (nI k)) (11 * n + 6) (nI s)) (11 * n + 7) (nI t)) (11 * n + 8) 8) (11 * n + 9) 0) (11 * n + 10) 0 (11 * j + w) = nI ((if j = n then nw x y a b h k s t else m j) w) := fun j hj w hw => by
  by_cases z : j = n
  · rw [if_pos z, z]
    rcases (show w = 0 ∨ w = 1 ∨ w = 2 ∨ w = 3 ∨ w = 4 ∨ w = 5 ∨ w = 6 ∨ w = 7 ∨ w = 8 ∨ w = 9 ∨ w = 10 by omega) with rfl | rfl | rfl | rfl | rfl | rfl | rfl | rfl | rfl | rfl | rfl <;> simp [upd, nw] <;> rfl
  · rw [if_neg z]
    unfold upd
    rw [if_neg (by omega), if_neg (by omega), if_neg (by omega), if_neg (by omega), if_neg (by omega), if_neg (by omega), if_neg (by omega), if_neg (by omega), if_neg (by omega), if_neg (by omega), if_neg (by omega)]
    exact c j (by omega) w hw
theorem up_5 {f : Nat → Int32} {n a b d s e : Nat} {m : Nat → Nat → Nat} (c : ∀ t, t < n → ∀ w, w < 5 → f (5 * t + w) = nI (m t w)) : ∀ j, j < n + 1 → ∀ w, w < 5 → upd (upd (upd (upd (upd f (5 * n) (nI a)) (5 * n + 1) (nI b)) (5 * n + 2) (nI d)) (5 * n + 3) (nI s)) (5 * n + 4) (nI e) (5 * j + w) = nI ((if j = n then np a b d s e else m j) w) := fun j hj w hw => by
  by_cases z : j = n
  · rw [if_pos z, z]
    rcases (show w = 0 ∨ w = 1 ∨ w = 2 ∨ w = 3 ∨ w = 4 by omega) with rfl | rfl | rfl | rfl | rfl <;> simp [upd, np]
  · rw [if_neg z]
    unfold upd
    rw [if_neg (by omega), if_neg (by omega), if_neg (by omega), if_neg (by omega), if_neg (by omega)]
    exact c j (by omega) w hw
theorem up_4 {f : Nat → Int32} {i a b w r : Nat} {fl : Nat → Nat → Nat} (c : ∀ j, j < 8 → ∀ q, q < 4 → f (4 * j + q) = nI (fl j q)) : ∀ j, j < 8 → ∀ q, q < 4 → upd (upd (upd (upd f (4 * i) (nI a)) (4 * i + 1) (nI b)) (4 * i + 2) (nI w)) (4 * i + 3) (nI r) (4 * j + q) = nI (flU fl i a b w r j q) := fun j hj q hq => by
  unfold flU
  by_cases z : j = i
  · rw [if_pos z, z]
    rcases (show q = 0 ∨ q = 1 ∨ q = 2 ∨ q = 3 by omega) with rfl | rfl | rfl | rfl <;> simp [upd]
  · rw [if_neg z]
    unfold upd
    rw [if_neg (by omega), if_neg (by omega), if_neg (by omega), if_neg (by omega)]
    exact c j hj q hq
theorem okFl_U {fl : Nat → Nat → Nat} {i a b w r : Nat} (h : okFl fl) (h1 : a ≤ b) (h2 : b ≤ 11) (h3 : w ≤ 10) (h4 : r ≤ 100) : okFl (flU fl i a b w r) := fun j hj => by
  unfold flU
  by_cases z : j = i
  · simp [z]; omega
  · simp only [if_neg z]; exact h j hj
set_option maxHeartbeats 4000000 in
set_option maxRecDepth 100000 in
theorem c_X10_did (l : Launch) (g : Gm) (M : Mem) (md : Nat) (t1 t2 t3 t4 t5 t6 t7 t8 : Nat) (fT fD fP fC fS fU fX fF : Nat → Int32) (mo : Int32) (nT : Nat) (m : Nat → Nat → Nat) (dB : Nat → Nat → Bool) (nP : Nat) (pf : Nat → Nat → Nat) (cB : Nat → Nat → Bool) (nS : Nat) (sg : Nat → Int32) (ln : Nat → Nat) (tx : Nat → Nat → Int32) (fl : Nat → Nat → Nat) (hM : ModA g M md t1 t2 t3 t4 t5 t6 t7 t8 fT fD fP fC fS fU fX fF mo nT m dB nP pf cB nS sg ln tx fl) (t d : Int32) (b : Bool) : Ct l g yX10_did cX10_did 5 (some .int) 9 0 0 [.ref md, .int t, .int d, .int (bI b)] M (fun v N => v = some (.int (aDid nT dB t d)) ∧ ModW g N md nT m (sDid nT dB t d b) nP pf cB nS sg ln tx fl) := by
  refine Ct.of (by decide) (Nat.le_of_ble_eq_true rfl) ?_
  intro X hXl hXg hN C E
  subst hXl; subst hXg
  show V X (rmD 9 0 0) M 0 0 [(0, .ref md), (1, .int t), (2, .int d), (3, .int (bI b))] 0 []
  obtain ⟨hO, h1_, h2_, h3_, h4_, h5_, h6_, h7_, h8_, bT, bP, bS, okT_, cT, cD, okP_, cP, cC, cS, cU, bU_, cX, okX, okF_, cF⟩ := id hM
  have n_md_t2 := cell_ne hO h2_ (by simp)
  have n_t1_t2 := cell_ne h1_ h2_ (by simp)
  have n_t3_t2 := cell_ne h3_ h2_ (by simp)
  have n_t4_t2 := cell_ne h4_ h2_ (by simp)
  have n_t5_t2 := cell_ne h5_ h2_ (by simp)
  have n_t6_t2 := cell_ne h6_ h2_ (by simp)
  have n_t7_t2 := cell_ne h7_ h2_ (by simp)
  have n_t8_t2 := cell_ne h8_ h2_ (by simp)
  rcases idx_cases nT (by omega) t with ⟨i, lt, rfl, hx⟩ | ⟨hn, hx⟩
  · have hzi := trivial
    show V X (rmD 9 0 0) M 0 0 [(0, .ref md), (1, .int (nI i)), (2, .int d), (3, .int (bI b))] 0 []
    refine v_aload_n C dX10_did_0 rfl ?_
    refine v_iload_n C dX10_did_1 rfl ?_
    refine v_callV (As := [.int (nI i)]) (rest := []) (b := md) C (c_X10_isThing (xl X) (xg X) M md t1 t2 t3 t4 t5 t6 t7 t8 fT fD fP fC fS fU fX fF mo nT m dB nP pf cB nS sg ln tx fl hM (nI i)) pm_X10_isThing wI_X10_isThing wS_X10_isThing wM_X10_50 kX10 hO ⟨by decide, by decide⟩ ⟨by decide, by decide⟩ (nle rfl) dX10_did_2 rfl (dt1 ?_)
    show V X (rmD 9 0 0) M 0 0 [(0, .ref md), (1, .int (nI i)), (2, .int d), (3, .int (bI b))] 5 [.int (bI ((idx nT (nI i)).isSome))]
    refine v_ifb_ne (tgt := 10) C dX10_did_5 (by decide) (fun h5 => ?_) (fun hbad => absurd hbad (by rw [hx]; simp))
    refine v_iload_n C dX10_did_10 rfl ?_
    refine v_callS (As := [.int d]) (rest := []) C (c_X10_isDay (xl X) (xg X) d M) pm_X10_isDay wT_X10_isDay wM_X10_46 ⟨by decide, by decide⟩ ⟨by decide, by decide⟩ (nle rfl) dX10_did_11 rfl (dt1 ?_)
    show V X (rmD 9 0 0) M 0 0 [(0, .ref md), (1, .int (nI i)), (2, .int d), (3, .int (bI b))] 14 [.int (bI (qin d 0 99))]
    refine v_ifb_ne (tgt := 20) C dX10_did_14 (by decide) (fun h14 => ?_) (fun h14 => ?_)
    · obtain ⟨e, hLe, hje, rfl⟩ := qin_nJ (x := d) (L := 0) (N := 99) (by decide) (by decide) h14
      show V X (rmD 9 0 0) M 0 0 [(0, .ref md), (1, .int (nI i)), (2, .int (nI e)), (3, .int (bI b))] 20 []
      refine v_aload_n C dX10_did_20 rfl ?_
      refine v_get C kX10 hO 2 (by decide) wF_X10_13 rfl dX10_did_21 ?_
      refine v_bipush C dX10_did_24 (v := 100) rfl ?_
      refine v_iload_n C dX10_did_26 rfl ?_
      refine v_imul C dX10_did_27 ?_
      refine v_iload_n C dX10_did_28 rfl ?_
      refine v_iadd C dX10_did_29 ?_
      rw [show ((100 * (nI i)) + (nI e) : Int32) = nI (100 * i + e) from ix_ad (ix_mu rfl rfl) rfl]
      refine v_zald C h2_ (vp_in_nI (by omega) (by decide)) dX10_did_30 ?_
      rw [show fD (nI (100 * i + e) : Int32).toNatClampNeg = bI (dB i e) from by rw [nI_clamp (by omega)]; exact (cD i (by omega) e (by omega)).trans (by rw [if_pos lt])]
      refine v_ifb_eq (tgt := 38) C dX10_did_31 (by decide) (fun h31 => ?_) (fun h31 => ?_)
      · refine v_iconst C dX10_did_38 (v := 0) rfl ?_
        refine v_istore (lv' := [(4, .int 0), (0, .ref md), (1, .int (nI i)), (2, .int (nI e)), (3, .int (bI b))]) C dX10_did_39 hN (by decide) rfl ?_
        refine v_aload_n C dX10_did_41 rfl ?_
        refine v_get C kX10 hO 2 (by decide) wF_X10_13 rfl dX10_did_42 ?_
        refine v_bipush C dX10_did_45 (v := 100) rfl ?_
        refine v_iload_n C dX10_did_47 rfl ?_
        refine v_imul C dX10_did_48 ?_
        refine v_iload_n C dX10_did_49 rfl ?_
        refine v_iadd C dX10_did_50 ?_
        rw [show ((100 * (nI i)) + (nI e) : Int32) = nI (100 * i + e) from ix_ad (ix_mu rfl rfl) rfl]
        show V X (rmD 9 0 0) M 0 0 [(4, .int 0), (0, .ref md), (1, .int (nI i)), (2, .int (nI e)), (3, .int (bI b))] 51 [.int (nI (100 * i + e)), .ref t2]
        refine v_iload_n C dX10_did_51 rfl ?_
        refine v_zast C h2_ (vp_in_nI (by omega) (by decide)) (bI_01 _) dX10_did_52 ?_
        show V X (rmD 9 0 0) (mset M t2 (aZ (xg X) 1200 (upd fD (nI (100 * i + e) : Int32).toNatClampNeg (bI (b))))) 0 0 [(4, .int 0), (0, .ref md), (1, .int (nI i)), (2, .int (nI e)), (3, .int (bI b))] 53 []
        rw [nI_clamp (n := (100 * i + e)) (by omega)]
        show V X (rmD 9 0 0) (mset M t2 (aZ (xg X) 1200 (upd fD (100 * i + e) (bI (b))))) 0 0 [(4, .int 0), (0, .ref md), (1, .int (nI i)), (2, .int (nI e)), (3, .int (bI b))] 53 []
        refine v_iload C dX10_did_53 rfl ?_
        exact v_iret C E dX10_did_55 (nle rfl) (nle rfl) ⟨by simp only [aDid, hx, h14, if_true, nI_clamp (n := e) (show e < 2 ^ 31 by omega), h31]; rfl, by simp only [sDid, hx, h14, if_true, nI_clamp (n := e) (show e < 2 ^ 31 by omega)]; exact ⟨t1, t2, t3, t4, t5, t6, t7, t8, fT, upd fD (100 * i + e) (bI (b)), fP, fC, fS, fU, fX, fF, mo, (mset_ne n_md_t2).trans hO, (mset_ne n_t1_t2).trans h1_, mset_same _ _ _, (mset_ne n_t3_t2).trans h3_, (mset_ne n_t4_t2).trans h4_, (mset_ne n_t5_t2).trans h5_, (mset_ne n_t6_t2).trans h6_, (mset_ne n_t7_t2).trans h7_, (mset_ne n_t8_t2).trans h8_, bT, bP, bS, okT_, cT, up_cD cD lt (by omega), okP_, cP, cC, cS, cU, bU_, cX, okX, okF_, cF⟩⟩
      · refine v_iconst C dX10_did_34 (v := 1) rfl ?_
        refine v_goto (tgt := 39) C dX10_did_35 (by decide) ?_
        refine v_istore (lv' := [(4, .int 1), (0, .ref md), (1, .int (nI i)), (2, .int (nI e)), (3, .int (bI b))]) C dX10_did_39 hN (by decide) rfl ?_
        refine v_aload_n C dX10_did_41 rfl ?_
        refine v_get C kX10 hO 2 (by decide) wF_X10_13 rfl dX10_did_42 ?_
        refine v_bipush C dX10_did_45 (v := 100) rfl ?_
        refine v_iload_n C dX10_did_47 rfl ?_
        refine v_imul C dX10_did_48 ?_
        refine v_iload_n C dX10_did_49 rfl ?_
        refine v_iadd C dX10_did_50 ?_
        rw [show ((100 * (nI i)) + (nI e) : Int32) = nI (100 * i + e) from ix_ad (ix_mu rfl rfl) rfl]
        show V X (rmD 9 0 0) M 0 0 [(4, .int 1), (0, .ref md), (1, .int (nI i)), (2, .int (nI e)), (3, .int (bI b))] 51 [.int (nI (100 * i + e)), .ref t2]
        refine v_iload_n C dX10_did_51 rfl ?_
        refine v_zast C h2_ (vp_in_nI (by omega) (by decide)) (bI_01 _) dX10_did_52 ?_
        show V X (rmD 9 0 0) (mset M t2 (aZ (xg X) 1200 (upd fD (nI (100 * i + e) : Int32).toNatClampNeg (bI (b))))) 0 0 [(4, .int 1), (0, .ref md), (1, .int (nI i)), (2, .int (nI e)), (3, .int (bI b))] 53 []
        rw [nI_clamp (n := (100 * i + e)) (by omega)]
        show V X (rmD 9 0 0) (mset M t2 (aZ (xg X) 1200 (upd fD (100 * i + e) (bI (b))))) 0 0 [(4, .int 1), (0, .ref md), (1, .int (nI i)), (2, .int (nI e)), (3, .int (bI b))] 53 []
        refine v_iload C dX10_did_53 rfl ?_
        exact v_iret C E dX10_did_55 (nle rfl) (nle rfl) ⟨by simp only [aDid, hx, h14, if_true, nI_clamp (n := e) (show e < 2 ^ 31 by omega), h31]; rfl, by simp only [sDid, hx, h14, if_true, nI_clamp (n := e) (show e < 2 ^ 31 by omega)]; exact ⟨t1, t2, t3, t4, t5, t6, t7, t8, fT, upd fD (100 * i + e) (bI (b)), fP, fC, fS, fU, fX, fF, mo, (mset_ne n_md_t2).trans hO, (mset_ne n_t1_t2).trans h1_, mset_same _ _ _, (mset_ne n_t3_t2).trans h3_, (mset_ne n_t4_t2).trans h4_, (mset_ne n_t5_t2).trans h5_, (mset_ne n_t6_t2).trans h6_, (mset_ne n_t7_t2).trans h7_, (mset_ne n_t8_t2).trans h8_, bT, bP, bS, okT_, cT, up_cD cD lt (by omega), okP_, cP, cC, cS, cU, bU_, cX, okX, okF_, cF⟩⟩
    · refine v_bipush C dX10_did_17 (v := (-2)) rfl ?_
      exact v_iret C E dX10_did_19 (nle rfl) (nle rfl) ⟨by simp [aDid, hx, h14], by simp only [sDid, hx, h14]; exact hM.W⟩
  · have hzi := trivial
    show V X (rmD 9 0 0) M 0 0 [(0, .ref md), (1, .int t), (2, .int d), (3, .int (bI b))] 0 []
    refine v_aload_n C dX10_did_0 rfl ?_
    refine v_iload_n C dX10_did_1 rfl ?_
    refine v_callV (As := [.int t]) (rest := []) (b := md) C (c_X10_isThing (xl X) (xg X) M md t1 t2 t3 t4 t5 t6 t7 t8 fT fD fP fC fS fU fX fF mo nT m dB nP pf cB nS sg ln tx fl hM t) pm_X10_isThing wI_X10_isThing wS_X10_isThing wM_X10_50 kX10 hO ⟨by decide, by decide⟩ ⟨by decide, by decide⟩ (nle rfl) dX10_did_2 rfl (dt1 ?_)
    show V X (rmD 9 0 0) M 0 0 [(0, .ref md), (1, .int t), (2, .int d), (3, .int (bI b))] 5 [.int (bI ((idx nT t).isSome))]
    refine v_ifb_ne (tgt := 10) C dX10_did_5 (by decide) (fun hbad => absurd hbad (by rw [hx]; simp)) (fun h5 => ?_)
    refine v_iconst C dX10_did_8 (v := (-1)) rfl ?_
    exact v_iret C E dX10_did_9 (nle rfl) (nle rfl) ⟨by simp [aDid, hx], by simp only [sDid, hx]; exact hM.W⟩

set_option maxHeartbeats 4000000 in
set_option maxRecDepth 100000 in
theorem c_X10_cloud (l : Launch) (g : Gm) (M : Mem) (md : Nat) (t1 t2 t3 t4 t5 t6 t7 t8 : Nat) (fT fD fP fC fS fU fX fF : Nat → Int32) (mo : Int32) (nT : Nat) (m : Nat → Nat → Nat) (dB : Nat → Nat → Bool) (nP : Nat) (pf : Nat → Nat → Nat) (cB : Nat → Nat → Bool) (nS : Nat) (sg : Nat → Int32) (ln : Nat → Nat) (tx : Nat → Nat → Int32) (fl : Nat → Nat → Nat) (hM : ModA g M md t1 t2 t3 t4 t5 t6 t7 t8 fT fD fP fC fS fU fX fF mo nT m dB nP pf cB nS sg ln tx fl) (p c : Int32) (b : Bool) : Ct l g yX10_cloud cX10_cloud 5 (some .int) 9 0 0 [.ref md, .int p, .int c, .int (bI b)] M (fun v N => v = some (.int (aCloud nP cB p c)) ∧ ModW g N md nT m dB nP pf (sCloud nP cB p c b) nS sg ln tx fl) := by
  refine Ct.of (by decide) (Nat.le_of_ble_eq_true rfl) ?_
  intro X hXl hXg hN C E
  subst hXl; subst hXg
  show V X (rmD 9 0 0) M 0 0 [(0, .ref md), (1, .int p), (2, .int c), (3, .int (bI b))] 0 []
  obtain ⟨hO, h1_, h2_, h3_, h4_, h5_, h6_, h7_, h8_, bT, bP, bS, okT_, cT, cD, okP_, cP, cC, cS, cU, bU_, cX, okX, okF_, cF⟩ := id hM
  have n_md_t4 := cell_ne hO h4_ (by simp)
  have n_t1_t4 := cell_ne h1_ h4_ (by simp)
  have n_t2_t4 := cell_ne h2_ h4_ (by simp)
  have n_t3_t4 := cell_ne h3_ h4_ (by simp)
  have n_t5_t4 := cell_ne h5_ h4_ (by simp)
  have n_t6_t4 := cell_ne h6_ h4_ (by simp)
  have n_t7_t4 := cell_ne h7_ h4_ (by simp)
  have n_t8_t4 := cell_ne h8_ h4_ (by simp)
  rcases idx_cases nP (by omega) p with ⟨i, lt, rfl, hx⟩ | ⟨hn, hx⟩
  · have hzi := trivial
    show V X (rmD 9 0 0) M 0 0 [(0, .ref md), (1, .int (nI i)), (2, .int c), (3, .int (bI b))] 0 []
    refine v_aload_n C dX10_cloud_0 rfl ?_
    refine v_iload_n C dX10_cloud_1 rfl ?_
    refine v_callV (As := [.int (nI i)]) (rest := []) (b := md) C (c_X10_isPicture (xl X) (xg X) M md t1 t2 t3 t4 t5 t6 t7 t8 fT fD fP fC fS fU fX fF mo nT m dB nP pf cB nS sg ln tx fl hM (nI i)) pm_X10_isPicture wI_X10_isPicture wS_X10_isPicture wM_X10_67 kX10 hO ⟨by decide, by decide⟩ ⟨by decide, by decide⟩ (nle rfl) dX10_cloud_2 rfl (dt1 ?_)
    show V X (rmD 9 0 0) M 0 0 [(0, .ref md), (1, .int (nI i)), (2, .int c), (3, .int (bI b))] 5 [.int (bI ((idx nP (nI i)).isSome))]
    refine v_ifb_ne (tgt := 10) C dX10_cloud_5 (by decide) (fun h5 => ?_) (fun hbad => absurd hbad (by rw [hx]; simp))
    refine v_iload_n C dX10_cloud_10 rfl ?_
    refine v_callS (As := [.int c]) (rest := []) C (c_X10_isCell (xl X) (xg X) c M) pm_X10_isCell wT_X10_isCell wM_X10_60 ⟨by decide, by decide⟩ ⟨by decide, by decide⟩ (nle rfl) dX10_cloud_11 rfl (dt1 ?_)
    show V X (rmD 9 0 0) M 0 0 [(0, .ref md), (1, .int (nI i)), (2, .int c), (3, .int (bI b))] 14 [.int (bI (qin c 0 95))]
    refine v_ifb_ne (tgt := 20) C dX10_cloud_14 (by decide) (fun h14 => ?_) (fun h14 => ?_)
    · obtain ⟨e, hLe, hje, rfl⟩ := qin_nJ (x := c) (L := 0) (N := 95) (by decide) (by decide) h14
      show V X (rmD 9 0 0) M 0 0 [(0, .ref md), (1, .int (nI i)), (2, .int (nI e)), (3, .int (bI b))] 20 []
      refine v_aload_n C dX10_cloud_20 rfl ?_
      refine v_get C kX10 hO 5 (by decide) wF_X10_20 rfl dX10_cloud_21 ?_
      refine v_bipush C dX10_cloud_24 (v := 96) rfl ?_
      refine v_iload_n C dX10_cloud_26 rfl ?_
      refine v_imul C dX10_cloud_27 ?_
      refine v_iload_n C dX10_cloud_28 rfl ?_
      refine v_iadd C dX10_cloud_29 ?_
      rw [show ((96 * (nI i)) + (nI e) : Int32) = nI (96 * i + e) from ix_ad (ix_mu rfl rfl) rfl]
      refine v_zald C h4_ (vp_in_nI (by omega) (by decide)) dX10_cloud_30 ?_
      rw [show fC (nI (96 * i + e) : Int32).toNatClampNeg = bI (cB i e) from by rw [nI_clamp (by omega)]; exact (cC i (by omega) e (by omega)).trans (by rw [if_pos lt])]
      refine v_ifb_eq (tgt := 38) C dX10_cloud_31 (by decide) (fun h31 => ?_) (fun h31 => ?_)
      · refine v_iconst C dX10_cloud_38 (v := 0) rfl ?_
        refine v_istore (lv' := [(4, .int 0), (0, .ref md), (1, .int (nI i)), (2, .int (nI e)), (3, .int (bI b))]) C dX10_cloud_39 hN (by decide) rfl ?_
        refine v_aload_n C dX10_cloud_41 rfl ?_
        refine v_get C kX10 hO 5 (by decide) wF_X10_20 rfl dX10_cloud_42 ?_
        refine v_bipush C dX10_cloud_45 (v := 96) rfl ?_
        refine v_iload_n C dX10_cloud_47 rfl ?_
        refine v_imul C dX10_cloud_48 ?_
        refine v_iload_n C dX10_cloud_49 rfl ?_
        refine v_iadd C dX10_cloud_50 ?_
        rw [show ((96 * (nI i)) + (nI e) : Int32) = nI (96 * i + e) from ix_ad (ix_mu rfl rfl) rfl]
        show V X (rmD 9 0 0) M 0 0 [(4, .int 0), (0, .ref md), (1, .int (nI i)), (2, .int (nI e)), (3, .int (bI b))] 51 [.int (nI (96 * i + e)), .ref t4]
        refine v_iload_n C dX10_cloud_51 rfl ?_
        refine v_zast C h4_ (vp_in_nI (by omega) (by decide)) (bI_01 _) dX10_cloud_52 ?_
        show V X (rmD 9 0 0) (mset M t4 (aZ (xg X) 960 (upd fC (nI (96 * i + e) : Int32).toNatClampNeg (bI (b))))) 0 0 [(4, .int 0), (0, .ref md), (1, .int (nI i)), (2, .int (nI e)), (3, .int (bI b))] 53 []
        rw [nI_clamp (n := (96 * i + e)) (by omega)]
        show V X (rmD 9 0 0) (mset M t4 (aZ (xg X) 960 (upd fC (96 * i + e) (bI (b))))) 0 0 [(4, .int 0), (0, .ref md), (1, .int (nI i)), (2, .int (nI e)), (3, .int (bI b))] 53 []
        refine v_iload C dX10_cloud_53 rfl ?_
        exact v_iret C E dX10_cloud_55 (nle rfl) (nle rfl) ⟨by simp only [aCloud, hx, h14, if_true, nI_clamp (n := e) (show e < 2 ^ 31 by omega), h31]; rfl, by simp only [sCloud, hx, h14, if_true, nI_clamp (n := e) (show e < 2 ^ 31 by omega)]; exact ⟨t1, t2, t3, t4, t5, t6, t7, t8, fT, fD, fP, upd fC (96 * i + e) (bI (b)), fS, fU, fX, fF, mo, (mset_ne n_md_t4).trans hO, (mset_ne n_t1_t4).trans h1_, (mset_ne n_t2_t4).trans h2_, (mset_ne n_t3_t4).trans h3_, mset_same _ _ _, (mset_ne n_t5_t4).trans h5_, (mset_ne n_t6_t4).trans h6_, (mset_ne n_t7_t4).trans h7_, (mset_ne n_t8_t4).trans h8_, bT, bP, bS, okT_, cT, cD, okP_, cP, up_cD cC lt (by omega), cS, cU, bU_, cX, okX, okF_, cF⟩⟩
      · refine v_iconst C dX10_cloud_34 (v := 1) rfl ?_
        refine v_goto (tgt := 39) C dX10_cloud_35 (by decide) ?_
        refine v_istore (lv' := [(4, .int 1), (0, .ref md), (1, .int (nI i)), (2, .int (nI e)), (3, .int (bI b))]) C dX10_cloud_39 hN (by decide) rfl ?_
        refine v_aload_n C dX10_cloud_41 rfl ?_
        refine v_get C kX10 hO 5 (by decide) wF_X10_20 rfl dX10_cloud_42 ?_
        refine v_bipush C dX10_cloud_45 (v := 96) rfl ?_
        refine v_iload_n C dX10_cloud_47 rfl ?_
        refine v_imul C dX10_cloud_48 ?_
        refine v_iload_n C dX10_cloud_49 rfl ?_
        refine v_iadd C dX10_cloud_50 ?_
        rw [show ((96 * (nI i)) + (nI e) : Int32) = nI (96 * i + e) from ix_ad (ix_mu rfl rfl) rfl]
        show V X (rmD 9 0 0) M 0 0 [(4, .int 1), (0, .ref md), (1, .int (nI i)), (2, .int (nI e)), (3, .int (bI b))] 51 [.int (nI (96 * i + e)), .ref t4]
        refine v_iload_n C dX10_cloud_51 rfl ?_
        refine v_zast C h4_ (vp_in_nI (by omega) (by decide)) (bI_01 _) dX10_cloud_52 ?_
        show V X (rmD 9 0 0) (mset M t4 (aZ (xg X) 960 (upd fC (nI (96 * i + e) : Int32).toNatClampNeg (bI (b))))) 0 0 [(4, .int 1), (0, .ref md), (1, .int (nI i)), (2, .int (nI e)), (3, .int (bI b))] 53 []
        rw [nI_clamp (n := (96 * i + e)) (by omega)]
        show V X (rmD 9 0 0) (mset M t4 (aZ (xg X) 960 (upd fC (96 * i + e) (bI (b))))) 0 0 [(4, .int 1), (0, .ref md), (1, .int (nI i)), (2, .int (nI e)), (3, .int (bI b))] 53 []
        refine v_iload C dX10_cloud_53 rfl ?_
        exact v_iret C E dX10_cloud_55 (nle rfl) (nle rfl) ⟨by simp only [aCloud, hx, h14, if_true, nI_clamp (n := e) (show e < 2 ^ 31 by omega), h31]; rfl, by simp only [sCloud, hx, h14, if_true, nI_clamp (n := e) (show e < 2 ^ 31 by omega)]; exact ⟨t1, t2, t3, t4, t5, t6, t7, t8, fT, fD, fP, upd fC (96 * i + e) (bI (b)), fS, fU, fX, fF, mo, (mset_ne n_md_t4).trans hO, (mset_ne n_t1_t4).trans h1_, (mset_ne n_t2_t4).trans h2_, (mset_ne n_t3_t4).trans h3_, mset_same _ _ _, (mset_ne n_t5_t4).trans h5_, (mset_ne n_t6_t4).trans h6_, (mset_ne n_t7_t4).trans h7_, (mset_ne n_t8_t4).trans h8_, bT, bP, bS, okT_, cT, cD, okP_, cP, up_cD cC lt (by omega), cS, cU, bU_, cX, okX, okF_, cF⟩⟩
    · refine v_bipush C dX10_cloud_17 (v := (-2)) rfl ?_
      exact v_iret C E dX10_cloud_19 (nle rfl) (nle rfl) ⟨by simp [aCloud, hx, h14], by simp only [sCloud, hx, h14]; exact hM.W⟩
  · have hzi := trivial
    show V X (rmD 9 0 0) M 0 0 [(0, .ref md), (1, .int p), (2, .int c), (3, .int (bI b))] 0 []
    refine v_aload_n C dX10_cloud_0 rfl ?_
    refine v_iload_n C dX10_cloud_1 rfl ?_
    refine v_callV (As := [.int p]) (rest := []) (b := md) C (c_X10_isPicture (xl X) (xg X) M md t1 t2 t3 t4 t5 t6 t7 t8 fT fD fP fC fS fU fX fF mo nT m dB nP pf cB nS sg ln tx fl hM p) pm_X10_isPicture wI_X10_isPicture wS_X10_isPicture wM_X10_67 kX10 hO ⟨by decide, by decide⟩ ⟨by decide, by decide⟩ (nle rfl) dX10_cloud_2 rfl (dt1 ?_)
    show V X (rmD 9 0 0) M 0 0 [(0, .ref md), (1, .int p), (2, .int c), (3, .int (bI b))] 5 [.int (bI ((idx nP p).isSome))]
    refine v_ifb_ne (tgt := 10) C dX10_cloud_5 (by decide) (fun hbad => absurd hbad (by rw [hx]; simp)) (fun h5 => ?_)
    refine v_iconst C dX10_cloud_8 (v := (-1)) rfl ?_
    exact v_iret C E dX10_cloud_9 (nle rfl) (nle rfl) ⟨by simp [aCloud, hx], by simp only [sCloud, hx]; exact hM.W⟩

set_option maxHeartbeats 4000000 in
set_option maxRecDepth 100000 in
theorem c_X10_set (l : Launch) (g : Gm) (M : Mem) (md : Nat) (t1 t2 t3 t4 t5 t6 t7 t8 : Nat) (fT fD fP fC fS fU fX fF : Nat → Int32) (mo : Int32) (nT : Nat) (m : Nat → Nat → Nat) (dB : Nat → Nat → Bool) (nP : Nat) (pf : Nat → Nat → Nat) (cB : Nat → Nat → Bool) (nS : Nat) (sg : Nat → Int32) (ln : Nat → Nat) (tx : Nat → Nat → Int32) (fl : Nat → Nat → Nat) (hM : ModA g M md t1 t2 t3 t4 t5 t6 t7 t8 fT fD fP fC fS fU fX fF mo nT m dB nP pf cB nS sg ln tx fl) (t ww vv : Int32) : Ct l g yX10_set cX10_set 5 (some .int) 9 0 0 [.ref md, .int t, .int ww, .int vv] M (fun v N => v = some (.int (aSet nT m t ww vv)) ∧ ModW g N md nT (sSet nT m t ww vv) dB nP pf cB nS sg ln tx fl) := by
  refine Ct.of (by decide) (Nat.le_of_ble_eq_true rfl) ?_
  intro X hXl hXg hN C E
  subst hXl; subst hXg
  show V X (rmD 9 0 0) M 0 0 [(0, .ref md), (1, .int t), (2, .int ww), (3, .int vv)] 0 []
  obtain ⟨hO, h1_, h2_, h3_, h4_, h5_, h6_, h7_, h8_, bT, bP, bS, okT_, cT, cD, okP_, cP, cC, cS, cU, bU_, cX, okX, okF_, cF⟩ := id hM
  have n_md_t1 := cell_ne hO h1_ (by simp)
  have n_t2_t1 := cell_ne h2_ h1_ (by simp)
  have n_t3_t1 := cell_ne h3_ h1_ (by simp)
  have n_t4_t1 := cell_ne h4_ h1_ (by simp)
  have n_t5_t1 := cell_ne h5_ h1_ (by simp)
  have n_t6_t1 := cell_ne h6_ h1_ (by simp)
  have n_t7_t1 := cell_ne h7_ h1_ (by simp)
  have n_t8_t1 := cell_ne h8_ h1_ (by simp)
  rcases idx_cases nT (by omega) t with ⟨i, lt, rfl, hx⟩ | ⟨hn, hx⟩
  · have hzi := trivial
    show V X (rmD 9 0 0) M 0 0 [(0, .ref md), (1, .int (nI i)), (2, .int ww), (3, .int vv)] 0 []
    refine v_aload_n C dX10_set_0 rfl ?_
    refine v_iload_n C dX10_set_1 rfl ?_
    refine v_callV (As := [.int (nI i)]) (rest := []) (b := md) C (c_X10_isThing (xl X) (xg X) M md t1 t2 t3 t4 t5 t6 t7 t8 fT fD fP fC fS fU fX fF mo nT m dB nP pf cB nS sg ln tx fl hM (nI i)) pm_X10_isThing wI_X10_isThing wS_X10_isThing wM_X10_50 kX10 hO ⟨by decide, by decide⟩ ⟨by decide, by decide⟩ (nle rfl) dX10_set_2 rfl (dt1 ?_)
    show V X (rmD 9 0 0) M 0 0 [(0, .ref md), (1, .int (nI i)), (2, .int ww), (3, .int vv)] 5 [.int (bI ((idx nT (nI i)).isSome))]
    refine v_ifb_ne (tgt := 10) C dX10_set_5 (by decide) (fun h5 => ?_) (fun hbad => absurd hbad (by rw [hx]; simp))
    refine v_iload_n C dX10_set_10 rfl ?_
    refine v_bipush C dX10_set_11 (v := 8) rfl ?_
    refine v_bipush C dX10_set_13 (v := 10) rfl ?_
    refine v_callS (As := [.int ww, .int 8, .int 10]) (rest := []) C (c_X10_in (xl X) (xg X) ww 8 10 M) pm_X10_in wT_X10_in wM_X10_35 ⟨by decide, by decide⟩ ⟨by decide, by decide⟩ (nle rfl) dX10_set_15 rfl (dt1 ?_)
    show V X (rmD 9 0 0) M 0 0 [(0, .ref md), (1, .int (nI i)), (2, .int ww), (3, .int vv)] 18 [.int (bI (qin ww 8 10))]
    refine v_ifb_eq (tgt := 41) C dX10_set_18 (by decide) (fun h18 => ?_) (fun h18 => ?_)
    · have hok : okSet ww vv = false := by unfold okSet; rw [h18]; rfl
      refine v_bipush C dX10_set_41 (v := (-2)) rfl ?_
      exact v_iret C E dX10_set_43 (nle rfl) (nle rfl) ⟨by simp [aSet, hx, hok], by simp only [sSet, hx, hok]; exact hM.W⟩
    · refine v_iload_n C dX10_set_21 rfl ?_
      refine v_iconst C dX10_set_22 (v := 0) rfl ?_
      refine v_iload_n C dX10_set_23 rfl ?_
      refine v_bipush C dX10_set_24 (v := 8) rfl ?_
      refine v_icmp_ne (tgt := 34) C dX10_set_26 (by decide) (fun h26 => ?_) (fun h26 => ?_)
      · refine v_iconst C dX10_set_34 (v := 1) rfl ?_
        refine v_callS (As := [.int vv, .int 0, .int 1]) (rest := []) C (c_X10_in (xl X) (xg X) vv 0 1 M) pm_X10_in wT_X10_in wM_X10_35 ⟨by decide, by decide⟩ ⟨by decide, by decide⟩ (nle rfl) dX10_set_35 rfl (dt1 ?_)
        show V X (rmD 9 0 0) M 0 0 [(0, .ref md), (1, .int (nI i)), (2, .int ww), (3, .int vv)] 38 [.int (bI (qin vv 0 1))]
        refine v_ifb_ne (tgt := 44) C dX10_set_38 (by decide) (fun h38 => ?_) (fun h38 => ?_)
        · have hok : okSet ww vv = true := by unfold okSet; rw [h18, if_neg h26, h38]; rfl
          obtain ⟨w, hLw, hjw, rfl⟩ := qin_nJ (x := ww) (L := 8) (N := 10) (by decide) (by decide) h18
          obtain ⟨v, hLv, hjv, rfl⟩ := qin_nJ (x := vv) (L := 0) (N := 1) (by decide) (by decide) h38
          have hw : (w = 8 ∧ v ≤ 8) ∨ (w = 9 ∧ v ≤ 1) ∨ (w = 10 ∧ v ≤ 1) := by have : w ≠ 8 := nI_neN (b := 8) (by omega) (by decide) h26; omega
          show V X (rmD 9 0 0) M 0 0 [(0, .ref md), (1, .int (nI i)), (2, .int (nI w)), (3, .int (nI v))] 44 []
          refine v_aload_n C dX10_set_44 rfl ?_
          refine v_get C kX10 hO 1 (by decide) wF_X10_7 rfl dX10_set_45 ?_
          refine v_bipush C dX10_set_48 (v := 11) rfl ?_
          refine v_iload_n C dX10_set_50 rfl ?_
          refine v_imul C dX10_set_51 ?_
          refine v_iload_n C dX10_set_52 rfl ?_
          refine v_iadd C dX10_set_53 ?_
          rw [show ((11 * (nI i)) + (nI w) : Int32) = nI (11 * i + w) from ix_ad (ix_mu rfl rfl) rfl]
          refine v_iald C h1_ (vp_in_nI (by omega) (by decide)) dX10_set_54 ?_
          rw [show fT (nI (11 * i + w) : Int32).toNatClampNeg = nI (m i w) from by rw [nI_clamp (by omega)]; exact cT i lt w (by omega)]
          refine v_istore (lv' := [(4, .int (nI (m i w))), (0, .ref md), (1, .int (nI i)), (2, .int (nI w)), (3, .int (nI v))]) C dX10_set_55 hN (by decide) rfl ?_
          refine v_aload_n C dX10_set_57 rfl ?_
          refine v_get C kX10 hO 1 (by decide) wF_X10_7 rfl dX10_set_58 ?_
          refine v_bipush C dX10_set_61 (v := 11) rfl ?_
          refine v_iload_n C dX10_set_63 rfl ?_
          refine v_imul C dX10_set_64 ?_
          refine v_iload_n C dX10_set_65 rfl ?_
          refine v_iadd C dX10_set_66 ?_
          rw [show ((11 * (nI i)) + (nI w) : Int32) = nI (11 * i + w) from ix_ad (ix_mu rfl rfl) rfl]
          show V X (rmD 9 0 0) M 0 0 [(4, .int (nI (m i w))), (0, .ref md), (1, .int (nI i)), (2, .int (nI w)), (3, .int (nI v))] 67 [.int (nI (11 * i + w)), .ref t1]
          refine v_iload_n C dX10_set_67 rfl ?_
          refine v_iast C h1_ (vp_in_nI (by omega) (by decide)) dX10_set_68 ?_
          show V X (rmD 9 0 0) (mset M t1 (aI (xg X) 132 (upd fT (nI (11 * i + w) : Int32).toNatClampNeg (nI v)))) 0 0 [(4, .int (nI (m i w))), (0, .ref md), (1, .int (nI i)), (2, .int (nI w)), (3, .int (nI v))] 69 []
          rw [nI_clamp (n := (11 * i + w)) (by omega)]
          show V X (rmD 9 0 0) (mset M t1 (aI (xg X) 132 (upd fT (11 * i + w) (nI v)))) 0 0 [(4, .int (nI (m i w))), (0, .ref md), (1, .int (nI i)), (2, .int (nI w)), (3, .int (nI v))] 69 []
          refine v_iload C dX10_set_69 rfl ?_
          exact v_iret C E dX10_set_71 (nle rfl) (nle rfl) ⟨by simp only [aSet, hx, hok, if_true, nI_clamp (n := w) (show w < 2 ^ 31 by omega)], by simp only [sSet, hx, hok, if_true, nI_clamp (n := w) (show w < 2 ^ 31 by omega), nI_clamp (n := v) (show v < 2 ^ 31 by omega)]; exact ⟨t1, t2, t3, t4, t5, t6, t7, t8, upd fT (11 * i + w) (nI v), fD, fP, fC, fS, fU, fX, fF, mo, (mset_ne n_md_t1).trans hO, mset_same _ _ _, (mset_ne n_t2_t1).trans h2_, (mset_ne n_t3_t1).trans h3_, (mset_ne n_t4_t1).trans h4_, (mset_ne n_t5_t1).trans h5_, (mset_ne n_t6_t1).trans h6_, (mset_ne n_t7_t1).trans h7_, (mset_ne n_t8_t1).trans h8_, bT, bP, bS, up_okT okT_ lt hw, up_cT cT (by omega), cD, okP_, cP, cC, cS, cU, bU_, cX, okX, okF_, cF⟩⟩
        · have hok : okSet ww vv = false := by unfold okSet; rw [if_neg h26, h38, Bool.and_false]
          refine v_bipush C dX10_set_41 (v := (-2)) rfl ?_
          exact v_iret C E dX10_set_43 (nle rfl) (nle rfl) ⟨by simp [aSet, hx, hok], by simp only [sSet, hx, hok]; exact hM.W⟩
      · refine v_bipush C dX10_set_29 (v := 8) rfl ?_
        refine v_goto (tgt := 35) C dX10_set_31 (by decide) ?_
        refine v_callS (As := [.int vv, .int 0, .int 8]) (rest := []) C (c_X10_in (xl X) (xg X) vv 0 8 M) pm_X10_in wT_X10_in wM_X10_35 ⟨by decide, by decide⟩ ⟨by decide, by decide⟩ (nle rfl) dX10_set_35 rfl (dt1 ?_)
        show V X (rmD 9 0 0) M 0 0 [(0, .ref md), (1, .int (nI i)), (2, .int ww), (3, .int vv)] 38 [.int (bI (qin vv 0 8))]
        refine v_ifb_ne (tgt := 44) C dX10_set_38 (by decide) (fun h38 => ?_) (fun h38 => ?_)
        · have hok : okSet ww vv = true := by unfold okSet; rw [h18, if_pos h26, h38]; rfl
          obtain ⟨w, hLw, hjw, rfl⟩ := qin_nJ (x := ww) (L := 8) (N := 10) (by decide) (by decide) h18
          obtain ⟨v, hLv, hjv, rfl⟩ := qin_nJ (x := vv) (L := 0) (N := 8) (by decide) (by decide) h38
          have hw : (w = 8 ∧ v ≤ 8) ∨ (w = 9 ∧ v ≤ 1) ∨ (w = 10 ∧ v ≤ 1) := by have := nI_eqN (b := 8) (by omega) (by decide) h26; omega
          show V X (rmD 9 0 0) M 0 0 [(0, .ref md), (1, .int (nI i)), (2, .int (nI w)), (3, .int (nI v))] 44 []
          refine v_aload_n C dX10_set_44 rfl ?_
          refine v_get C kX10 hO 1 (by decide) wF_X10_7 rfl dX10_set_45 ?_
          refine v_bipush C dX10_set_48 (v := 11) rfl ?_
          refine v_iload_n C dX10_set_50 rfl ?_
          refine v_imul C dX10_set_51 ?_
          refine v_iload_n C dX10_set_52 rfl ?_
          refine v_iadd C dX10_set_53 ?_
          rw [show ((11 * (nI i)) + (nI w) : Int32) = nI (11 * i + w) from ix_ad (ix_mu rfl rfl) rfl]
          refine v_iald C h1_ (vp_in_nI (by omega) (by decide)) dX10_set_54 ?_
          rw [show fT (nI (11 * i + w) : Int32).toNatClampNeg = nI (m i w) from by rw [nI_clamp (by omega)]; exact cT i lt w (by omega)]
          refine v_istore (lv' := [(4, .int (nI (m i w))), (0, .ref md), (1, .int (nI i)), (2, .int (nI w)), (3, .int (nI v))]) C dX10_set_55 hN (by decide) rfl ?_
          refine v_aload_n C dX10_set_57 rfl ?_
          refine v_get C kX10 hO 1 (by decide) wF_X10_7 rfl dX10_set_58 ?_
          refine v_bipush C dX10_set_61 (v := 11) rfl ?_
          refine v_iload_n C dX10_set_63 rfl ?_
          refine v_imul C dX10_set_64 ?_
          refine v_iload_n C dX10_set_65 rfl ?_
          refine v_iadd C dX10_set_66 ?_
          rw [show ((11 * (nI i)) + (nI w) : Int32) = nI (11 * i + w) from ix_ad (ix_mu rfl rfl) rfl]
          show V X (rmD 9 0 0) M 0 0 [(4, .int (nI (m i w))), (0, .ref md), (1, .int (nI i)), (2, .int (nI w)), (3, .int (nI v))] 67 [.int (nI (11 * i + w)), .ref t1]
          refine v_iload_n C dX10_set_67 rfl ?_
          refine v_iast C h1_ (vp_in_nI (by omega) (by decide)) dX10_set_68 ?_
          show V X (rmD 9 0 0) (mset M t1 (aI (xg X) 132 (upd fT (nI (11 * i + w) : Int32).toNatClampNeg (nI v)))) 0 0 [(4, .int (nI (m i w))), (0, .ref md), (1, .int (nI i)), (2, .int (nI w)), (3, .int (nI v))] 69 []
          rw [nI_clamp (n := (11 * i + w)) (by omega)]
          show V X (rmD 9 0 0) (mset M t1 (aI (xg X) 132 (upd fT (11 * i + w) (nI v)))) 0 0 [(4, .int (nI (m i w))), (0, .ref md), (1, .int (nI i)), (2, .int (nI w)), (3, .int (nI v))] 69 []
          refine v_iload C dX10_set_69 rfl ?_
          exact v_iret C E dX10_set_71 (nle rfl) (nle rfl) ⟨by simp only [aSet, hx, hok, if_true, nI_clamp (n := w) (show w < 2 ^ 31 by omega)], by simp only [sSet, hx, hok, if_true, nI_clamp (n := w) (show w < 2 ^ 31 by omega), nI_clamp (n := v) (show v < 2 ^ 31 by omega)]; exact ⟨t1, t2, t3, t4, t5, t6, t7, t8, upd fT (11 * i + w) (nI v), fD, fP, fC, fS, fU, fX, fF, mo, (mset_ne n_md_t1).trans hO, mset_same _ _ _, (mset_ne n_t2_t1).trans h2_, (mset_ne n_t3_t1).trans h3_, (mset_ne n_t4_t1).trans h4_, (mset_ne n_t5_t1).trans h5_, (mset_ne n_t6_t1).trans h6_, (mset_ne n_t7_t1).trans h7_, (mset_ne n_t8_t1).trans h8_, bT, bP, bS, up_okT okT_ lt hw, up_cT cT (by omega), cD, okP_, cP, cC, cS, cU, bU_, cX, okX, okF_, cF⟩⟩
        · have hok : okSet ww vv = false := by unfold okSet; rw [if_pos h26, h38, Bool.and_false]
          refine v_bipush C dX10_set_41 (v := (-2)) rfl ?_
          exact v_iret C E dX10_set_43 (nle rfl) (nle rfl) ⟨by simp [aSet, hx, hok], by simp only [sSet, hx, hok]; exact hM.W⟩
  · have hzi := trivial
    show V X (rmD 9 0 0) M 0 0 [(0, .ref md), (1, .int t), (2, .int ww), (3, .int vv)] 0 []
    refine v_aload_n C dX10_set_0 rfl ?_
    refine v_iload_n C dX10_set_1 rfl ?_
    refine v_callV (As := [.int t]) (rest := []) (b := md) C (c_X10_isThing (xl X) (xg X) M md t1 t2 t3 t4 t5 t6 t7 t8 fT fD fP fC fS fU fX fF mo nT m dB nP pf cB nS sg ln tx fl hM t) pm_X10_isThing wI_X10_isThing wS_X10_isThing wM_X10_50 kX10 hO ⟨by decide, by decide⟩ ⟨by decide, by decide⟩ (nle rfl) dX10_set_2 rfl (dt1 ?_)
    show V X (rmD 9 0 0) M 0 0 [(0, .ref md), (1, .int t), (2, .int ww), (3, .int vv)] 5 [.int (bI ((idx nT t).isSome))]
    refine v_ifb_ne (tgt := 10) C dX10_set_5 (by decide) (fun hbad => absurd hbad (by rw [hx]; simp)) (fun h5 => ?_)
    refine v_iconst C dX10_set_8 (v := (-1)) rfl ?_
    exact v_iret C E dX10_set_9 (nle rfl) (nle rfl) ⟨by simp [aSet, hx], by simp only [sSet, hx]; exact hM.W⟩

set_option maxHeartbeats 4000000 in
set_option maxRecDepth 100000 in
theorem c_X10_flight (l : Launch) (g : Gm) (M : Mem) (md : Nat) (t1 t2 t3 t4 t5 t6 t7 t8 : Nat) (fT fD fP fC fS fU fX fF : Nat → Int32) (mo : Int32) (nT : Nat) (m : Nat → Nat → Nat) (dB : Nat → Nat → Bool) (nP : Nat) (pf : Nat → Nat → Nat) (cB : Nat → Nat → Bool) (nS : Nat) (sg : Nat → Int32) (ln : Nat → Nat) (tx : Nat → Nat → Int32) (fl : Nat → Nat → Nat) (hM : ModA g M md t1 t2 t3 t4 t5 t6 t7 t8 fT fD fP fC fS fU fX fF mo nT m dB nP pf cB nS sg ln tx fl) (f aa bb ww rr : Int32) : Ct l g yX10_flight cX10_flight 6 (some .int) 9 0 0 [.ref md, .int f, .int aa, .int bb, .int ww, .int rr] M (fun v N => v = some (.int (aFlight f aa bb ww rr)) ∧ ModW g N md nT m dB nP pf cB nS sg ln tx (sFlight fl f aa bb ww rr)) := by
  refine Ct.of (by decide) (Nat.le_of_ble_eq_true rfl) ?_
  intro X hXl hXg hN C E
  subst hXl; subst hXg
  show V X (rmD 9 0 0) M 0 0 [(0, .ref md), (1, .int f), (2, .int aa), (3, .int bb), (4, .int ww), (5, .int rr)] 0 []
  obtain ⟨hO, h1_, h2_, h3_, h4_, h5_, h6_, h7_, h8_, bT, bP, bS, okT_, cT, cD, okP_, cP, cC, cS, cU, bU_, cX, okX, okF_, cF⟩ := id hM
  have n_md_t8 := cell_ne hO h8_ (by simp)
  have n_t1_t8 := cell_ne h1_ h8_ (by simp)
  have n_t2_t8 := cell_ne h2_ h8_ (by simp)
  have n_t3_t8 := cell_ne h3_ h8_ (by simp)
  have n_t4_t8 := cell_ne h4_ h8_ (by simp)
  have n_t5_t8 := cell_ne h5_ h8_ (by simp)
  have n_t6_t8 := cell_ne h6_ h8_ (by simp)
  have n_t7_t8 := cell_ne h7_ h8_ (by simp)
  rcases idx_cases 8 (by decide) f with ⟨i, lt, rfl, hx⟩ | ⟨hn, hx⟩
  · have hzi := trivial
    show V X (rmD 9 0 0) M 0 0 [(0, .ref md), (1, .int (nI i)), (2, .int aa), (3, .int bb), (4, .int ww), (5, .int rr)] 0 []
    refine v_iload_n C dX10_flight_0 rfl ?_
    refine v_iconst C dX10_flight_1 (v := 0) rfl ?_
    refine v_bipush C dX10_flight_2 (v := 7) rfl ?_
    refine v_callS (As := [.int (nI i), .int 0, .int 7]) (rest := []) C (c_X10_in (xl X) (xg X) (nI i) 0 7 M) pm_X10_in wT_X10_in wM_X10_35 ⟨by decide, by decide⟩ ⟨by decide, by decide⟩ (nle rfl) dX10_flight_4 rfl (dt1 ?_)
    show V X (rmD 9 0 0) M 0 0 [(0, .ref md), (1, .int (nI i)), (2, .int aa), (3, .int bb), (4, .int ww), (5, .int rr)] 7 [.int (bI (qin (nI i) 0 7))]
    rw [qin_8]
    show V X (rmD 9 0 0) M 0 0 [(0, .ref md), (1, .int (nI i)), (2, .int aa), (3, .int bb), (4, .int ww), (5, .int rr)] 7 [.int (bI ((idx 8 (nI i)).isSome))]
    refine v_ifb_ne (tgt := 12) C dX10_flight_7 (by decide) (fun h7 => ?_) (fun hbad => absurd hbad (by rw [hx]; simp))
    refine v_iload_n C dX10_flight_12 rfl ?_
    refine v_iconst C dX10_flight_13 (v := 0) rfl ?_
    refine v_bipush C dX10_flight_14 (v := 11) rfl ?_
    refine v_callS (As := [.int aa, .int 0, .int 11]) (rest := []) C (c_X10_in (xl X) (xg X) aa 0 11 M) pm_X10_in wT_X10_in wM_X10_35 ⟨by decide, by decide⟩ ⟨by decide, by decide⟩ (nle rfl) dX10_flight_16 rfl (dt1 ?_)
    show V X (rmD 9 0 0) M 0 0 [(0, .ref md), (1, .int (nI i)), (2, .int aa), (3, .int bb), (4, .int ww), (5, .int rr)] 19 [.int (bI (qin aa 0 11))]
    refine v_ifb_eq (tgt := 59) C dX10_flight_19 (by decide) (fun h19 => ?_) (fun h19 => ?_)
    · have hok : okF aa bb ww rr = false := by unfold okF; simp [h19]
      refine v_bipush C dX10_flight_59 (v := (-2)) rfl ?_
      exact v_iret C E dX10_flight_61 (nle rfl) (nle rfl) ⟨by simp [aFlight, hx, hok], by simp only [sFlight, hx, hok]; exact hM.W⟩
    · refine v_iload_n C dX10_flight_22 rfl ?_
      refine v_iconst C dX10_flight_23 (v := 0) rfl ?_
      refine v_bipush C dX10_flight_24 (v := 11) rfl ?_
      refine v_callS (As := [.int bb, .int 0, .int 11]) (rest := []) C (c_X10_in (xl X) (xg X) bb 0 11 M) pm_X10_in wT_X10_in wM_X10_35 ⟨by decide, by decide⟩ ⟨by decide, by decide⟩ (nle rfl) dX10_flight_26 rfl (dt1 ?_)
      show V X (rmD 9 0 0) M 0 0 [(0, .ref md), (1, .int (nI i)), (2, .int aa), (3, .int bb), (4, .int ww), (5, .int rr)] 29 [.int (bI (qin bb 0 11))]
      refine v_ifb_eq (tgt := 59) C dX10_flight_29 (by decide) (fun h29 => ?_) (fun h29 => ?_)
      · have hok : okF aa bb ww rr = false := by unfold okF; simp [h19, h29]
        refine v_bipush C dX10_flight_59 (v := (-2)) rfl ?_
        exact v_iret C E dX10_flight_61 (nle rfl) (nle rfl) ⟨by simp [aFlight, hx, hok], by simp only [sFlight, hx, hok]; exact hM.W⟩
      · refine v_iload_n C dX10_flight_32 rfl ?_
        refine v_iload_n C dX10_flight_33 rfl ?_
        refine v_icmp_gt (tgt := 59) C dX10_flight_34 (by decide) (fun h34 => ?_) (fun h34 => ?_)
        · have hok : okF aa bb ww rr = false := by unfold okF; simp [h19, h29, show ¬ aa ≤ bb from Int32.not_le.mpr h34]
          refine v_bipush C dX10_flight_59 (v := (-2)) rfl ?_
          exact v_iret C E dX10_flight_61 (nle rfl) (nle rfl) ⟨by simp [aFlight, hx, hok], by simp only [sFlight, hx, hok]; exact hM.W⟩
        · refine v_iload C dX10_flight_37 rfl ?_
          refine v_iconst C dX10_flight_39 (v := 0) rfl ?_
          refine v_bipush C dX10_flight_40 (v := 10) rfl ?_
          refine v_callS (As := [.int ww, .int 0, .int 10]) (rest := []) C (c_X10_in (xl X) (xg X) ww 0 10 M) pm_X10_in wT_X10_in wM_X10_35 ⟨by decide, by decide⟩ ⟨by decide, by decide⟩ (nle rfl) dX10_flight_42 rfl (dt1 ?_)
          show V X (rmD 9 0 0) M 0 0 [(0, .ref md), (1, .int (nI i)), (2, .int aa), (3, .int bb), (4, .int ww), (5, .int rr)] 45 [.int (bI (qin ww 0 10))]
          refine v_ifb_eq (tgt := 59) C dX10_flight_45 (by decide) (fun h45 => ?_) (fun h45 => ?_)
          · have hok : okF aa bb ww rr = false := by unfold okF; simp [h19, h29, show aa ≤ bb from Int32.not_lt.mp h34, h45]
            refine v_bipush C dX10_flight_59 (v := (-2)) rfl ?_
            exact v_iret C E dX10_flight_61 (nle rfl) (nle rfl) ⟨by simp [aFlight, hx, hok], by simp only [sFlight, hx, hok]; exact hM.W⟩
          · refine v_iload C dX10_flight_48 rfl ?_
            refine v_iconst C dX10_flight_50 (v := 0) rfl ?_
            refine v_bipush C dX10_flight_51 (v := 100) rfl ?_
            refine v_callS (As := [.int rr, .int 0, .int 100]) (rest := []) C (c_X10_in (xl X) (xg X) rr 0 100 M) pm_X10_in wT_X10_in wM_X10_35 ⟨by decide, by decide⟩ ⟨by decide, by decide⟩ (nle rfl) dX10_flight_53 rfl (dt1 ?_)
            show V X (rmD 9 0 0) M 0 0 [(0, .ref md), (1, .int (nI i)), (2, .int aa), (3, .int bb), (4, .int ww), (5, .int rr)] 56 [.int (bI (qin rr 0 100))]
            refine v_ifb_ne (tgt := 62) C dX10_flight_56 (by decide) (fun h56 => ?_) (fun h56 => ?_)
            · have g34b : aa ≤ bb := Int32.not_lt.mp h34
              have hok : okF aa bb ww rr = true := by unfold okF; rw [h19, h29, h45, h56, decide_eq_true g34b]; rfl
              obtain ⟨a, hLa, hja, rfl⟩ := qin_nJ (x := aa) (L := 0) (N := 11) (by decide) (by decide) h19
              obtain ⟨b, hLb, hjb, rfl⟩ := qin_nJ (x := bb) (L := 0) (N := 11) (by decide) (by decide) h29
              obtain ⟨w, hLw, hjw, rfl⟩ := qin_nJ (x := ww) (L := 0) (N := 10) (by decide) (by decide) h45
              obtain ⟨r, hLr, hjr, rfl⟩ := qin_nJ (x := rr) (L := 0) (N := 100) (by decide) (by decide) h56
              have g34 := nI_leN (by omega) (by omega) g34b
              show V X (rmD 9 0 0) M 0 0 [(0, .ref md), (1, .int (nI i)), (2, .int (nI a)), (3, .int (nI b)), (4, .int (nI w)), (5, .int (nI r))] 62 []
              refine v_aload_n C dX10_flight_62 rfl ?_
              refine v_get C kX10 hO 10 (by decide) wF_X10_32 rfl dX10_flight_63 ?_
              refine v_iconst C dX10_flight_66 (v := 4) rfl ?_
              refine v_iload_n C dX10_flight_67 rfl ?_
              refine v_imul C dX10_flight_68 ?_
              rw [show (4 * (nI i) : Int32) = nI (4 * i) from ix_mu rfl rfl]
              show V X (rmD 9 0 0) M 0 0 [(0, .ref md), (1, .int (nI i)), (2, .int (nI a)), (3, .int (nI b)), (4, .int (nI w)), (5, .int (nI r))] 69 [.int (nI (4 * i)), .ref t8]
              refine v_iload_n C dX10_flight_69 rfl ?_
              refine v_iast C h8_ (vp_in_nI (by omega) (by decide)) dX10_flight_70 ?_
              show V X (rmD 9 0 0) (mset M t8 (aI (xg X) 32 (upd fF (nI (4 * i) : Int32).toNatClampNeg (nI a)))) 0 0 [(0, .ref md), (1, .int (nI i)), (2, .int (nI a)), (3, .int (nI b)), (4, .int (nI w)), (5, .int (nI r))] 71 []
              rw [nI_clamp (n := (4 * i)) (by omega)]
              show V X (rmD 9 0 0) (mset M t8 (aI (xg X) 32 (upd fF (4 * i) (nI a)))) 0 0 [(0, .ref md), (1, .int (nI i)), (2, .int (nI a)), (3, .int (nI b)), (4, .int (nI w)), (5, .int (nI r))] 71 []
              refine v_aload_n C dX10_flight_71 rfl ?_
              refine v_get C kX10 ((mset_ne n_md_t8).trans hO) 10 (by decide) wF_X10_32 rfl dX10_flight_72 ?_
              refine v_iconst C dX10_flight_75 (v := 4) rfl ?_
              refine v_iload_n C dX10_flight_76 rfl ?_
              refine v_imul C dX10_flight_77 ?_
              refine v_iconst C dX10_flight_78 (v := 1) rfl ?_
              refine v_iadd C dX10_flight_79 ?_
              rw [show ((4 * (nI i)) + 1 : Int32) = nI (4 * i + 1) from ix_ad (ix_mu rfl rfl) rfl]
              show V X (rmD 9 0 0) (mset M t8 (aI (xg X) 32 (upd fF (4 * i) (nI a)))) 0 0 [(0, .ref md), (1, .int (nI i)), (2, .int (nI a)), (3, .int (nI b)), (4, .int (nI w)), (5, .int (nI r))] 80 [.int (nI (4 * i + 1)), .ref t8]
              refine v_iload_n C dX10_flight_80 rfl ?_
              refine v_iast C (mset_same _ _ _) (vp_in_nI (by omega) (by decide)) dX10_flight_81 ?_
              show V X (rmD 9 0 0) (mset (mset M t8 (aI (xg X) 32 (upd fF (4 * i) (nI a)))) t8 (aI (xg X) 32 (upd (upd fF (4 * i) (nI a)) (nI (4 * i + 1) : Int32).toNatClampNeg (nI b)))) 0 0 [(0, .ref md), (1, .int (nI i)), (2, .int (nI a)), (3, .int (nI b)), (4, .int (nI w)), (5, .int (nI r))] 82 []
              rw [mset_mset, nI_clamp (n := (4 * i + 1)) (by omega)]
              show V X (rmD 9 0 0) (mset M t8 (aI (xg X) 32 (upd (upd fF (4 * i) (nI a)) (4 * i + 1) (nI b)))) 0 0 [(0, .ref md), (1, .int (nI i)), (2, .int (nI a)), (3, .int (nI b)), (4, .int (nI w)), (5, .int (nI r))] 82 []
              refine v_aload_n C dX10_flight_82 rfl ?_
              refine v_get C kX10 ((mset_ne n_md_t8).trans hO) 10 (by decide) wF_X10_32 rfl dX10_flight_83 ?_
              refine v_iconst C dX10_flight_86 (v := 4) rfl ?_
              refine v_iload_n C dX10_flight_87 rfl ?_
              refine v_imul C dX10_flight_88 ?_
              refine v_iconst C dX10_flight_89 (v := 2) rfl ?_
              refine v_iadd C dX10_flight_90 ?_
              rw [show ((4 * (nI i)) + 2 : Int32) = nI (4 * i + 2) from ix_ad (ix_mu rfl rfl) rfl]
              show V X (rmD 9 0 0) (mset M t8 (aI (xg X) 32 (upd (upd fF (4 * i) (nI a)) (4 * i + 1) (nI b)))) 0 0 [(0, .ref md), (1, .int (nI i)), (2, .int (nI a)), (3, .int (nI b)), (4, .int (nI w)), (5, .int (nI r))] 91 [.int (nI (4 * i + 2)), .ref t8]
              refine v_iload C dX10_flight_91 rfl ?_
              refine v_iast C (mset_same _ _ _) (vp_in_nI (by omega) (by decide)) dX10_flight_93 ?_
              show V X (rmD 9 0 0) (mset (mset M t8 (aI (xg X) 32 (upd (upd fF (4 * i) (nI a)) (4 * i + 1) (nI b)))) t8 (aI (xg X) 32 (upd (upd (upd fF (4 * i) (nI a)) (4 * i + 1) (nI b)) (nI (4 * i + 2) : Int32).toNatClampNeg (nI w)))) 0 0 [(0, .ref md), (1, .int (nI i)), (2, .int (nI a)), (3, .int (nI b)), (4, .int (nI w)), (5, .int (nI r))] 94 []
              rw [mset_mset, nI_clamp (n := (4 * i + 2)) (by omega)]
              show V X (rmD 9 0 0) (mset M t8 (aI (xg X) 32 (upd (upd (upd fF (4 * i) (nI a)) (4 * i + 1) (nI b)) (4 * i + 2) (nI w)))) 0 0 [(0, .ref md), (1, .int (nI i)), (2, .int (nI a)), (3, .int (nI b)), (4, .int (nI w)), (5, .int (nI r))] 94 []
              refine v_aload_n C dX10_flight_94 rfl ?_
              refine v_get C kX10 ((mset_ne n_md_t8).trans hO) 10 (by decide) wF_X10_32 rfl dX10_flight_95 ?_
              refine v_iconst C dX10_flight_98 (v := 4) rfl ?_
              refine v_iload_n C dX10_flight_99 rfl ?_
              refine v_imul C dX10_flight_100 ?_
              refine v_iconst C dX10_flight_101 (v := 3) rfl ?_
              refine v_iadd C dX10_flight_102 ?_
              rw [show ((4 * (nI i)) + 3 : Int32) = nI (4 * i + 3) from ix_ad (ix_mu rfl rfl) rfl]
              show V X (rmD 9 0 0) (mset M t8 (aI (xg X) 32 (upd (upd (upd fF (4 * i) (nI a)) (4 * i + 1) (nI b)) (4 * i + 2) (nI w)))) 0 0 [(0, .ref md), (1, .int (nI i)), (2, .int (nI a)), (3, .int (nI b)), (4, .int (nI w)), (5, .int (nI r))] 103 [.int (nI (4 * i + 3)), .ref t8]
              refine v_iload C dX10_flight_103 rfl ?_
              refine v_iast C (mset_same _ _ _) (vp_in_nI (by omega) (by decide)) dX10_flight_105 ?_
              show V X (rmD 9 0 0) (mset (mset M t8 (aI (xg X) 32 (upd (upd (upd fF (4 * i) (nI a)) (4 * i + 1) (nI b)) (4 * i + 2) (nI w)))) t8 (aI (xg X) 32 (upd (upd (upd (upd fF (4 * i) (nI a)) (4 * i + 1) (nI b)) (4 * i + 2) (nI w)) (nI (4 * i + 3) : Int32).toNatClampNeg (nI r)))) 0 0 [(0, .ref md), (1, .int (nI i)), (2, .int (nI a)), (3, .int (nI b)), (4, .int (nI w)), (5, .int (nI r))] 106 []
              rw [mset_mset, nI_clamp (n := (4 * i + 3)) (by omega)]
              show V X (rmD 9 0 0) (mset M t8 (aI (xg X) 32 (upd (upd (upd (upd fF (4 * i) (nI a)) (4 * i + 1) (nI b)) (4 * i + 2) (nI w)) (4 * i + 3) (nI r)))) 0 0 [(0, .ref md), (1, .int (nI i)), (2, .int (nI a)), (3, .int (nI b)), (4, .int (nI w)), (5, .int (nI r))] 106 []
              refine v_iconst C dX10_flight_106 (v := 1) rfl ?_
              exact v_iret C E dX10_flight_107 (nle rfl) (nle rfl) ⟨by simp [aFlight, hx, hok], by simp only [sFlight, hx, hok, if_true, nI_clamp (n := a) (show a < 2 ^ 31 by omega), nI_clamp (n := b) (show b < 2 ^ 31 by omega), nI_clamp (n := w) (show w < 2 ^ 31 by omega), nI_clamp (n := r) (show r < 2 ^ 31 by omega)]; exact ⟨t1, t2, t3, t4, t5, t6, t7, t8, fT, fD, fP, fC, fS, fU, fX, upd (upd (upd (upd fF (4 * i) (nI a)) (4 * i + 1) (nI b)) (4 * i + 2) (nI w)) (4 * i + 3) (nI r), mo, (mset_ne n_md_t8).trans hO, (mset_ne n_t1_t8).trans h1_, (mset_ne n_t2_t8).trans h2_, (mset_ne n_t3_t8).trans h3_, (mset_ne n_t4_t8).trans h4_, (mset_ne n_t5_t8).trans h5_, (mset_ne n_t6_t8).trans h6_, (mset_ne n_t7_t8).trans h7_, mset_same _ _ _, bT, bP, bS, okT_, cT, cD, okP_, cP, cC, cS, cU, bU_, cX, okX, okFl_U okF_ g34 (by omega) (by omega) (by omega), up_4 cF⟩⟩
            · have hok : okF aa bb ww rr = false := by unfold okF; simp [h19, h29, show aa ≤ bb from Int32.not_lt.mp h34, h45, h56]
              refine v_bipush C dX10_flight_59 (v := (-2)) rfl ?_
              exact v_iret C E dX10_flight_61 (nle rfl) (nle rfl) ⟨by simp [aFlight, hx, hok], by simp only [sFlight, hx, hok]; exact hM.W⟩
  · have hzi := trivial
    show V X (rmD 9 0 0) M 0 0 [(0, .ref md), (1, .int f), (2, .int aa), (3, .int bb), (4, .int ww), (5, .int rr)] 0 []
    refine v_iload_n C dX10_flight_0 rfl ?_
    refine v_iconst C dX10_flight_1 (v := 0) rfl ?_
    refine v_bipush C dX10_flight_2 (v := 7) rfl ?_
    refine v_callS (As := [.int f, .int 0, .int 7]) (rest := []) C (c_X10_in (xl X) (xg X) f 0 7 M) pm_X10_in wT_X10_in wM_X10_35 ⟨by decide, by decide⟩ ⟨by decide, by decide⟩ (nle rfl) dX10_flight_4 rfl (dt1 ?_)
    show V X (rmD 9 0 0) M 0 0 [(0, .ref md), (1, .int f), (2, .int aa), (3, .int bb), (4, .int ww), (5, .int rr)] 7 [.int (bI (qin f 0 7))]
    rw [qin_8]
    show V X (rmD 9 0 0) M 0 0 [(0, .ref md), (1, .int f), (2, .int aa), (3, .int bb), (4, .int ww), (5, .int rr)] 7 [.int (bI ((idx 8 f).isSome))]
    refine v_ifb_ne (tgt := 12) C dX10_flight_7 (by decide) (fun hbad => absurd hbad (by rw [hx]; simp)) (fun h7 => ?_)
    refine v_iconst C dX10_flight_10 (v := (-1)) rfl ?_
    exact v_iret C E dX10_flight_11 (nle rfl) (nle rfl) ⟨by simp [aFlight, hx], by simp only [sFlight, hx]; exact hM.W⟩

set_option maxHeartbeats 4000000 in
set_option maxRecDepth 100000 in
theorem c_X10_thing (l : Launch) (g : Gm) (M : Mem) (md : Nat) (t1 t2 t3 t4 t5 t6 t7 t8 : Nat) (fT fD fP fC fS fU fX fF : Nat → Int32) (mo : Int32) (nT : Nat) (m : Nat → Nat → Nat) (dB : Nat → Nat → Bool) (nP : Nat) (pf : Nat → Nat → Nat) (cB : Nat → Nat → Bool) (nS : Nat) (sg : Nat → Int32) (ln : Nat → Nat) (tx : Nat → Nat → Int32) (fl : Nat → Nat → Nat) (hM : ModA g M md t1 t2 t3 t4 t5 t6 t7 t8 fT fD fP fC fS fU fX fF mo nT m dB nP pf cB nS sg ln tx fl) (xx yy aa bb hh kk ss tt : Int32) : Ct l g yX10_thing cX10_thing 11 (some .int) 9 0 0 [.ref md, .int xx, .int yy, .int aa, .int bb, .int hh, .int kk, .int ss, .int tt] M (fun v N => v = some (.int (aThing nT xx yy aa bb hh kk ss tt)) ∧ (if okT xx yy aa bb hh kk ss tt = true ∧ nT < 12 then ModW g N md (nT + 1) (fun i => if i = nT then nw xx.toNatClampNeg yy.toNatClampNeg aa.toNatClampNeg bb.toNatClampNeg hh.toNatClampNeg kk.toNatClampNeg ss.toNatClampNeg tt.toNatClampNeg else m i) (fun i => if i = nT then fun _ => false else dB i) nP pf cB nS sg ln tx fl else ModW g N md nT m dB nP pf cB nS sg ln tx fl)) := by
  refine Ct.of (by decide) (Nat.le_of_ble_eq_true rfl) ?_
  intro X hXl hXg hN C E
  subst hXl; subst hXg
  show V X (rmD 9 0 0) M 0 0 [(0, .ref md), (1, .int xx), (2, .int yy), (3, .int aa), (4, .int bb), (5, .int hh), (6, .int kk), (7, .int ss), (8, .int tt)] 0 []
  obtain ⟨hO, h1_, h2_, h3_, h4_, h5_, h6_, h7_, h8_, bT, bP, bS, okT_, cT, cD, okP_, cP, cC, cS, cU, bU_, cX, okX, okF_, cF⟩ := id hM
  have n_md_t1 := cell_ne hO h1_ (by simp)
  have n_t2_t1 := cell_ne h2_ h1_ (by simp)
  have n_t3_t1 := cell_ne h3_ h1_ (by simp)
  have n_t4_t1 := cell_ne h4_ h1_ (by simp)
  have n_t5_t1 := cell_ne h5_ h1_ (by simp)
  have n_t6_t1 := cell_ne h6_ h1_ (by simp)
  have n_t7_t1 := cell_ne h7_ h1_ (by simp)
  have n_t8_t1 := cell_ne h8_ h1_ (by simp)
  have n_t1_md := cell_ne h1_ hO (by simp)
  have n_t2_md := cell_ne h2_ hO (by simp)
  have n_t3_md := cell_ne h3_ hO (by simp)
  have n_t4_md := cell_ne h4_ hO (by simp)
  have n_t5_md := cell_ne h5_ hO (by simp)
  have n_t6_md := cell_ne h6_ hO (by simp)
  have n_t7_md := cell_ne h7_ hO (by simp)
  have n_t8_md := cell_ne h8_ hO (by simp)
  refine v_iload_n C dX10_thing_0 rfl ?_
  refine v_iconst C dX10_thing_1 (v := 0) rfl ?_
  refine v_bipush C dX10_thing_2 (v := 11) rfl ?_
  refine v_callS (As := [.int xx, .int 0, .int 11]) (rest := []) C (c_X10_in (xl X) (xg X) xx 0 11 M) pm_X10_in wT_X10_in wM_X10_35 ⟨by decide, by decide⟩ ⟨by decide, by decide⟩ (nle rfl) dX10_thing_4 rfl (dt1 ?_)
  show V X (rmD 9 0 0) M 0 0 [(0, .ref md), (1, .int xx), (2, .int yy), (3, .int aa), (4, .int bb), (5, .int hh), (6, .int kk), (7, .int ss), (8, .int tt)] 7 [.int (bI (qin xx 0 11))]
  refine v_ifb_eq (tgt := 60) C dX10_thing_7 (by decide) (fun h7 => ?_) (fun h7 => ?_)
  · refine v_iconst C dX10_thing_60 (v := 0) rfl ?_
    refine v_istore (lv' := [(9, .int 0), (0, .ref md), (1, .int xx), (2, .int yy), (3, .int aa), (4, .int bb), (5, .int hh), (6, .int kk), (7, .int ss), (8, .int tt)]) C dX10_thing_61 hN (by decide) rfl ?_
    refine v_iload C dX10_thing_63 rfl ?_
    refine v_if_eq (tgt := 112) C dX10_thing_65 (by decide) (fun h65 => ?_) (fun hbad => absurd hbad (by decide))
    have hok : okT xx yy aa bb hh kk ss tt = false := by unfold okT; simp [h7]
    refine v_bipush C dX10_thing_112 (v := (-2)) rfl ?_
    exact v_iret C E dX10_thing_114 (nle rfl) (nle rfl) ⟨by rw [aThing, hok]; rfl, by rw [if_neg (by rw [hok]; simp)]; exact hM.W⟩
  · refine v_iload_n C dX10_thing_10 rfl ?_
    refine v_iconst C dX10_thing_11 (v := 0) rfl ?_
    refine v_bipush C dX10_thing_12 (v := 7) rfl ?_
    refine v_callS (As := [.int yy, .int 0, .int 7]) (rest := []) C (c_X10_in (xl X) (xg X) yy 0 7 M) pm_X10_in wT_X10_in wM_X10_35 ⟨by decide, by decide⟩ ⟨by decide, by decide⟩ (nle rfl) dX10_thing_14 rfl (dt1 ?_)
    show V X (rmD 9 0 0) M 0 0 [(0, .ref md), (1, .int xx), (2, .int yy), (3, .int aa), (4, .int bb), (5, .int hh), (6, .int kk), (7, .int ss), (8, .int tt)] 17 [.int (bI (qin yy 0 7))]
    refine v_ifb_eq (tgt := 60) C dX10_thing_17 (by decide) (fun h17 => ?_) (fun h17 => ?_)
    · refine v_iconst C dX10_thing_60 (v := 0) rfl ?_
      refine v_istore (lv' := [(9, .int 0), (0, .ref md), (1, .int xx), (2, .int yy), (3, .int aa), (4, .int bb), (5, .int hh), (6, .int kk), (7, .int ss), (8, .int tt)]) C dX10_thing_61 hN (by decide) rfl ?_
      refine v_iload C dX10_thing_63 rfl ?_
      refine v_if_eq (tgt := 112) C dX10_thing_65 (by decide) (fun h65 => ?_) (fun hbad => absurd hbad (by decide))
      have hok : okT xx yy aa bb hh kk ss tt = false := by unfold okT; simp [h7, h17]
      refine v_bipush C dX10_thing_112 (v := (-2)) rfl ?_
      exact v_iret C E dX10_thing_114 (nle rfl) (nle rfl) ⟨by rw [aThing, hok]; rfl, by rw [if_neg (by rw [hok]; simp)]; exact hM.W⟩
    · refine v_iload_n C dX10_thing_20 rfl ?_
      refine v_iconst C dX10_thing_21 (v := 1) rfl ?_
      refine v_iconst C dX10_thing_22 (v := 4) rfl ?_
      refine v_callS (As := [.int aa, .int 1, .int 4]) (rest := []) C (c_X10_in (xl X) (xg X) aa 1 4 M) pm_X10_in wT_X10_in wM_X10_35 ⟨by decide, by decide⟩ ⟨by decide, by decide⟩ (nle rfl) dX10_thing_23 rfl (dt1 ?_)
      show V X (rmD 9 0 0) M 0 0 [(0, .ref md), (1, .int xx), (2, .int yy), (3, .int aa), (4, .int bb), (5, .int hh), (6, .int kk), (7, .int ss), (8, .int tt)] 26 [.int (bI (qin aa 1 4))]
      refine v_ifb_eq (tgt := 60) C dX10_thing_26 (by decide) (fun h26 => ?_) (fun h26 => ?_)
      · refine v_iconst C dX10_thing_60 (v := 0) rfl ?_
        refine v_istore (lv' := [(9, .int 0), (0, .ref md), (1, .int xx), (2, .int yy), (3, .int aa), (4, .int bb), (5, .int hh), (6, .int kk), (7, .int ss), (8, .int tt)]) C dX10_thing_61 hN (by decide) rfl ?_
        refine v_iload C dX10_thing_63 rfl ?_
        refine v_if_eq (tgt := 112) C dX10_thing_65 (by decide) (fun h65 => ?_) (fun hbad => absurd hbad (by decide))
        have hok : okT xx yy aa bb hh kk ss tt = false := by unfold okT; simp [h7, h17, h26]
        refine v_bipush C dX10_thing_112 (v := (-2)) rfl ?_
        exact v_iret C E dX10_thing_114 (nle rfl) (nle rfl) ⟨by rw [aThing, hok]; rfl, by rw [if_neg (by rw [hok]; simp)]; exact hM.W⟩
      · refine v_iload C dX10_thing_29 rfl ?_
        refine v_iconst C dX10_thing_31 (v := 1) rfl ?_
        refine v_iconst C dX10_thing_32 (v := 4) rfl ?_
        refine v_callS (As := [.int bb, .int 1, .int 4]) (rest := []) C (c_X10_in (xl X) (xg X) bb 1 4 M) pm_X10_in wT_X10_in wM_X10_35 ⟨by decide, by decide⟩ ⟨by decide, by decide⟩ (nle rfl) dX10_thing_33 rfl (dt1 ?_)
        show V X (rmD 9 0 0) M 0 0 [(0, .ref md), (1, .int xx), (2, .int yy), (3, .int aa), (4, .int bb), (5, .int hh), (6, .int kk), (7, .int ss), (8, .int tt)] 36 [.int (bI (qin bb 1 4))]
        refine v_ifb_eq (tgt := 60) C dX10_thing_36 (by decide) (fun h36 => ?_) (fun h36 => ?_)
        · refine v_iconst C dX10_thing_60 (v := 0) rfl ?_
          refine v_istore (lv' := [(9, .int 0), (0, .ref md), (1, .int xx), (2, .int yy), (3, .int aa), (4, .int bb), (5, .int hh), (6, .int kk), (7, .int ss), (8, .int tt)]) C dX10_thing_61 hN (by decide) rfl ?_
          refine v_iload C dX10_thing_63 rfl ?_
          refine v_if_eq (tgt := 112) C dX10_thing_65 (by decide) (fun h65 => ?_) (fun hbad => absurd hbad (by decide))
          have hok : okT xx yy aa bb hh kk ss tt = false := by unfold okT; simp [h7, h17, h26, h36]
          refine v_bipush C dX10_thing_112 (v := (-2)) rfl ?_
          exact v_iret C E dX10_thing_114 (nle rfl) (nle rfl) ⟨by rw [aThing, hok]; rfl, by rw [if_neg (by rw [hok]; simp)]; exact hM.W⟩
        · refine v_iload_n C dX10_thing_39 rfl ?_
          refine v_iload_n C dX10_thing_40 rfl ?_
          refine v_iadd C dX10_thing_41 ?_
          refine v_bipush C dX10_thing_42 (v := 12) rfl ?_
          refine v_icmp_gt (tgt := 60) C dX10_thing_44 (by decide) (fun h44 => ?_) (fun h44 => ?_)
          · refine v_iconst C dX10_thing_60 (v := 0) rfl ?_
            refine v_istore (lv' := [(9, .int 0), (0, .ref md), (1, .int xx), (2, .int yy), (3, .int aa), (4, .int bb), (5, .int hh), (6, .int kk), (7, .int ss), (8, .int tt)]) C dX10_thing_61 hN (by decide) rfl ?_
            refine v_iload C dX10_thing_63 rfl ?_
            refine v_if_eq (tgt := 112) C dX10_thing_65 (by decide) (fun h65 => ?_) (fun hbad => absurd hbad (by decide))
            have hok : okT xx yy aa bb hh kk ss tt = false := by unfold okT; simp [h7, h17, h26, h36, show ¬ xx + aa ≤ 12 from Int32.not_le.mpr h44]
            refine v_bipush C dX10_thing_112 (v := (-2)) rfl ?_
            exact v_iret C E dX10_thing_114 (nle rfl) (nle rfl) ⟨by rw [aThing, hok]; rfl, by rw [if_neg (by rw [hok]; simp)]; exact hM.W⟩
          · refine v_iload_n C dX10_thing_47 rfl ?_
            refine v_iload C dX10_thing_48 rfl ?_
            refine v_iadd C dX10_thing_50 ?_
            refine v_bipush C dX10_thing_51 (v := 8) rfl ?_
            refine v_icmp_gt (tgt := 60) C dX10_thing_53 (by decide) (fun h53 => ?_) (fun h53 => ?_)
            · refine v_iconst C dX10_thing_60 (v := 0) rfl ?_
              refine v_istore (lv' := [(9, .int 0), (0, .ref md), (1, .int xx), (2, .int yy), (3, .int aa), (4, .int bb), (5, .int hh), (6, .int kk), (7, .int ss), (8, .int tt)]) C dX10_thing_61 hN (by decide) rfl ?_
              refine v_iload C dX10_thing_63 rfl ?_
              refine v_if_eq (tgt := 112) C dX10_thing_65 (by decide) (fun h65 => ?_) (fun hbad => absurd hbad (by decide))
              have hok : okT xx yy aa bb hh kk ss tt = false := by unfold okT; simp [h7, h17, h26, h36, show xx + aa ≤ 12 from Int32.not_lt.mp h44, show ¬ yy + bb ≤ 8 from Int32.not_le.mpr h53]
              refine v_bipush C dX10_thing_112 (v := (-2)) rfl ?_
              exact v_iret C E dX10_thing_114 (nle rfl) (nle rfl) ⟨by rw [aThing, hok]; rfl, by rw [if_neg (by rw [hok]; simp)]; exact hM.W⟩
            · refine v_iconst C dX10_thing_56 (v := 1) rfl ?_
              refine v_goto (tgt := 61) C dX10_thing_57 (by decide) ?_
              refine v_istore (lv' := [(9, .int 1), (0, .ref md), (1, .int xx), (2, .int yy), (3, .int aa), (4, .int bb), (5, .int hh), (6, .int kk), (7, .int ss), (8, .int tt)]) C dX10_thing_61 hN (by decide) rfl ?_
              refine v_iload C dX10_thing_63 rfl ?_
              refine v_if_eq (tgt := 112) C dX10_thing_65 (by decide) (fun hbad => absurd hbad (by decide)) (fun h65 => ?_)
              refine v_iload C dX10_thing_68 rfl ?_
              refine v_iconst C dX10_thing_70 (v := 1) rfl ?_
              refine v_bipush C dX10_thing_71 (v := 20) rfl ?_
              refine v_callS (As := [.int hh, .int 1, .int 20]) (rest := []) C (c_X10_in (xl X) (xg X) hh 1 20 M) pm_X10_in wT_X10_in wM_X10_35 ⟨by decide, by decide⟩ ⟨by decide, by decide⟩ (nle rfl) dX10_thing_73 rfl (dt1 ?_)
              show V X (rmD 9 0 0) M 0 0 [(9, .int 1), (0, .ref md), (1, .int xx), (2, .int yy), (3, .int aa), (4, .int bb), (5, .int hh), (6, .int kk), (7, .int ss), (8, .int tt)] 76 [.int (bI (qin hh 1 20))]
              refine v_ifb_eq (tgt := 112) C dX10_thing_76 (by decide) (fun h76 => ?_) (fun h76 => ?_)
              · have hok : okT xx yy aa bb hh kk ss tt = false := by unfold okT; simp [h7, h17, h26, h36, show xx + aa ≤ 12 from Int32.not_lt.mp h44, show yy + bb ≤ 8 from Int32.not_lt.mp h53, h76]
                refine v_bipush C dX10_thing_112 (v := (-2)) rfl ?_
                exact v_iret C E dX10_thing_114 (nle rfl) (nle rfl) ⟨by rw [aThing, hok]; rfl, by rw [if_neg (by rw [hok]; simp)]; exact hM.W⟩
              · refine v_iload C dX10_thing_79 rfl ?_
                refine v_iconst C dX10_thing_81 (v := 0) rfl ?_
                refine v_iconst C dX10_thing_82 (v := 5) rfl ?_
                refine v_callS (As := [.int kk, .int 0, .int 5]) (rest := []) C (c_X10_in (xl X) (xg X) kk 0 5 M) pm_X10_in wT_X10_in wM_X10_35 ⟨by decide, by decide⟩ ⟨by decide, by decide⟩ (nle rfl) dX10_thing_83 rfl (dt1 ?_)
                show V X (rmD 9 0 0) M 0 0 [(9, .int 1), (0, .ref md), (1, .int xx), (2, .int yy), (3, .int aa), (4, .int bb), (5, .int hh), (6, .int kk), (7, .int ss), (8, .int tt)] 86 [.int (bI (qin kk 0 5))]
                refine v_ifb_eq (tgt := 112) C dX10_thing_86 (by decide) (fun h86 => ?_) (fun h86 => ?_)
                · have hok : okT xx yy aa bb hh kk ss tt = false := by unfold okT; simp [h7, h17, h26, h36, show xx + aa ≤ 12 from Int32.not_lt.mp h44, show yy + bb ≤ 8 from Int32.not_lt.mp h53, h76, h86]
                  refine v_bipush C dX10_thing_112 (v := (-2)) rfl ?_
                  exact v_iret C E dX10_thing_114 (nle rfl) (nle rfl) ⟨by rw [aThing, hok]; rfl, by rw [if_neg (by rw [hok]; simp)]; exact hM.W⟩
                · refine v_iload C dX10_thing_89 rfl ?_
                  refine v_callS (As := [.int ss]) (rest := []) C (c_X10_isDay (xl X) (xg X) ss M) pm_X10_isDay wT_X10_isDay wM_X10_46 ⟨by decide, by decide⟩ ⟨by decide, by decide⟩ (nle rfl) dX10_thing_91 rfl (dt1 ?_)
                  show V X (rmD 9 0 0) M 0 0 [(9, .int 1), (0, .ref md), (1, .int xx), (2, .int yy), (3, .int aa), (4, .int bb), (5, .int hh), (6, .int kk), (7, .int ss), (8, .int tt)] 94 [.int (bI (qin ss 0 99))]
                  refine v_ifb_eq (tgt := 112) C dX10_thing_94 (by decide) (fun h94 => ?_) (fun h94 => ?_)
                  · have hok : okT xx yy aa bb hh kk ss tt = false := by unfold okT; simp [h7, h17, h26, h36, show xx + aa ≤ 12 from Int32.not_lt.mp h44, show yy + bb ≤ 8 from Int32.not_lt.mp h53, h76, h86, h94]
                    refine v_bipush C dX10_thing_112 (v := (-2)) rfl ?_
                    exact v_iret C E dX10_thing_114 (nle rfl) (nle rfl) ⟨by rw [aThing, hok]; rfl, by rw [if_neg (by rw [hok]; simp)]; exact hM.W⟩
                  · refine v_iload C dX10_thing_97 rfl ?_
                    refine v_callS (As := [.int tt]) (rest := []) C (c_X10_isDay (xl X) (xg X) tt M) pm_X10_isDay wT_X10_isDay wM_X10_46 ⟨by decide, by decide⟩ ⟨by decide, by decide⟩ (nle rfl) dX10_thing_99 rfl (dt1 ?_)
                    show V X (rmD 9 0 0) M 0 0 [(9, .int 1), (0, .ref md), (1, .int xx), (2, .int yy), (3, .int aa), (4, .int bb), (5, .int hh), (6, .int kk), (7, .int ss), (8, .int tt)] 102 [.int (bI (qin tt 0 99))]
                    refine v_ifb_eq (tgt := 112) C dX10_thing_102 (by decide) (fun h102 => ?_) (fun h102 => ?_)
                    · have hok : okT xx yy aa bb hh kk ss tt = false := by unfold okT; simp [h7, h17, h26, h36, show xx + aa ≤ 12 from Int32.not_lt.mp h44, show yy + bb ≤ 8 from Int32.not_lt.mp h53, h76, h86, h94, h102]
                      refine v_bipush C dX10_thing_112 (v := (-2)) rfl ?_
                      exact v_iret C E dX10_thing_114 (nle rfl) (nle rfl) ⟨by rw [aThing, hok]; rfl, by rw [if_neg (by rw [hok]; simp)]; exact hM.W⟩
                    · refine v_iload C dX10_thing_105 rfl ?_
                      refine v_iload C dX10_thing_107 rfl ?_
                      refine v_icmp_le (tgt := 115) C dX10_thing_109 (by decide) (fun h109 => ?_) (fun h109 => ?_)
                      · have g109 : ss ≤ tt := h109
                        have hok : okT xx yy aa bb hh kk ss tt = true := by unfold okT; rw [h7, h17, h26, h36, decide_eq_true (show xx + aa ≤ 12 from Int32.not_lt.mp h44), decide_eq_true (show yy + bb ≤ 8 from Int32.not_lt.mp h53), h76, h86, h94, h102, decide_eq_true g109]; rfl
                        refine v_aload_n C dX10_thing_115 rfl ?_
                        refine v_get C kX10 hO 0 (by decide) wF_X10_39 rfl dX10_thing_116 ?_
                        refine v_bipush C dX10_thing_119 (v := 12) rfl ?_
                        refine v_icmp_ne (tgt := 127) C dX10_thing_121 (by decide) (fun h121 => ?_) (fun h121 => ?_)
                        · have g121 := nI_neN (b := 12) (by omega) (by decide) h121
                          have g44 : xx + aa ≤ 12 := Int32.not_lt.mp h44
                          have g53 : yy + bb ≤ 8 := Int32.not_lt.mp h53
                          obtain ⟨x, hLx, hjx, rfl⟩ := qin_nJ (x := xx) (L := 0) (N := 11) (by decide) (by decide) h7
                          obtain ⟨y, hLy, hjy, rfl⟩ := qin_nJ (x := yy) (L := 0) (N := 7) (by decide) (by decide) h17
                          obtain ⟨a, hLa, hja, rfl⟩ := qin_nJ (x := aa) (L := 1) (N := 4) (by decide) (by decide) h26
                          obtain ⟨b, hLb, hjb, rfl⟩ := qin_nJ (x := bb) (L := 1) (N := 4) (by decide) (by decide) h36
                          obtain ⟨h, hLh, hjh, rfl⟩ := qin_nJ (x := hh) (L := 1) (N := 20) (by decide) (by decide) h76
                          obtain ⟨k, hLk, hjk, rfl⟩ := qin_nJ (x := kk) (L := 0) (N := 5) (by decide) (by decide) h86
                          obtain ⟨s, hLs, hjs, rfl⟩ := qin_nJ (x := ss) (L := 0) (N := 99) (by decide) (by decide) h94
                          obtain ⟨t, hLt, hjt, rfl⟩ := qin_nJ (x := tt) (L := 0) (N := 99) (by decide) (by decide) h102
                          rw [nI_add] at g44 g53
                          have g1 : x + a ≤ 12 := nI_leN (b := 12) (by omega) (by decide) g44
                          have g2 : y + b ≤ 8 := nI_leN (b := 8) (by omega) (by decide) g53
                          have g94 := nI_leN (by omega) (by omega) g109
                          show V X (rmD 9 0 0) M 0 0 [(9, .int 1), (0, .ref md), (1, .int (nI x)), (2, .int (nI y)), (3, .int (nI a)), (4, .int (nI b)), (5, .int (nI h)), (6, .int (nI k)), (7, .int (nI s)), (8, .int (nI t))] 127 []
                          refine v_bipush C dX10_thing_127 (v := 11) rfl ?_
                          refine v_aload_n C dX10_thing_129 rfl ?_
                          refine v_get C kX10 hO 0 (by decide) wF_X10_39 rfl dX10_thing_130 ?_
                          refine v_imul C dX10_thing_133 ?_
                          rw [show (11 : Int32) * nI nT = nI (11 * nT) from ix_mu rfl rfl]
                          show V X (rmD 9 0 0) M 0 0 [(9, .int 1), (0, .ref md), (1, .int (nI x)), (2, .int (nI y)), (3, .int (nI a)), (4, .int (nI b)), (5, .int (nI h)), (6, .int (nI k)), (7, .int (nI s)), (8, .int (nI t))] 134 [.int (nI (11 * nT))]
                          refine v_istore (lv' := [(10, .int (nI (11 * nT))), (9, .int 1), (0, .ref md), (1, .int (nI x)), (2, .int (nI y)), (3, .int (nI a)), (4, .int (nI b)), (5, .int (nI h)), (6, .int (nI k)), (7, .int (nI s)), (8, .int (nI t))]) C dX10_thing_134 hN (by decide) rfl ?_
                          refine v_aload_n C dX10_thing_136 rfl ?_
                          refine v_get C kX10 hO 1 (by decide) wF_X10_7 rfl dX10_thing_137 ?_
                          refine v_iload C dX10_thing_140 rfl ?_
                          refine v_iload_n C dX10_thing_142 rfl ?_
                          refine v_iast C h1_ (vp_in_nI (by omega) (by decide)) dX10_thing_143 ?_
                          show V X (rmD 9 0 0) (mset M t1 (aI (xg X) 132 (upd fT (nI (11 * nT) : Int32).toNatClampNeg (nI x)))) 0 0 [(10, .int (nI (11 * nT))), (9, .int 1), (0, .ref md), (1, .int (nI x)), (2, .int (nI y)), (3, .int (nI a)), (4, .int (nI b)), (5, .int (nI h)), (6, .int (nI k)), (7, .int (nI s)), (8, .int (nI t))] 144 []
                          rw [nI_clamp (n := (11 * nT)) (by omega)]
                          show V X (rmD 9 0 0) (mset M t1 (aI (xg X) 132 (upd fT (11 * nT) (nI x)))) 0 0 [(10, .int (nI (11 * nT))), (9, .int 1), (0, .ref md), (1, .int (nI x)), (2, .int (nI y)), (3, .int (nI a)), (4, .int (nI b)), (5, .int (nI h)), (6, .int (nI k)), (7, .int (nI s)), (8, .int (nI t))] 144 []
                          refine v_aload_n C dX10_thing_144 rfl ?_
                          refine v_get C kX10 ((mset_ne n_md_t1).trans hO) 1 (by decide) wF_X10_7 rfl dX10_thing_145 ?_
                          refine v_iload C dX10_thing_148 rfl ?_
                          refine v_iconst C dX10_thing_150 (v := 1) rfl ?_
                          refine v_iadd C dX10_thing_151 ?_
                          rw [show ((nI (11 * nT)) + 1 : Int32) = nI (11 * nT + 1) from ix_ad rfl rfl]
                          show V X (rmD 9 0 0) (mset M t1 (aI (xg X) 132 (upd fT (11 * nT) (nI x)))) 0 0 [(10, .int (nI (11 * nT))), (9, .int 1), (0, .ref md), (1, .int (nI x)), (2, .int (nI y)), (3, .int (nI a)), (4, .int (nI b)), (5, .int (nI h)), (6, .int (nI k)), (7, .int (nI s)), (8, .int (nI t))] 152 [.int (nI (11 * nT + 1)), .ref t1]
                          refine v_iload_n C dX10_thing_152 rfl ?_
                          refine v_iast C (mset_same _ _ _) (vp_in_nI (by omega) (by decide)) dX10_thing_153 ?_
                          show V X (rmD 9 0 0) (mset (mset M t1 (aI (xg X) 132 (upd fT (11 * nT) (nI x)))) t1 (aI (xg X) 132 (upd (upd fT (11 * nT) (nI x)) (nI (11 * nT + 1) : Int32).toNatClampNeg (nI y)))) 0 0 [(10, .int (nI (11 * nT))), (9, .int 1), (0, .ref md), (1, .int (nI x)), (2, .int (nI y)), (3, .int (nI a)), (4, .int (nI b)), (5, .int (nI h)), (6, .int (nI k)), (7, .int (nI s)), (8, .int (nI t))] 154 []
                          rw [mset_mset, nI_clamp (n := (11 * nT + 1)) (by omega)]
                          show V X (rmD 9 0 0) (mset M t1 (aI (xg X) 132 (upd (upd fT (11 * nT) (nI x)) (11 * nT + 1) (nI y)))) 0 0 [(10, .int (nI (11 * nT))), (9, .int 1), (0, .ref md), (1, .int (nI x)), (2, .int (nI y)), (3, .int (nI a)), (4, .int (nI b)), (5, .int (nI h)), (6, .int (nI k)), (7, .int (nI s)), (8, .int (nI t))] 154 []
                          refine v_aload_n C dX10_thing_154 rfl ?_
                          refine v_get C kX10 ((mset_ne n_md_t1).trans hO) 1 (by decide) wF_X10_7 rfl dX10_thing_155 ?_
                          refine v_iload C dX10_thing_158 rfl ?_
                          refine v_iconst C dX10_thing_160 (v := 2) rfl ?_
                          refine v_iadd C dX10_thing_161 ?_
                          rw [show ((nI (11 * nT)) + 2 : Int32) = nI (11 * nT + 2) from ix_ad rfl rfl]
                          show V X (rmD 9 0 0) (mset M t1 (aI (xg X) 132 (upd (upd fT (11 * nT) (nI x)) (11 * nT + 1) (nI y)))) 0 0 [(10, .int (nI (11 * nT))), (9, .int 1), (0, .ref md), (1, .int (nI x)), (2, .int (nI y)), (3, .int (nI a)), (4, .int (nI b)), (5, .int (nI h)), (6, .int (nI k)), (7, .int (nI s)), (8, .int (nI t))] 162 [.int (nI (11 * nT + 2)), .ref t1]
                          refine v_iload_n C dX10_thing_162 rfl ?_
                          refine v_iast C (mset_same _ _ _) (vp_in_nI (by omega) (by decide)) dX10_thing_163 ?_
                          show V X (rmD 9 0 0) (mset (mset M t1 (aI (xg X) 132 (upd (upd fT (11 * nT) (nI x)) (11 * nT + 1) (nI y)))) t1 (aI (xg X) 132 (upd (upd (upd fT (11 * nT) (nI x)) (11 * nT + 1) (nI y)) (nI (11 * nT + 2) : Int32).toNatClampNeg (nI a)))) 0 0 [(10, .int (nI (11 * nT))), (9, .int 1), (0, .ref md), (1, .int (nI x)), (2, .int (nI y)), (3, .int (nI a)), (4, .int (nI b)), (5, .int (nI h)), (6, .int (nI k)), (7, .int (nI s)), (8, .int (nI t))] 164 []
                          rw [mset_mset, nI_clamp (n := (11 * nT + 2)) (by omega)]
                          show V X (rmD 9 0 0) (mset M t1 (aI (xg X) 132 (upd (upd (upd fT (11 * nT) (nI x)) (11 * nT + 1) (nI y)) (11 * nT + 2) (nI a)))) 0 0 [(10, .int (nI (11 * nT))), (9, .int 1), (0, .ref md), (1, .int (nI x)), (2, .int (nI y)), (3, .int (nI a)), (4, .int (nI b)), (5, .int (nI h)), (6, .int (nI k)), (7, .int (nI s)), (8, .int (nI t))] 164 []
                          refine v_aload_n C dX10_thing_164 rfl ?_
                          refine v_get C kX10 ((mset_ne n_md_t1).trans hO) 1 (by decide) wF_X10_7 rfl dX10_thing_165 ?_
                          refine v_iload C dX10_thing_168 rfl ?_
                          refine v_iconst C dX10_thing_170 (v := 3) rfl ?_
                          refine v_iadd C dX10_thing_171 ?_
                          rw [show ((nI (11 * nT)) + 3 : Int32) = nI (11 * nT + 3) from ix_ad rfl rfl]
                          show V X (rmD 9 0 0) (mset M t1 (aI (xg X) 132 (upd (upd (upd fT (11 * nT) (nI x)) (11 * nT + 1) (nI y)) (11 * nT + 2) (nI a)))) 0 0 [(10, .int (nI (11 * nT))), (9, .int 1), (0, .ref md), (1, .int (nI x)), (2, .int (nI y)), (3, .int (nI a)), (4, .int (nI b)), (5, .int (nI h)), (6, .int (nI k)), (7, .int (nI s)), (8, .int (nI t))] 172 [.int (nI (11 * nT + 3)), .ref t1]
                          refine v_iload C dX10_thing_172 rfl ?_
                          refine v_iast C (mset_same _ _ _) (vp_in_nI (by omega) (by decide)) dX10_thing_174 ?_
                          show V X (rmD 9 0 0) (mset (mset M t1 (aI (xg X) 132 (upd (upd (upd fT (11 * nT) (nI x)) (11 * nT + 1) (nI y)) (11 * nT + 2) (nI a)))) t1 (aI (xg X) 132 (upd (upd (upd (upd fT (11 * nT) (nI x)) (11 * nT + 1) (nI y)) (11 * nT + 2) (nI a)) (nI (11 * nT + 3) : Int32).toNatClampNeg (nI b)))) 0 0 [(10, .int (nI (11 * nT))), (9, .int 1), (0, .ref md), (1, .int (nI x)), (2, .int (nI y)), (3, .int (nI a)), (4, .int (nI b)), (5, .int (nI h)), (6, .int (nI k)), (7, .int (nI s)), (8, .int (nI t))] 175 []
                          rw [mset_mset, nI_clamp (n := (11 * nT + 3)) (by omega)]
                          show V X (rmD 9 0 0) (mset M t1 (aI (xg X) 132 (upd (upd (upd (upd fT (11 * nT) (nI x)) (11 * nT + 1) (nI y)) (11 * nT + 2) (nI a)) (11 * nT + 3) (nI b)))) 0 0 [(10, .int (nI (11 * nT))), (9, .int 1), (0, .ref md), (1, .int (nI x)), (2, .int (nI y)), (3, .int (nI a)), (4, .int (nI b)), (5, .int (nI h)), (6, .int (nI k)), (7, .int (nI s)), (8, .int (nI t))] 175 []
                          refine v_aload_n C dX10_thing_175 rfl ?_
                          refine v_get C kX10 ((mset_ne n_md_t1).trans hO) 1 (by decide) wF_X10_7 rfl dX10_thing_176 ?_
                          refine v_iload C dX10_thing_179 rfl ?_
                          refine v_iconst C dX10_thing_181 (v := 4) rfl ?_
                          refine v_iadd C dX10_thing_182 ?_
                          rw [show ((nI (11 * nT)) + 4 : Int32) = nI (11 * nT + 4) from ix_ad rfl rfl]
                          show V X (rmD 9 0 0) (mset M t1 (aI (xg X) 132 (upd (upd (upd (upd fT (11 * nT) (nI x)) (11 * nT + 1) (nI y)) (11 * nT + 2) (nI a)) (11 * nT + 3) (nI b)))) 0 0 [(10, .int (nI (11 * nT))), (9, .int 1), (0, .ref md), (1, .int (nI x)), (2, .int (nI y)), (3, .int (nI a)), (4, .int (nI b)), (5, .int (nI h)), (6, .int (nI k)), (7, .int (nI s)), (8, .int (nI t))] 183 [.int (nI (11 * nT + 4)), .ref t1]
                          refine v_iload C dX10_thing_183 rfl ?_
                          refine v_iast C (mset_same _ _ _) (vp_in_nI (by omega) (by decide)) dX10_thing_185 ?_
                          show V X (rmD 9 0 0) (mset (mset M t1 (aI (xg X) 132 (upd (upd (upd (upd fT (11 * nT) (nI x)) (11 * nT + 1) (nI y)) (11 * nT + 2) (nI a)) (11 * nT + 3) (nI b)))) t1 (aI (xg X) 132 (upd (upd (upd (upd (upd fT (11 * nT) (nI x)) (11 * nT + 1) (nI y)) (11 * nT + 2) (nI a)) (11 * nT + 3) (nI b)) (nI (11 * nT + 4) : Int32).toNatClampNeg (nI h)))) 0 0 [(10, .int (nI (11 * nT))), (9, .int 1), (0, .ref md), (1, .int (nI x)), (2, .int (nI y)), (3, .int (nI a)), (4, .int (nI b)), (5, .int (nI h)), (6, .int (nI k)), (7, .int (nI s)), (8, .int (nI t))] 186 []
                          rw [mset_mset, nI_clamp (n := (11 * nT + 4)) (by omega)]
                          show V X (rmD 9 0 0) (mset M t1 (aI (xg X) 132 (upd (upd (upd (upd (upd fT (11 * nT) (nI x)) (11 * nT + 1) (nI y)) (11 * nT + 2) (nI a)) (11 * nT + 3) (nI b)) (11 * nT + 4) (nI h)))) 0 0 [(10, .int (nI (11 * nT))), (9, .int 1), (0, .ref md), (1, .int (nI x)), (2, .int (nI y)), (3, .int (nI a)), (4, .int (nI b)), (5, .int (nI h)), (6, .int (nI k)), (7, .int (nI s)), (8, .int (nI t))] 186 []
                          refine v_aload_n C dX10_thing_186 rfl ?_
                          refine v_get C kX10 ((mset_ne n_md_t1).trans hO) 1 (by decide) wF_X10_7 rfl dX10_thing_187 ?_
                          refine v_iload C dX10_thing_190 rfl ?_
                          refine v_iconst C dX10_thing_192 (v := 5) rfl ?_
                          refine v_iadd C dX10_thing_193 ?_
                          rw [show ((nI (11 * nT)) + 5 : Int32) = nI (11 * nT + 5) from ix_ad rfl rfl]
                          show V X (rmD 9 0 0) (mset M t1 (aI (xg X) 132 (upd (upd (upd (upd (upd fT (11 * nT) (nI x)) (11 * nT + 1) (nI y)) (11 * nT + 2) (nI a)) (11 * nT + 3) (nI b)) (11 * nT + 4) (nI h)))) 0 0 [(10, .int (nI (11 * nT))), (9, .int 1), (0, .ref md), (1, .int (nI x)), (2, .int (nI y)), (3, .int (nI a)), (4, .int (nI b)), (5, .int (nI h)), (6, .int (nI k)), (7, .int (nI s)), (8, .int (nI t))] 194 [.int (nI (11 * nT + 5)), .ref t1]
                          refine v_iload C dX10_thing_194 rfl ?_
                          refine v_iast C (mset_same _ _ _) (vp_in_nI (by omega) (by decide)) dX10_thing_196 ?_
                          show V X (rmD 9 0 0) (mset (mset M t1 (aI (xg X) 132 (upd (upd (upd (upd (upd fT (11 * nT) (nI x)) (11 * nT + 1) (nI y)) (11 * nT + 2) (nI a)) (11 * nT + 3) (nI b)) (11 * nT + 4) (nI h)))) t1 (aI (xg X) 132 (upd (upd (upd (upd (upd (upd fT (11 * nT) (nI x)) (11 * nT + 1) (nI y)) (11 * nT + 2) (nI a)) (11 * nT + 3) (nI b)) (11 * nT + 4) (nI h)) (nI (11 * nT + 5) : Int32).toNatClampNeg (nI k)))) 0 0 [(10, .int (nI (11 * nT))), (9, .int 1), (0, .ref md), (1, .int (nI x)), (2, .int (nI y)), (3, .int (nI a)), (4, .int (nI b)), (5, .int (nI h)), (6, .int (nI k)), (7, .int (nI s)), (8, .int (nI t))] 197 []
                          rw [mset_mset, nI_clamp (n := (11 * nT + 5)) (by omega)]
                          show V X (rmD 9 0 0) (mset M t1 (aI (xg X) 132 (upd (upd (upd (upd (upd (upd fT (11 * nT) (nI x)) (11 * nT + 1) (nI y)) (11 * nT + 2) (nI a)) (11 * nT + 3) (nI b)) (11 * nT + 4) (nI h)) (11 * nT + 5) (nI k)))) 0 0 [(10, .int (nI (11 * nT))), (9, .int 1), (0, .ref md), (1, .int (nI x)), (2, .int (nI y)), (3, .int (nI a)), (4, .int (nI b)), (5, .int (nI h)), (6, .int (nI k)), (7, .int (nI s)), (8, .int (nI t))] 197 []
                          refine v_aload_n C dX10_thing_197 rfl ?_
                          refine v_get C kX10 ((mset_ne n_md_t1).trans hO) 1 (by decide) wF_X10_7 rfl dX10_thing_198 ?_
                          refine v_iload C dX10_thing_201 rfl ?_
                          refine v_bipush C dX10_thing_203 (v := 6) rfl ?_
                          refine v_iadd C dX10_thing_205 ?_
                          rw [show ((nI (11 * nT)) + 6 : Int32) = nI (11 * nT + 6) from ix_ad rfl rfl]
                          show V X (rmD 9 0 0) (mset M t1 (aI (xg X) 132 (upd (upd (upd (upd (upd (upd fT (11 * nT) (nI x)) (11 * nT + 1) (nI y)) (11 * nT + 2) (nI a)) (11 * nT + 3) (nI b)) (11 * nT + 4) (nI h)) (11 * nT + 5) (nI k)))) 0 0 [(10, .int (nI (11 * nT))), (9, .int 1), (0, .ref md), (1, .int (nI x)), (2, .int (nI y)), (3, .int (nI a)), (4, .int (nI b)), (5, .int (nI h)), (6, .int (nI k)), (7, .int (nI s)), (8, .int (nI t))] 206 [.int (nI (11 * nT + 6)), .ref t1]
                          refine v_iload C dX10_thing_206 rfl ?_
                          refine v_iast C (mset_same _ _ _) (vp_in_nI (by omega) (by decide)) dX10_thing_208 ?_
                          show V X (rmD 9 0 0) (mset (mset M t1 (aI (xg X) 132 (upd (upd (upd (upd (upd (upd fT (11 * nT) (nI x)) (11 * nT + 1) (nI y)) (11 * nT + 2) (nI a)) (11 * nT + 3) (nI b)) (11 * nT + 4) (nI h)) (11 * nT + 5) (nI k)))) t1 (aI (xg X) 132 (upd (upd (upd (upd (upd (upd (upd fT (11 * nT) (nI x)) (11 * nT + 1) (nI y)) (11 * nT + 2) (nI a)) (11 * nT + 3) (nI b)) (11 * nT + 4) (nI h)) (11 * nT + 5) (nI k)) (nI (11 * nT + 6) : Int32).toNatClampNeg (nI s)))) 0 0 [(10, .int (nI (11 * nT))), (9, .int 1), (0, .ref md), (1, .int (nI x)), (2, .int (nI y)), (3, .int (nI a)), (4, .int (nI b)), (5, .int (nI h)), (6, .int (nI k)), (7, .int (nI s)), (8, .int (nI t))] 209 []
                          rw [mset_mset, nI_clamp (n := (11 * nT + 6)) (by omega)]
                          show V X (rmD 9 0 0) (mset M t1 (aI (xg X) 132 (upd (upd (upd (upd (upd (upd (upd fT (11 * nT) (nI x)) (11 * nT + 1) (nI y)) (11 * nT + 2) (nI a)) (11 * nT + 3) (nI b)) (11 * nT + 4) (nI h)) (11 * nT + 5) (nI k)) (11 * nT + 6) (nI s)))) 0 0 [(10, .int (nI (11 * nT))), (9, .int 1), (0, .ref md), (1, .int (nI x)), (2, .int (nI y)), (3, .int (nI a)), (4, .int (nI b)), (5, .int (nI h)), (6, .int (nI k)), (7, .int (nI s)), (8, .int (nI t))] 209 []
                          refine v_aload_n C dX10_thing_209 rfl ?_
                          refine v_get C kX10 ((mset_ne n_md_t1).trans hO) 1 (by decide) wF_X10_7 rfl dX10_thing_210 ?_
                          refine v_iload C dX10_thing_213 rfl ?_
                          refine v_bipush C dX10_thing_215 (v := 7) rfl ?_
                          refine v_iadd C dX10_thing_217 ?_
                          rw [show ((nI (11 * nT)) + 7 : Int32) = nI (11 * nT + 7) from ix_ad rfl rfl]
                          show V X (rmD 9 0 0) (mset M t1 (aI (xg X) 132 (upd (upd (upd (upd (upd (upd (upd fT (11 * nT) (nI x)) (11 * nT + 1) (nI y)) (11 * nT + 2) (nI a)) (11 * nT + 3) (nI b)) (11 * nT + 4) (nI h)) (11 * nT + 5) (nI k)) (11 * nT + 6) (nI s)))) 0 0 [(10, .int (nI (11 * nT))), (9, .int 1), (0, .ref md), (1, .int (nI x)), (2, .int (nI y)), (3, .int (nI a)), (4, .int (nI b)), (5, .int (nI h)), (6, .int (nI k)), (7, .int (nI s)), (8, .int (nI t))] 218 [.int (nI (11 * nT + 7)), .ref t1]
                          refine v_iload C dX10_thing_218 rfl ?_
                          refine v_iast C (mset_same _ _ _) (vp_in_nI (by omega) (by decide)) dX10_thing_220 ?_
                          show V X (rmD 9 0 0) (mset (mset M t1 (aI (xg X) 132 (upd (upd (upd (upd (upd (upd (upd fT (11 * nT) (nI x)) (11 * nT + 1) (nI y)) (11 * nT + 2) (nI a)) (11 * nT + 3) (nI b)) (11 * nT + 4) (nI h)) (11 * nT + 5) (nI k)) (11 * nT + 6) (nI s)))) t1 (aI (xg X) 132 (upd (upd (upd (upd (upd (upd (upd (upd fT (11 * nT) (nI x)) (11 * nT + 1) (nI y)) (11 * nT + 2) (nI a)) (11 * nT + 3) (nI b)) (11 * nT + 4) (nI h)) (11 * nT + 5) (nI k)) (11 * nT + 6) (nI s)) (nI (11 * nT + 7) : Int32).toNatClampNeg (nI t)))) 0 0 [(10, .int (nI (11 * nT))), (9, .int 1), (0, .ref md), (1, .int (nI x)), (2, .int (nI y)), (3, .int (nI a)), (4, .int (nI b)), (5, .int (nI h)), (6, .int (nI k)), (7, .int (nI s)), (8, .int (nI t))] 221 []
                          rw [mset_mset, nI_clamp (n := (11 * nT + 7)) (by omega)]
                          show V X (rmD 9 0 0) (mset M t1 (aI (xg X) 132 (upd (upd (upd (upd (upd (upd (upd (upd fT (11 * nT) (nI x)) (11 * nT + 1) (nI y)) (11 * nT + 2) (nI a)) (11 * nT + 3) (nI b)) (11 * nT + 4) (nI h)) (11 * nT + 5) (nI k)) (11 * nT + 6) (nI s)) (11 * nT + 7) (nI t)))) 0 0 [(10, .int (nI (11 * nT))), (9, .int 1), (0, .ref md), (1, .int (nI x)), (2, .int (nI y)), (3, .int (nI a)), (4, .int (nI b)), (5, .int (nI h)), (6, .int (nI k)), (7, .int (nI s)), (8, .int (nI t))] 221 []
                          refine v_aload_n C dX10_thing_221 rfl ?_
                          refine v_get C kX10 ((mset_ne n_md_t1).trans hO) 1 (by decide) wF_X10_7 rfl dX10_thing_222 ?_
                          refine v_iload C dX10_thing_225 rfl ?_
                          refine v_bipush C dX10_thing_227 (v := 8) rfl ?_
                          refine v_iadd C dX10_thing_229 ?_
                          rw [show ((nI (11 * nT)) + 8 : Int32) = nI (11 * nT + 8) from ix_ad rfl rfl]
                          show V X (rmD 9 0 0) (mset M t1 (aI (xg X) 132 (upd (upd (upd (upd (upd (upd (upd (upd fT (11 * nT) (nI x)) (11 * nT + 1) (nI y)) (11 * nT + 2) (nI a)) (11 * nT + 3) (nI b)) (11 * nT + 4) (nI h)) (11 * nT + 5) (nI k)) (11 * nT + 6) (nI s)) (11 * nT + 7) (nI t)))) 0 0 [(10, .int (nI (11 * nT))), (9, .int 1), (0, .ref md), (1, .int (nI x)), (2, .int (nI y)), (3, .int (nI a)), (4, .int (nI b)), (5, .int (nI h)), (6, .int (nI k)), (7, .int (nI s)), (8, .int (nI t))] 230 [.int (nI (11 * nT + 8)), .ref t1]
                          refine v_bipush C dX10_thing_230 (v := 8) rfl ?_
                          refine v_iast C (mset_same _ _ _) (vp_in_nI (by omega) (by decide)) dX10_thing_232 ?_
                          show V X (rmD 9 0 0) (mset (mset M t1 (aI (xg X) 132 (upd (upd (upd (upd (upd (upd (upd (upd fT (11 * nT) (nI x)) (11 * nT + 1) (nI y)) (11 * nT + 2) (nI a)) (11 * nT + 3) (nI b)) (11 * nT + 4) (nI h)) (11 * nT + 5) (nI k)) (11 * nT + 6) (nI s)) (11 * nT + 7) (nI t)))) t1 (aI (xg X) 132 (upd (upd (upd (upd (upd (upd (upd (upd (upd fT (11 * nT) (nI x)) (11 * nT + 1) (nI y)) (11 * nT + 2) (nI a)) (11 * nT + 3) (nI b)) (11 * nT + 4) (nI h)) (11 * nT + 5) (nI k)) (11 * nT + 6) (nI s)) (11 * nT + 7) (nI t)) (nI (11 * nT + 8) : Int32).toNatClampNeg 8))) 0 0 [(10, .int (nI (11 * nT))), (9, .int 1), (0, .ref md), (1, .int (nI x)), (2, .int (nI y)), (3, .int (nI a)), (4, .int (nI b)), (5, .int (nI h)), (6, .int (nI k)), (7, .int (nI s)), (8, .int (nI t))] 233 []
                          rw [mset_mset, nI_clamp (n := (11 * nT + 8)) (by omega)]
                          show V X (rmD 9 0 0) (mset M t1 (aI (xg X) 132 (upd (upd (upd (upd (upd (upd (upd (upd (upd fT (11 * nT) (nI x)) (11 * nT + 1) (nI y)) (11 * nT + 2) (nI a)) (11 * nT + 3) (nI b)) (11 * nT + 4) (nI h)) (11 * nT + 5) (nI k)) (11 * nT + 6) (nI s)) (11 * nT + 7) (nI t)) (11 * nT + 8) 8))) 0 0 [(10, .int (nI (11 * nT))), (9, .int 1), (0, .ref md), (1, .int (nI x)), (2, .int (nI y)), (3, .int (nI a)), (4, .int (nI b)), (5, .int (nI h)), (6, .int (nI k)), (7, .int (nI s)), (8, .int (nI t))] 233 []
                          refine v_aload_n C dX10_thing_233 rfl ?_
                          refine v_get C kX10 ((mset_ne n_md_t1).trans hO) 1 (by decide) wF_X10_7 rfl dX10_thing_234 ?_
                          refine v_iload C dX10_thing_237 rfl ?_
                          refine v_bipush C dX10_thing_239 (v := 9) rfl ?_
                          refine v_iadd C dX10_thing_241 ?_
                          rw [show ((nI (11 * nT)) + 9 : Int32) = nI (11 * nT + 9) from ix_ad rfl rfl]
                          show V X (rmD 9 0 0) (mset M t1 (aI (xg X) 132 (upd (upd (upd (upd (upd (upd (upd (upd (upd fT (11 * nT) (nI x)) (11 * nT + 1) (nI y)) (11 * nT + 2) (nI a)) (11 * nT + 3) (nI b)) (11 * nT + 4) (nI h)) (11 * nT + 5) (nI k)) (11 * nT + 6) (nI s)) (11 * nT + 7) (nI t)) (11 * nT + 8) 8))) 0 0 [(10, .int (nI (11 * nT))), (9, .int 1), (0, .ref md), (1, .int (nI x)), (2, .int (nI y)), (3, .int (nI a)), (4, .int (nI b)), (5, .int (nI h)), (6, .int (nI k)), (7, .int (nI s)), (8, .int (nI t))] 242 [.int (nI (11 * nT + 9)), .ref t1]
                          refine v_iconst C dX10_thing_242 (v := 0) rfl ?_
                          refine v_iast C (mset_same _ _ _) (vp_in_nI (by omega) (by decide)) dX10_thing_243 ?_
                          show V X (rmD 9 0 0) (mset (mset M t1 (aI (xg X) 132 (upd (upd (upd (upd (upd (upd (upd (upd (upd fT (11 * nT) (nI x)) (11 * nT + 1) (nI y)) (11 * nT + 2) (nI a)) (11 * nT + 3) (nI b)) (11 * nT + 4) (nI h)) (11 * nT + 5) (nI k)) (11 * nT + 6) (nI s)) (11 * nT + 7) (nI t)) (11 * nT + 8) 8))) t1 (aI (xg X) 132 (upd (upd (upd (upd (upd (upd (upd (upd (upd (upd fT (11 * nT) (nI x)) (11 * nT + 1) (nI y)) (11 * nT + 2) (nI a)) (11 * nT + 3) (nI b)) (11 * nT + 4) (nI h)) (11 * nT + 5) (nI k)) (11 * nT + 6) (nI s)) (11 * nT + 7) (nI t)) (11 * nT + 8) 8) (nI (11 * nT + 9) : Int32).toNatClampNeg 0))) 0 0 [(10, .int (nI (11 * nT))), (9, .int 1), (0, .ref md), (1, .int (nI x)), (2, .int (nI y)), (3, .int (nI a)), (4, .int (nI b)), (5, .int (nI h)), (6, .int (nI k)), (7, .int (nI s)), (8, .int (nI t))] 244 []
                          rw [mset_mset, nI_clamp (n := (11 * nT + 9)) (by omega)]
                          show V X (rmD 9 0 0) (mset M t1 (aI (xg X) 132 (upd (upd (upd (upd (upd (upd (upd (upd (upd (upd fT (11 * nT) (nI x)) (11 * nT + 1) (nI y)) (11 * nT + 2) (nI a)) (11 * nT + 3) (nI b)) (11 * nT + 4) (nI h)) (11 * nT + 5) (nI k)) (11 * nT + 6) (nI s)) (11 * nT + 7) (nI t)) (11 * nT + 8) 8) (11 * nT + 9) 0))) 0 0 [(10, .int (nI (11 * nT))), (9, .int 1), (0, .ref md), (1, .int (nI x)), (2, .int (nI y)), (3, .int (nI a)), (4, .int (nI b)), (5, .int (nI h)), (6, .int (nI k)), (7, .int (nI s)), (8, .int (nI t))] 244 []
                          refine v_aload_n C dX10_thing_244 rfl ?_
                          refine v_get C kX10 ((mset_ne n_md_t1).trans hO) 1 (by decide) wF_X10_7 rfl dX10_thing_245 ?_
                          refine v_iload C dX10_thing_248 rfl ?_
                          refine v_bipush C dX10_thing_250 (v := 10) rfl ?_
                          refine v_iadd C dX10_thing_252 ?_
                          rw [show ((nI (11 * nT)) + 10 : Int32) = nI (11 * nT + 10) from ix_ad rfl rfl]
                          show V X (rmD 9 0 0) (mset M t1 (aI (xg X) 132 (upd (upd (upd (upd (upd (upd (upd (upd (upd (upd fT (11 * nT) (nI x)) (11 * nT + 1) (nI y)) (11 * nT + 2) (nI a)) (11 * nT + 3) (nI b)) (11 * nT + 4) (nI h)) (11 * nT + 5) (nI k)) (11 * nT + 6) (nI s)) (11 * nT + 7) (nI t)) (11 * nT + 8) 8) (11 * nT + 9) 0))) 0 0 [(10, .int (nI (11 * nT))), (9, .int 1), (0, .ref md), (1, .int (nI x)), (2, .int (nI y)), (3, .int (nI a)), (4, .int (nI b)), (5, .int (nI h)), (6, .int (nI k)), (7, .int (nI s)), (8, .int (nI t))] 253 [.int (nI (11 * nT + 10)), .ref t1]
                          refine v_iconst C dX10_thing_253 (v := 0) rfl ?_
                          refine v_iast C (mset_same _ _ _) (vp_in_nI (by omega) (by decide)) dX10_thing_254 ?_
                          show V X (rmD 9 0 0) (mset (mset M t1 (aI (xg X) 132 (upd (upd (upd (upd (upd (upd (upd (upd (upd (upd fT (11 * nT) (nI x)) (11 * nT + 1) (nI y)) (11 * nT + 2) (nI a)) (11 * nT + 3) (nI b)) (11 * nT + 4) (nI h)) (11 * nT + 5) (nI k)) (11 * nT + 6) (nI s)) (11 * nT + 7) (nI t)) (11 * nT + 8) 8) (11 * nT + 9) 0))) t1 (aI (xg X) 132 (upd (upd (upd (upd (upd (upd (upd (upd (upd (upd (upd fT (11 * nT) (nI x)) (11 * nT + 1) (nI y)) (11 * nT + 2) (nI a)) (11 * nT + 3) (nI b)) (11 * nT + 4) (nI h)) (11 * nT + 5) (nI k)) (11 * nT + 6) (nI s)) (11 * nT + 7) (nI t)) (11 * nT + 8) 8) (11 * nT + 9) 0) (nI (11 * nT + 10) : Int32).toNatClampNeg 0))) 0 0 [(10, .int (nI (11 * nT))), (9, .int 1), (0, .ref md), (1, .int (nI x)), (2, .int (nI y)), (3, .int (nI a)), (4, .int (nI b)), (5, .int (nI h)), (6, .int (nI k)), (7, .int (nI s)), (8, .int (nI t))] 255 []
                          rw [mset_mset, nI_clamp (n := (11 * nT + 10)) (by omega)]
                          show V X (rmD 9 0 0) (mset M t1 (aI (xg X) 132 (upd (upd (upd (upd (upd (upd (upd (upd (upd (upd (upd fT (11 * nT) (nI x)) (11 * nT + 1) (nI y)) (11 * nT + 2) (nI a)) (11 * nT + 3) (nI b)) (11 * nT + 4) (nI h)) (11 * nT + 5) (nI k)) (11 * nT + 6) (nI s)) (11 * nT + 7) (nI t)) (11 * nT + 8) 8) (11 * nT + 9) 0) (11 * nT + 10) 0))) 0 0 [(10, .int (nI (11 * nT))), (9, .int 1), (0, .ref md), (1, .int (nI x)), (2, .int (nI y)), (3, .int (nI a)), (4, .int (nI b)), (5, .int (nI h)), (6, .int (nI k)), (7, .int (nI s)), (8, .int (nI t))] 255 []
                          refine v_aload_n C dX10_thing_255 rfl ?_
                          refine v_dup C dX10_thing_256 rfl ?_
                          refine v_get C kX10 ((mset_ne n_md_t1).trans hO) 0 (by decide) wF_X10_39 rfl dX10_thing_257 ?_
                          refine v_iconst C dX10_thing_260 (v := 1) rfl ?_
                          refine v_iadd C dX10_thing_261 ?_
                          rw [nI_1]
                          show V X (rmD 9 0 0) (mset M t1 (aI (xg X) 132 (upd (upd (upd (upd (upd (upd (upd (upd (upd (upd (upd fT (11 * nT) (nI x)) (11 * nT + 1) (nI y)) (11 * nT + 2) (nI a)) (11 * nT + 3) (nI b)) (11 * nT + 4) (nI h)) (11 * nT + 5) (nI k)) (11 * nT + 6) (nI s)) (11 * nT + 7) (nI t)) (11 * nT + 8) 8) (11 * nT + 9) 0) (11 * nT + 10) 0))) 0 0 [(10, .int (nI (11 * nT))), (9, .int 1), (0, .ref md), (1, .int (nI x)), (2, .int (nI y)), (3, .int (nI a)), (4, .int (nI b)), (5, .int (nI h)), (6, .int (nI k)), (7, .int (nI s)), (8, .int (nI t))] 262 [.int (nI (nT + 1)), .ref md]
                          refine v_put C kX10 ((mset_ne n_md_t1).trans hO) 0 (by decide) wF_X10_39 rfl rfl rfl (nle rfl) dX10_thing_262 ?_
                          show V X (rmD 9 0 0) (mset (mset M t1 (aI (xg X) 132 (upd (upd (upd (upd (upd (upd (upd (upd (upd (upd (upd fT (11 * nT) (nI x)) (11 * nT + 1) (nI y)) (11 * nT + 2) (nI a)) (11 * nT + 3) (nI b)) (11 * nT + 4) (nI h)) (11 * nT + 5) (nI k)) (11 * nT + 6) (nI s)) (11 * nT + 7) (nI t)) (11 * nT + 8) 8) (11 * nT + 9) 0) (11 * nT + 10) 0))) md (.inr (10, [.int (nI (nT + 1)), .ref t1, .ref t2, .int (nI nP), .ref t3, .ref t4, .int (nI nS), .ref t5, .ref t6, .ref t7, .ref t8, .int mo]))) 0 0 [(10, .int (nI (11 * nT))), (9, .int 1), (0, .ref md), (1, .int (nI x)), (2, .int (nI y)), (3, .int (nI a)), (4, .int (nI b)), (5, .int (nI h)), (6, .int (nI k)), (7, .int (nI s)), (8, .int (nI t))] 265 []
                          refine v_aload_n C dX10_thing_265 rfl ?_
                          refine v_get C kX10 (mset_same _ _ _) 0 (by decide) wF_X10_39 rfl dX10_thing_266 ?_
                          refine v_iconst C dX10_thing_269 (v := 1) rfl ?_
                          refine v_isub C dX10_thing_270 ?_
                          rw [show nI (nT + 1) - 1 = nI nT from pk_sub (a := nT + 1) (b := 1) (by omega)]
                          show V X (rmD 9 0 0) (mset (mset M t1 (aI (xg X) 132 (upd (upd (upd (upd (upd (upd (upd (upd (upd (upd (upd fT (11 * nT) (nI x)) (11 * nT + 1) (nI y)) (11 * nT + 2) (nI a)) (11 * nT + 3) (nI b)) (11 * nT + 4) (nI h)) (11 * nT + 5) (nI k)) (11 * nT + 6) (nI s)) (11 * nT + 7) (nI t)) (11 * nT + 8) 8) (11 * nT + 9) 0) (11 * nT + 10) 0))) md (.inr (10, [.int (nI (nT + 1)), .ref t1, .ref t2, .int (nI nP), .ref t3, .ref t4, .int (nI nS), .ref t5, .ref t6, .ref t7, .ref t8, .int mo]))) 0 0 [(10, .int (nI (11 * nT))), (9, .int 1), (0, .ref md), (1, .int (nI x)), (2, .int (nI y)), (3, .int (nI a)), (4, .int (nI b)), (5, .int (nI h)), (6, .int (nI k)), (7, .int (nI s)), (8, .int (nI t))] 271 [.int (nI nT)]
                          exact v_iret C E dX10_thing_271 (nle rfl) (nle rfl) ⟨by rw [aThing, hok, if_pos rfl, if_neg g121], by rw [if_pos ⟨hok, by omega⟩]; simp only [nI_clamp (n := x) (show x < 2 ^ 31 by omega), nI_clamp (n := y) (show y < 2 ^ 31 by omega), nI_clamp (n := a) (show a < 2 ^ 31 by omega), nI_clamp (n := b) (show b < 2 ^ 31 by omega), nI_clamp (n := h) (show h < 2 ^ 31 by omega), nI_clamp (n := k) (show k < 2 ^ 31 by omega), nI_clamp (n := s) (show s < 2 ^ 31 by omega), nI_clamp (n := t) (show t < 2 ^ 31 by omega)]; exact ⟨t1, t2, t3, t4, t5, t6, t7, t8, upd (upd (upd (upd (upd (upd (upd (upd (upd (upd (upd fT (11 * nT) (nI x)) (11 * nT + 1) (nI y)) (11 * nT + 2) (nI a)) (11 * nT + 3) (nI b)) (11 * nT + 4) (nI h)) (11 * nT + 5) (nI k)) (11 * nT + 6) (nI s)) (11 * nT + 7) (nI t)) (11 * nT + 8) 8) (11 * nT + 9) 0) (11 * nT + 10) 0, fD, fP, fC, fS, fU, fX, fF, mo, mset_same _ _ _, (mset_ne n_t1_md).trans (mset_same _ _ _), (mset_ne n_t2_md).trans ((mset_ne n_t2_t1).trans h2_), (mset_ne n_t3_md).trans ((mset_ne n_t3_t1).trans h3_), (mset_ne n_t4_md).trans ((mset_ne n_t4_t1).trans h4_), (mset_ne n_t5_md).trans ((mset_ne n_t5_t1).trans h5_), (mset_ne n_t6_md).trans ((mset_ne n_t6_t1).trans h6_), (mset_ne n_t7_md).trans ((mset_ne n_t7_t1).trans h7_), (mset_ne n_t8_md).trans ((mset_ne n_t8_t1).trans h8_), (by omega), bP, bS, (fun j hj => if z : j = nT then (by dsimp only; rw [if_pos z]; exact nw_ok (by omega) (by omega) ⟨hLa, hja⟩ ⟨hLb, hjb⟩ g1 g2 ⟨hLh, hjh⟩ (by omega) g94 (by omega)) else (by dsimp only; rw [if_neg z]; exact okT_ j (by omega))), up_11 cT, (fun j hj d hd => (cD j hj d hd).trans new_row), okP_, cP, cC, cS, cU, bU_, cX, okX, okF_, cF⟩⟩
                        · have g121 := nI_eqN (b := 12) (by omega) (by decide) h121
                          refine v_bipush C dX10_thing_124 (v := (-4)) rfl ?_
                          exact v_iret C E dX10_thing_126 (nle rfl) (nle rfl) ⟨by rw [aThing, hok, if_pos rfl, if_pos g121], by rw [if_neg (by omega)]; exact hM.W⟩
                      · have hok : okT xx yy aa bb hh kk ss tt = false := by unfold okT; simp [h7, h17, h26, h36, show xx + aa ≤ 12 from Int32.not_lt.mp h44, show yy + bb ≤ 8 from Int32.not_lt.mp h53, h76, h86, h94, h102, show ¬ ss ≤ tt from h109]
                        refine v_bipush C dX10_thing_112 (v := (-2)) rfl ?_
                        exact v_iret C E dX10_thing_114 (nle rfl) (nle rfl) ⟨by rw [aThing, hok]; rfl, by rw [if_neg (by rw [hok]; simp)]; exact hM.W⟩

set_option maxHeartbeats 4000000 in
set_option maxRecDepth 100000 in
theorem c_X10_picture (l : Launch) (g : Gm) (M : Mem) (md : Nat) (t1 t2 t3 t4 t5 t6 t7 t8 : Nat) (fT fD fP fC fS fU fX fF : Nat → Int32) (mo : Int32) (nT : Nat) (m : Nat → Nat → Nat) (dB : Nat → Nat → Bool) (nP : Nat) (pf : Nat → Nat → Nat) (cB : Nat → Nat → Bool) (nS : Nat) (sg : Nat → Int32) (ln : Nat → Nat) (tx : Nat → Nat → Int32) (fl : Nat → Nat → Nat) (hM : ModA g M md t1 t2 t3 t4 t5 t6 t7 t8 fT fD fP fC fS fU fX fF mo nT m dB nP pf cB nS sg ln tx fl) (aa bb dd ss ee : Int32) : Ct l g yX10_picture cX10_picture 7 (some .int) 9 0 0 [.ref md, .int aa, .int bb, .int dd, .int ss, .int ee] M (fun v N => v = some (.int (aPicture nP aa bb dd ss ee)) ∧ (if okPc aa bb dd ss ee = true ∧ nP < 10 then ModW g N md nT m dB (nP + 1) (fun i => if i = nP then np aa.toNatClampNeg bb.toNatClampNeg dd.toNatClampNeg ss.toNatClampNeg ee.toNatClampNeg else pf i) (fun i => if i = nP then fun _ => false else cB i) nS sg ln tx fl else ModW g N md nT m dB nP pf cB nS sg ln tx fl)) := by
  refine Ct.of (by decide) (Nat.le_of_ble_eq_true rfl) ?_
  intro X hXl hXg hN C E
  subst hXl; subst hXg
  show V X (rmD 9 0 0) M 0 0 [(0, .ref md), (1, .int aa), (2, .int bb), (3, .int dd), (4, .int ss), (5, .int ee)] 0 []
  obtain ⟨hO, h1_, h2_, h3_, h4_, h5_, h6_, h7_, h8_, bT, bP, bS, okT_, cT, cD, okP_, cP, cC, cS, cU, bU_, cX, okX, okF_, cF⟩ := id hM
  have n_md_t3 := cell_ne hO h3_ (by simp)
  have n_t1_t3 := cell_ne h1_ h3_ (by simp)
  have n_t2_t3 := cell_ne h2_ h3_ (by simp)
  have n_t4_t3 := cell_ne h4_ h3_ (by simp)
  have n_t5_t3 := cell_ne h5_ h3_ (by simp)
  have n_t6_t3 := cell_ne h6_ h3_ (by simp)
  have n_t7_t3 := cell_ne h7_ h3_ (by simp)
  have n_t8_t3 := cell_ne h8_ h3_ (by simp)
  have n_t1_md := cell_ne h1_ hO (by simp)
  have n_t2_md := cell_ne h2_ hO (by simp)
  have n_t3_md := cell_ne h3_ hO (by simp)
  have n_t4_md := cell_ne h4_ hO (by simp)
  have n_t5_md := cell_ne h5_ hO (by simp)
  have n_t6_md := cell_ne h6_ hO (by simp)
  have n_t7_md := cell_ne h7_ hO (by simp)
  have n_t8_md := cell_ne h8_ hO (by simp)
  refine v_iload_n C dX10_picture_0 rfl ?_
  refine v_iconst C dX10_picture_1 (v := 0) rfl ?_
  refine v_bipush C dX10_picture_2 (v := 11) rfl ?_
  refine v_callS (As := [.int aa, .int 0, .int 11]) (rest := []) C (c_X10_in (xl X) (xg X) aa 0 11 M) pm_X10_in wT_X10_in wM_X10_35 ⟨by decide, by decide⟩ ⟨by decide, by decide⟩ (nle rfl) dX10_picture_4 rfl (dt1 ?_)
  show V X (rmD 9 0 0) M 0 0 [(0, .ref md), (1, .int aa), (2, .int bb), (3, .int dd), (4, .int ss), (5, .int ee)] 7 [.int (bI (qin aa 0 11))]
  refine v_ifb_eq (tgt := 53) C dX10_picture_7 (by decide) (fun h7 => ?_) (fun h7 => ?_)
  · have hok : okPc aa bb dd ss ee = false := by unfold okPc; simp [h7]
    refine v_bipush C dX10_picture_53 (v := (-2)) rfl ?_
    exact v_iret C E dX10_picture_55 (nle rfl) (nle rfl) ⟨by rw [aPicture, hok]; rfl, by rw [if_neg (by rw [hok]; simp)]; exact hM.W⟩
  · refine v_iload_n C dX10_picture_10 rfl ?_
    refine v_iconst C dX10_picture_11 (v := 0) rfl ?_
    refine v_bipush C dX10_picture_12 (v := 11) rfl ?_
    refine v_callS (As := [.int bb, .int 0, .int 11]) (rest := []) C (c_X10_in (xl X) (xg X) bb 0 11 M) pm_X10_in wT_X10_in wM_X10_35 ⟨by decide, by decide⟩ ⟨by decide, by decide⟩ (nle rfl) dX10_picture_14 rfl (dt1 ?_)
    show V X (rmD 9 0 0) M 0 0 [(0, .ref md), (1, .int aa), (2, .int bb), (3, .int dd), (4, .int ss), (5, .int ee)] 17 [.int (bI (qin bb 0 11))]
    refine v_ifb_eq (tgt := 53) C dX10_picture_17 (by decide) (fun h17 => ?_) (fun h17 => ?_)
    · have hok : okPc aa bb dd ss ee = false := by unfold okPc; simp [h7, h17]
      refine v_bipush C dX10_picture_53 (v := (-2)) rfl ?_
      exact v_iret C E dX10_picture_55 (nle rfl) (nle rfl) ⟨by rw [aPicture, hok]; rfl, by rw [if_neg (by rw [hok]; simp)]; exact hM.W⟩
    · refine v_iload_n C dX10_picture_20 rfl ?_
      refine v_iload_n C dX10_picture_21 rfl ?_
      refine v_icmp_gt (tgt := 53) C dX10_picture_22 (by decide) (fun h22 => ?_) (fun h22 => ?_)
      · have hok : okPc aa bb dd ss ee = false := by unfold okPc; simp [h7, h17, show ¬ aa ≤ bb from Int32.not_le.mpr h22]
        refine v_bipush C dX10_picture_53 (v := (-2)) rfl ?_
        exact v_iret C E dX10_picture_55 (nle rfl) (nle rfl) ⟨by rw [aPicture, hok]; rfl, by rw [if_neg (by rw [hok]; simp)]; exact hM.W⟩
      · refine v_iload_n C dX10_picture_25 rfl ?_
        refine v_callS (As := [.int dd]) (rest := []) C (c_X10_isDay (xl X) (xg X) dd M) pm_X10_isDay wT_X10_isDay wM_X10_46 ⟨by decide, by decide⟩ ⟨by decide, by decide⟩ (nle rfl) dX10_picture_26 rfl (dt1 ?_)
        show V X (rmD 9 0 0) M 0 0 [(0, .ref md), (1, .int aa), (2, .int bb), (3, .int dd), (4, .int ss), (5, .int ee)] 29 [.int (bI (qin dd 0 99))]
        refine v_ifb_eq (tgt := 53) C dX10_picture_29 (by decide) (fun h29 => ?_) (fun h29 => ?_)
        · have hok : okPc aa bb dd ss ee = false := by unfold okPc; simp [h7, h17, show aa ≤ bb from Int32.not_lt.mp h22, h29]
          refine v_bipush C dX10_picture_53 (v := (-2)) rfl ?_
          exact v_iret C E dX10_picture_55 (nle rfl) (nle rfl) ⟨by rw [aPicture, hok]; rfl, by rw [if_neg (by rw [hok]; simp)]; exact hM.W⟩
        · refine v_iload C dX10_picture_32 rfl ?_
          refine v_iconst C dX10_picture_34 (v := 0) rfl ?_
          refine v_iconst C dX10_picture_35 (v := 3) rfl ?_
          refine v_callS (As := [.int ss, .int 0, .int 3]) (rest := []) C (c_X10_in (xl X) (xg X) ss 0 3 M) pm_X10_in wT_X10_in wM_X10_35 ⟨by decide, by decide⟩ ⟨by decide, by decide⟩ (nle rfl) dX10_picture_36 rfl (dt1 ?_)
          show V X (rmD 9 0 0) M 0 0 [(0, .ref md), (1, .int aa), (2, .int bb), (3, .int dd), (4, .int ss), (5, .int ee)] 39 [.int (bI (qin ss 0 3))]
          refine v_ifb_eq (tgt := 53) C dX10_picture_39 (by decide) (fun h39 => ?_) (fun h39 => ?_)
          · have hok : okPc aa bb dd ss ee = false := by unfold okPc; simp [h7, h17, show aa ≤ bb from Int32.not_lt.mp h22, h29, h39]
            refine v_bipush C dX10_picture_53 (v := (-2)) rfl ?_
            exact v_iret C E dX10_picture_55 (nle rfl) (nle rfl) ⟨by rw [aPicture, hok]; rfl, by rw [if_neg (by rw [hok]; simp)]; exact hM.W⟩
          · refine v_iload C dX10_picture_42 rfl ?_
            refine v_iconst C dX10_picture_44 (v := 0) rfl ?_
            refine v_bipush C dX10_picture_45 (v := 20) rfl ?_
            refine v_callS (As := [.int ee, .int 0, .int 20]) (rest := []) C (c_X10_in (xl X) (xg X) ee 0 20 M) pm_X10_in wT_X10_in wM_X10_35 ⟨by decide, by decide⟩ ⟨by decide, by decide⟩ (nle rfl) dX10_picture_47 rfl (dt1 ?_)
            show V X (rmD 9 0 0) M 0 0 [(0, .ref md), (1, .int aa), (2, .int bb), (3, .int dd), (4, .int ss), (5, .int ee)] 50 [.int (bI (qin ee 0 20))]
            refine v_ifb_ne (tgt := 56) C dX10_picture_50 (by decide) (fun h50 => ?_) (fun h50 => ?_)
            · have g22 : aa ≤ bb := Int32.not_lt.mp h22
              have hok : okPc aa bb dd ss ee = true := by unfold okPc; rw [h7, h17, decide_eq_true g22, h29, h39, h50]; rfl
              refine v_aload_n C dX10_picture_56 rfl ?_
              refine v_get C kX10 hO 3 (by decide) wF_X10_43 rfl dX10_picture_57 ?_
              refine v_bipush C dX10_picture_60 (v := 10) rfl ?_
              refine v_icmp_ne (tgt := 68) C dX10_picture_62 (by decide) (fun h62 => ?_) (fun h62 => ?_)
              · have g62 := nI_neN (b := 10) (by omega) (by decide) h62
                obtain ⟨a, hLa, hja, rfl⟩ := qin_nJ (x := aa) (L := 0) (N := 11) (by decide) (by decide) h7
                obtain ⟨b, hLb, hjb, rfl⟩ := qin_nJ (x := bb) (L := 0) (N := 11) (by decide) (by decide) h17
                obtain ⟨d, hLd, hjd, rfl⟩ := qin_nJ (x := dd) (L := 0) (N := 99) (by decide) (by decide) h29
                obtain ⟨s, hLs, hjs, rfl⟩ := qin_nJ (x := ss) (L := 0) (N := 3) (by decide) (by decide) h39
                obtain ⟨e, hLe, hje, rfl⟩ := qin_nJ (x := ee) (L := 0) (N := 20) (by decide) (by decide) h50
                have g5 := nI_leN (by omega) (by omega) g22
                show V X (rmD 9 0 0) M 0 0 [(0, .ref md), (1, .int (nI a)), (2, .int (nI b)), (3, .int (nI d)), (4, .int (nI s)), (5, .int (nI e))] 68 []
                refine v_iconst C dX10_picture_68 (v := 5) rfl ?_
                refine v_aload_n C dX10_picture_69 rfl ?_
                refine v_get C kX10 hO 3 (by decide) wF_X10_43 rfl dX10_picture_70 ?_
                refine v_imul C dX10_picture_73 ?_
                rw [show (5 : Int32) * nI nP = nI (5 * nP) from ix_mu rfl rfl]
                show V X (rmD 9 0 0) M 0 0 [(0, .ref md), (1, .int (nI a)), (2, .int (nI b)), (3, .int (nI d)), (4, .int (nI s)), (5, .int (nI e))] 74 [.int (nI (5 * nP))]
                refine v_istore (lv' := [(6, .int (nI (5 * nP))), (0, .ref md), (1, .int (nI a)), (2, .int (nI b)), (3, .int (nI d)), (4, .int (nI s)), (5, .int (nI e))]) C dX10_picture_74 hN (by decide) rfl ?_
                refine v_aload_n C dX10_picture_76 rfl ?_
                refine v_get C kX10 hO 4 (by decide) wF_X10_17 rfl dX10_picture_77 ?_
                refine v_iload C dX10_picture_80 rfl ?_
                refine v_iload_n C dX10_picture_82 rfl ?_
                refine v_iast C h3_ (vp_in_nI (by omega) (by decide)) dX10_picture_83 ?_
                show V X (rmD 9 0 0) (mset M t3 (aI (xg X) 50 (upd fP (nI (5 * nP) : Int32).toNatClampNeg (nI a)))) 0 0 [(6, .int (nI (5 * nP))), (0, .ref md), (1, .int (nI a)), (2, .int (nI b)), (3, .int (nI d)), (4, .int (nI s)), (5, .int (nI e))] 84 []
                rw [nI_clamp (n := (5 * nP)) (by omega)]
                show V X (rmD 9 0 0) (mset M t3 (aI (xg X) 50 (upd fP (5 * nP) (nI a)))) 0 0 [(6, .int (nI (5 * nP))), (0, .ref md), (1, .int (nI a)), (2, .int (nI b)), (3, .int (nI d)), (4, .int (nI s)), (5, .int (nI e))] 84 []
                refine v_aload_n C dX10_picture_84 rfl ?_
                refine v_get C kX10 ((mset_ne n_md_t3).trans hO) 4 (by decide) wF_X10_17 rfl dX10_picture_85 ?_
                refine v_iload C dX10_picture_88 rfl ?_
                refine v_iconst C dX10_picture_90 (v := 1) rfl ?_
                refine v_iadd C dX10_picture_91 ?_
                rw [show ((nI (5 * nP)) + 1 : Int32) = nI (5 * nP + 1) from ix_ad rfl rfl]
                show V X (rmD 9 0 0) (mset M t3 (aI (xg X) 50 (upd fP (5 * nP) (nI a)))) 0 0 [(6, .int (nI (5 * nP))), (0, .ref md), (1, .int (nI a)), (2, .int (nI b)), (3, .int (nI d)), (4, .int (nI s)), (5, .int (nI e))] 92 [.int (nI (5 * nP + 1)), .ref t3]
                refine v_iload_n C dX10_picture_92 rfl ?_
                refine v_iast C (mset_same _ _ _) (vp_in_nI (by omega) (by decide)) dX10_picture_93 ?_
                show V X (rmD 9 0 0) (mset (mset M t3 (aI (xg X) 50 (upd fP (5 * nP) (nI a)))) t3 (aI (xg X) 50 (upd (upd fP (5 * nP) (nI a)) (nI (5 * nP + 1) : Int32).toNatClampNeg (nI b)))) 0 0 [(6, .int (nI (5 * nP))), (0, .ref md), (1, .int (nI a)), (2, .int (nI b)), (3, .int (nI d)), (4, .int (nI s)), (5, .int (nI e))] 94 []
                rw [mset_mset, nI_clamp (n := (5 * nP + 1)) (by omega)]
                show V X (rmD 9 0 0) (mset M t3 (aI (xg X) 50 (upd (upd fP (5 * nP) (nI a)) (5 * nP + 1) (nI b)))) 0 0 [(6, .int (nI (5 * nP))), (0, .ref md), (1, .int (nI a)), (2, .int (nI b)), (3, .int (nI d)), (4, .int (nI s)), (5, .int (nI e))] 94 []
                refine v_aload_n C dX10_picture_94 rfl ?_
                refine v_get C kX10 ((mset_ne n_md_t3).trans hO) 4 (by decide) wF_X10_17 rfl dX10_picture_95 ?_
                refine v_iload C dX10_picture_98 rfl ?_
                refine v_iconst C dX10_picture_100 (v := 2) rfl ?_
                refine v_iadd C dX10_picture_101 ?_
                rw [show ((nI (5 * nP)) + 2 : Int32) = nI (5 * nP + 2) from ix_ad rfl rfl]
                show V X (rmD 9 0 0) (mset M t3 (aI (xg X) 50 (upd (upd fP (5 * nP) (nI a)) (5 * nP + 1) (nI b)))) 0 0 [(6, .int (nI (5 * nP))), (0, .ref md), (1, .int (nI a)), (2, .int (nI b)), (3, .int (nI d)), (4, .int (nI s)), (5, .int (nI e))] 102 [.int (nI (5 * nP + 2)), .ref t3]
                refine v_iload_n C dX10_picture_102 rfl ?_
                refine v_iast C (mset_same _ _ _) (vp_in_nI (by omega) (by decide)) dX10_picture_103 ?_
                show V X (rmD 9 0 0) (mset (mset M t3 (aI (xg X) 50 (upd (upd fP (5 * nP) (nI a)) (5 * nP + 1) (nI b)))) t3 (aI (xg X) 50 (upd (upd (upd fP (5 * nP) (nI a)) (5 * nP + 1) (nI b)) (nI (5 * nP + 2) : Int32).toNatClampNeg (nI d)))) 0 0 [(6, .int (nI (5 * nP))), (0, .ref md), (1, .int (nI a)), (2, .int (nI b)), (3, .int (nI d)), (4, .int (nI s)), (5, .int (nI e))] 104 []
                rw [mset_mset, nI_clamp (n := (5 * nP + 2)) (by omega)]
                show V X (rmD 9 0 0) (mset M t3 (aI (xg X) 50 (upd (upd (upd fP (5 * nP) (nI a)) (5 * nP + 1) (nI b)) (5 * nP + 2) (nI d)))) 0 0 [(6, .int (nI (5 * nP))), (0, .ref md), (1, .int (nI a)), (2, .int (nI b)), (3, .int (nI d)), (4, .int (nI s)), (5, .int (nI e))] 104 []
                refine v_aload_n C dX10_picture_104 rfl ?_
                refine v_get C kX10 ((mset_ne n_md_t3).trans hO) 4 (by decide) wF_X10_17 rfl dX10_picture_105 ?_
                refine v_iload C dX10_picture_108 rfl ?_
                refine v_iconst C dX10_picture_110 (v := 3) rfl ?_
                refine v_iadd C dX10_picture_111 ?_
                rw [show ((nI (5 * nP)) + 3 : Int32) = nI (5 * nP + 3) from ix_ad rfl rfl]
                show V X (rmD 9 0 0) (mset M t3 (aI (xg X) 50 (upd (upd (upd fP (5 * nP) (nI a)) (5 * nP + 1) (nI b)) (5 * nP + 2) (nI d)))) 0 0 [(6, .int (nI (5 * nP))), (0, .ref md), (1, .int (nI a)), (2, .int (nI b)), (3, .int (nI d)), (4, .int (nI s)), (5, .int (nI e))] 112 [.int (nI (5 * nP + 3)), .ref t3]
                refine v_iload C dX10_picture_112 rfl ?_
                refine v_iast C (mset_same _ _ _) (vp_in_nI (by omega) (by decide)) dX10_picture_114 ?_
                show V X (rmD 9 0 0) (mset (mset M t3 (aI (xg X) 50 (upd (upd (upd fP (5 * nP) (nI a)) (5 * nP + 1) (nI b)) (5 * nP + 2) (nI d)))) t3 (aI (xg X) 50 (upd (upd (upd (upd fP (5 * nP) (nI a)) (5 * nP + 1) (nI b)) (5 * nP + 2) (nI d)) (nI (5 * nP + 3) : Int32).toNatClampNeg (nI s)))) 0 0 [(6, .int (nI (5 * nP))), (0, .ref md), (1, .int (nI a)), (2, .int (nI b)), (3, .int (nI d)), (4, .int (nI s)), (5, .int (nI e))] 115 []
                rw [mset_mset, nI_clamp (n := (5 * nP + 3)) (by omega)]
                show V X (rmD 9 0 0) (mset M t3 (aI (xg X) 50 (upd (upd (upd (upd fP (5 * nP) (nI a)) (5 * nP + 1) (nI b)) (5 * nP + 2) (nI d)) (5 * nP + 3) (nI s)))) 0 0 [(6, .int (nI (5 * nP))), (0, .ref md), (1, .int (nI a)), (2, .int (nI b)), (3, .int (nI d)), (4, .int (nI s)), (5, .int (nI e))] 115 []
                refine v_aload_n C dX10_picture_115 rfl ?_
                refine v_get C kX10 ((mset_ne n_md_t3).trans hO) 4 (by decide) wF_X10_17 rfl dX10_picture_116 ?_
                refine v_iload C dX10_picture_119 rfl ?_
                refine v_iconst C dX10_picture_121 (v := 4) rfl ?_
                refine v_iadd C dX10_picture_122 ?_
                rw [show ((nI (5 * nP)) + 4 : Int32) = nI (5 * nP + 4) from ix_ad rfl rfl]
                show V X (rmD 9 0 0) (mset M t3 (aI (xg X) 50 (upd (upd (upd (upd fP (5 * nP) (nI a)) (5 * nP + 1) (nI b)) (5 * nP + 2) (nI d)) (5 * nP + 3) (nI s)))) 0 0 [(6, .int (nI (5 * nP))), (0, .ref md), (1, .int (nI a)), (2, .int (nI b)), (3, .int (nI d)), (4, .int (nI s)), (5, .int (nI e))] 123 [.int (nI (5 * nP + 4)), .ref t3]
                refine v_iload C dX10_picture_123 rfl ?_
                refine v_iast C (mset_same _ _ _) (vp_in_nI (by omega) (by decide)) dX10_picture_125 ?_
                show V X (rmD 9 0 0) (mset (mset M t3 (aI (xg X) 50 (upd (upd (upd (upd fP (5 * nP) (nI a)) (5 * nP + 1) (nI b)) (5 * nP + 2) (nI d)) (5 * nP + 3) (nI s)))) t3 (aI (xg X) 50 (upd (upd (upd (upd (upd fP (5 * nP) (nI a)) (5 * nP + 1) (nI b)) (5 * nP + 2) (nI d)) (5 * nP + 3) (nI s)) (nI (5 * nP + 4) : Int32).toNatClampNeg (nI e)))) 0 0 [(6, .int (nI (5 * nP))), (0, .ref md), (1, .int (nI a)), (2, .int (nI b)), (3, .int (nI d)), (4, .int (nI s)), (5, .int (nI e))] 126 []
                rw [mset_mset, nI_clamp (n := (5 * nP + 4)) (by omega)]
                show V X (rmD 9 0 0) (mset M t3 (aI (xg X) 50 (upd (upd (upd (upd (upd fP (5 * nP) (nI a)) (5 * nP + 1) (nI b)) (5 * nP + 2) (nI d)) (5 * nP + 3) (nI s)) (5 * nP + 4) (nI e)))) 0 0 [(6, .int (nI (5 * nP))), (0, .ref md), (1, .int (nI a)), (2, .int (nI b)), (3, .int (nI d)), (4, .int (nI s)), (5, .int (nI e))] 126 []
                refine v_aload_n C dX10_picture_126 rfl ?_
                refine v_dup C dX10_picture_127 rfl ?_
                refine v_get C kX10 ((mset_ne n_md_t3).trans hO) 3 (by decide) wF_X10_43 rfl dX10_picture_128 ?_
                refine v_iconst C dX10_picture_131 (v := 1) rfl ?_
                refine v_iadd C dX10_picture_132 ?_
                rw [nI_1]
                show V X (rmD 9 0 0) (mset M t3 (aI (xg X) 50 (upd (upd (upd (upd (upd fP (5 * nP) (nI a)) (5 * nP + 1) (nI b)) (5 * nP + 2) (nI d)) (5 * nP + 3) (nI s)) (5 * nP + 4) (nI e)))) 0 0 [(6, .int (nI (5 * nP))), (0, .ref md), (1, .int (nI a)), (2, .int (nI b)), (3, .int (nI d)), (4, .int (nI s)), (5, .int (nI e))] 133 [.int (nI (nP + 1)), .ref md]
                refine v_put C kX10 ((mset_ne n_md_t3).trans hO) 3 (by decide) wF_X10_43 rfl rfl rfl (nle rfl) dX10_picture_133 ?_
                show V X (rmD 9 0 0) (mset (mset M t3 (aI (xg X) 50 (upd (upd (upd (upd (upd fP (5 * nP) (nI a)) (5 * nP + 1) (nI b)) (5 * nP + 2) (nI d)) (5 * nP + 3) (nI s)) (5 * nP + 4) (nI e)))) md (.inr (10, [.int (nI nT), .ref t1, .ref t2, .int (nI (nP + 1)), .ref t3, .ref t4, .int (nI nS), .ref t5, .ref t6, .ref t7, .ref t8, .int mo]))) 0 0 [(6, .int (nI (5 * nP))), (0, .ref md), (1, .int (nI a)), (2, .int (nI b)), (3, .int (nI d)), (4, .int (nI s)), (5, .int (nI e))] 136 []
                refine v_aload_n C dX10_picture_136 rfl ?_
                refine v_get C kX10 (mset_same _ _ _) 3 (by decide) wF_X10_43 rfl dX10_picture_137 ?_
                refine v_iconst C dX10_picture_140 (v := 1) rfl ?_
                refine v_isub C dX10_picture_141 ?_
                rw [show nI (nP + 1) - 1 = nI nP from pk_sub (a := nP + 1) (b := 1) (by omega)]
                show V X (rmD 9 0 0) (mset (mset M t3 (aI (xg X) 50 (upd (upd (upd (upd (upd fP (5 * nP) (nI a)) (5 * nP + 1) (nI b)) (5 * nP + 2) (nI d)) (5 * nP + 3) (nI s)) (5 * nP + 4) (nI e)))) md (.inr (10, [.int (nI nT), .ref t1, .ref t2, .int (nI (nP + 1)), .ref t3, .ref t4, .int (nI nS), .ref t5, .ref t6, .ref t7, .ref t8, .int mo]))) 0 0 [(6, .int (nI (5 * nP))), (0, .ref md), (1, .int (nI a)), (2, .int (nI b)), (3, .int (nI d)), (4, .int (nI s)), (5, .int (nI e))] 142 [.int (nI nP)]
                exact v_iret C E dX10_picture_142 (nle rfl) (nle rfl) ⟨by rw [aPicture, hok, if_pos rfl, if_neg g62], by rw [if_pos ⟨hok, by omega⟩]; simp only [nI_clamp (n := a) (show a < 2 ^ 31 by omega), nI_clamp (n := b) (show b < 2 ^ 31 by omega), nI_clamp (n := d) (show d < 2 ^ 31 by omega), nI_clamp (n := s) (show s < 2 ^ 31 by omega), nI_clamp (n := e) (show e < 2 ^ 31 by omega)]; exact ⟨t1, t2, t3, t4, t5, t6, t7, t8, fT, fD, upd (upd (upd (upd (upd fP (5 * nP) (nI a)) (5 * nP + 1) (nI b)) (5 * nP + 2) (nI d)) (5 * nP + 3) (nI s)) (5 * nP + 4) (nI e), fC, fS, fU, fX, fF, mo, mset_same _ _ _, (mset_ne n_t1_md).trans ((mset_ne n_t1_t3).trans h1_), (mset_ne n_t2_md).trans ((mset_ne n_t2_t3).trans h2_), (mset_ne n_t3_md).trans (mset_same _ _ _), (mset_ne n_t4_md).trans ((mset_ne n_t4_t3).trans h4_), (mset_ne n_t5_md).trans ((mset_ne n_t5_t3).trans h5_), (mset_ne n_t6_md).trans ((mset_ne n_t6_t3).trans h6_), (mset_ne n_t7_md).trans ((mset_ne n_t7_t3).trans h7_), (mset_ne n_t8_md).trans ((mset_ne n_t8_t3).trans h8_), bT, (by omega), bS, okT_, cT, cD, (fun j hj => if z : j = nP then (by dsimp only; rw [if_pos z]; unfold okP np; simp; omega) else (by dsimp only; rw [if_neg z]; exact okP_ j (by omega))), up_5 cP, (fun j hj d hd => (cC j hj d hd).trans new_row), cS, cU, bU_, cX, okX, okF_, cF⟩⟩
              · have g62 := nI_eqN (b := 10) (by omega) (by decide) h62
                refine v_bipush C dX10_picture_65 (v := (-4)) rfl ?_
                exact v_iret C E dX10_picture_67 (nle rfl) (nle rfl) ⟨by rw [aPicture, hok, if_pos rfl, if_pos g62], by rw [if_neg (by omega)]; exact hM.W⟩
            · have hok : okPc aa bb dd ss ee = false := by unfold okPc; simp [h7, h17, show aa ≤ bb from Int32.not_lt.mp h22, h29, h39, h50]
              refine v_bipush C dX10_picture_53 (v := (-2)) rfl ?_
              exact v_iret C E dX10_picture_55 (nle rfl) (nle rfl) ⟨by rw [aPicture, hok]; rfl, by rw [if_neg (by rw [hok]; simp)]; exact hM.W⟩

set_option maxHeartbeats 4000000 in
set_option maxRecDepth 100000 in
theorem c_X10_init (l : Launch) (g : Gm) (M : Mem) (md : Nat) (m pf : Nat → Nat → Nat) (dB cB : Nat → Nat → Bool) (hm : M md = some (.inr (10, [.int 0, .null, .null, .int 0, .null, .null, .int 0, .null, .null, .null, .null, .int 0]))) : Ct l g yX10_init cX10_init 1 none 1 8 2619 [.ref md] M (fun v N => v = none ∧ ModW g N md 0 m dB 0 pf cB 0 (fun _ => 0) (fun _ => 0) (fun _ _ => 0) (fun _ _ => 0)) := by
  refine Ct.of (by decide) (Nat.le_of_ble_eq_true rfl) ?_
  intro X hXl hXg hN C E
  subst hXl; subst hXg
  show V X (rmD 1 8 2619) M 0 0 [(0, .ref md)] 0 []
  refine v_aload_n C dX10_init_0 rfl ?_
  refine v_obj C wM_X10_1 wI_java_lang_Object__init____V wC_java_lang_Object__init____V (by decide) (nle rfl) dX10_init_1 ?_
  refine v_aload_n C dX10_init_4 rfl ?_
  refine v_sipush C dX10_init_5 (v := 132) rfl ?_
  refine v_newa C 0 (ty0 := .int) (L := 132) (z := (132, .inl (fun _ => 0))) rfl rfl wA_Jvm_ClassFile_FieldType_int (fun U cA h => h) (fun cA => rfl) (by decide) rfl (by decide) (by decide) (by decide) dX10_init_8 (fun q8 hq8 => ?_)
  show V X (rmD 1 8 2619) (mset M q8 (aI (xg X) 132 (fun _ => 0))) 1 132 [(0, .ref md)] 10 [.ref q8, .ref md]
  refine v_putF C E rfl kX10 ((mset_ne (fresh_ne hm hq8)).trans hm) 1 (by decide) wF_X10_7 rfl rfl rfl rfl (nle rfl) dX10_init_10 ?_
  show V X (rmD 1 8 2619) (mset (mset M q8 (aI (xg X) 132 (fun _ => 0))) md (.inr (10, [.int 0, .ref q8, .null, .int 0, .null, .null, .int 0, .null, .null, .null, .null, .int 0]))) 1 132 [(0, .ref md)] 13 []
  have na1 : md ≠ q8 := fresh_ne hm hq8
  obtain ⟨P1, hP1⟩ : ∃ Z, Z = mset (mset M q8 (aI (xg X) 132 (fun _ => 0))) md (.inr (10, [.int 0, .ref q8, .null, .int 0, .null, .null, .int 0, .null, .null, .null, .null, .int 0])) := ⟨_, rfl⟩
  rw [← hP1]
  have ha1 : P1 md = some (.inr (10, [.int 0, .ref q8, .null, .int 0, .null, .null, .int 0, .null, .null, .null, .null, .int 0])) := by rw [hP1, mset_same]
  have hr8_1 : P1 q8 = some (aI (xg X) 132 (fun _ => 0)) := by rw [hP1, mset_ne (Ne.symm na1), mset_same]
  show V X (rmD 1 8 2619) P1 1 132 [(0, .ref md)] 13 []
  refine v_aload_n C dX10_init_13 rfl ?_
  refine v_sipush C dX10_init_14 (v := 1200) rfl ?_
  refine v_newa C 2 (ty0 := .boolean) (L := 1200) (z := (1200, .inl (fun _ => 0))) rfl rfl wA_Jvm_ClassFile_FieldType_boolean (fun U cA h => h) (fun cA => rfl) (by decide) rfl (by decide) (by decide) (by decide) dX10_init_17 (fun q17 hq17 => ?_)
  show V X (rmD 1 8 2619) (mset P1 q17 (aZ (xg X) 1200 (fun _ => 0))) 2 1332 [(0, .ref md)] 19 [.ref q17, .ref md]
  refine v_putF C E rfl kX10 ((mset_ne (fresh_ne ha1 hq17)).trans ha1) 2 (by decide) wF_X10_13 rfl rfl rfl rfl (nle rfl) dX10_init_19 ?_
  show V X (rmD 1 8 2619) (mset (mset P1 q17 (aZ (xg X) 1200 (fun _ => 0))) md (.inr (10, [.int 0, .ref q8, .ref q17, .int 0, .null, .null, .int 0, .null, .null, .null, .null, .int 0]))) 2 1332 [(0, .ref md)] 22 []
  have na2 : md ≠ q17 := fresh_ne ha1 hq17
  obtain ⟨P2, hP2⟩ : ∃ Z, Z = mset (mset P1 q17 (aZ (xg X) 1200 (fun _ => 0))) md (.inr (10, [.int 0, .ref q8, .ref q17, .int 0, .null, .null, .int 0, .null, .null, .null, .null, .int 0])) := ⟨_, rfl⟩
  rw [← hP2]
  have ha2 : P2 md = some (.inr (10, [.int 0, .ref q8, .ref q17, .int 0, .null, .null, .int 0, .null, .null, .null, .null, .int 0])) := by rw [hP2, mset_same]
  have hr17_2 : P2 q17 = some (aZ (xg X) 1200 (fun _ => 0)) := by rw [hP2, mset_ne (Ne.symm na2), mset_same]
  have hr8_2 : P2 q8 = some (aI (xg X) 132 (fun _ => 0)) := by rw [hP2, mset_ne (Ne.symm na1), mset_ne (fresh_ne hr8_1 hq17)]; exact hr8_1
  show V X (rmD 1 8 2619) P2 2 1332 [(0, .ref md)] 22 []
  refine v_aload_n C dX10_init_22 rfl ?_
  refine v_bipush C dX10_init_23 (v := 50) rfl ?_
  refine v_newa C 0 (ty0 := .int) (L := 50) (z := (50, .inl (fun _ => 0))) rfl rfl wA_Jvm_ClassFile_FieldType_int (fun U cA h => h) (fun cA => rfl) (by decide) rfl (by decide) (by decide) (by decide) dX10_init_25 (fun q25 hq25 => ?_)
  show V X (rmD 1 8 2619) (mset P2 q25 (aI (xg X) 50 (fun _ => 0))) 3 1382 [(0, .ref md)] 27 [.ref q25, .ref md]
  refine v_putF C E rfl kX10 ((mset_ne (fresh_ne ha2 hq25)).trans ha2) 4 (by decide) wF_X10_17 rfl rfl rfl rfl (nle rfl) dX10_init_27 ?_
  show V X (rmD 1 8 2619) (mset (mset P2 q25 (aI (xg X) 50 (fun _ => 0))) md (.inr (10, [.int 0, .ref q8, .ref q17, .int 0, .ref q25, .null, .int 0, .null, .null, .null, .null, .int 0]))) 3 1382 [(0, .ref md)] 30 []
  have na3 : md ≠ q25 := fresh_ne ha2 hq25
  obtain ⟨P3, hP3⟩ : ∃ Z, Z = mset (mset P2 q25 (aI (xg X) 50 (fun _ => 0))) md (.inr (10, [.int 0, .ref q8, .ref q17, .int 0, .ref q25, .null, .int 0, .null, .null, .null, .null, .int 0])) := ⟨_, rfl⟩
  rw [← hP3]
  have ha3 : P3 md = some (.inr (10, [.int 0, .ref q8, .ref q17, .int 0, .ref q25, .null, .int 0, .null, .null, .null, .null, .int 0])) := by rw [hP3, mset_same]
  have hr25_3 : P3 q25 = some (aI (xg X) 50 (fun _ => 0)) := by rw [hP3, mset_ne (Ne.symm na3), mset_same]
  have hr8_3 : P3 q8 = some (aI (xg X) 132 (fun _ => 0)) := by rw [hP3, mset_ne (Ne.symm na1), mset_ne (fresh_ne hr8_2 hq25)]; exact hr8_2
  have hr17_3 : P3 q17 = some (aZ (xg X) 1200 (fun _ => 0)) := by rw [hP3, mset_ne (Ne.symm na2), mset_ne (fresh_ne hr17_2 hq25)]; exact hr17_2
  show V X (rmD 1 8 2619) P3 3 1382 [(0, .ref md)] 30 []
  refine v_aload_n C dX10_init_30 rfl ?_
  refine v_sipush C dX10_init_31 (v := 960) rfl ?_
  refine v_newa C 2 (ty0 := .boolean) (L := 960) (z := (960, .inl (fun _ => 0))) rfl rfl wA_Jvm_ClassFile_FieldType_boolean (fun U cA h => h) (fun cA => rfl) (by decide) rfl (by decide) (by decide) (by decide) dX10_init_34 (fun q34 hq34 => ?_)
  show V X (rmD 1 8 2619) (mset P3 q34 (aZ (xg X) 960 (fun _ => 0))) 4 2342 [(0, .ref md)] 36 [.ref q34, .ref md]
  refine v_putF C E rfl kX10 ((mset_ne (fresh_ne ha3 hq34)).trans ha3) 5 (by decide) wF_X10_20 rfl rfl rfl rfl (nle rfl) dX10_init_36 ?_
  show V X (rmD 1 8 2619) (mset (mset P3 q34 (aZ (xg X) 960 (fun _ => 0))) md (.inr (10, [.int 0, .ref q8, .ref q17, .int 0, .ref q25, .ref q34, .int 0, .null, .null, .null, .null, .int 0]))) 4 2342 [(0, .ref md)] 39 []
  have na4 : md ≠ q34 := fresh_ne ha3 hq34
  obtain ⟨P4, hP4⟩ : ∃ Z, Z = mset (mset P3 q34 (aZ (xg X) 960 (fun _ => 0))) md (.inr (10, [.int 0, .ref q8, .ref q17, .int 0, .ref q25, .ref q34, .int 0, .null, .null, .null, .null, .int 0])) := ⟨_, rfl⟩
  rw [← hP4]
  have ha4 : P4 md = some (.inr (10, [.int 0, .ref q8, .ref q17, .int 0, .ref q25, .ref q34, .int 0, .null, .null, .null, .null, .int 0])) := by rw [hP4, mset_same]
  have hr34_4 : P4 q34 = some (aZ (xg X) 960 (fun _ => 0)) := by rw [hP4, mset_ne (Ne.symm na4), mset_same]
  have hr8_4 : P4 q8 = some (aI (xg X) 132 (fun _ => 0)) := by rw [hP4, mset_ne (Ne.symm na1), mset_ne (fresh_ne hr8_3 hq34)]; exact hr8_3
  have hr17_4 : P4 q17 = some (aZ (xg X) 1200 (fun _ => 0)) := by rw [hP4, mset_ne (Ne.symm na2), mset_ne (fresh_ne hr17_3 hq34)]; exact hr17_3
  have hr25_4 : P4 q25 = some (aI (xg X) 50 (fun _ => 0)) := by rw [hP4, mset_ne (Ne.symm na3), mset_ne (fresh_ne hr25_3 hq34)]; exact hr25_3
  show V X (rmD 1 8 2619) P4 4 2342 [(0, .ref md)] 39 []
  refine v_aload_n C dX10_init_39 rfl ?_
  refine v_bipush C dX10_init_40 (v := 40) rfl ?_
  refine v_newa C 0 (ty0 := .int) (L := 40) (z := (40, .inl (fun _ => 0))) rfl rfl wA_Jvm_ClassFile_FieldType_int (fun U cA h => h) (fun cA => rfl) (by decide) rfl (by decide) (by decide) (by decide) dX10_init_42 (fun q42 hq42 => ?_)
  show V X (rmD 1 8 2619) (mset P4 q42 (aI (xg X) 40 (fun _ => 0))) 5 2382 [(0, .ref md)] 44 [.ref q42, .ref md]
  refine v_putF C E rfl kX10 ((mset_ne (fresh_ne ha4 hq42)).trans ha4) 7 (by decide) wF_X10_23 rfl rfl rfl rfl (nle rfl) dX10_init_44 ?_
  show V X (rmD 1 8 2619) (mset (mset P4 q42 (aI (xg X) 40 (fun _ => 0))) md (.inr (10, [.int 0, .ref q8, .ref q17, .int 0, .ref q25, .ref q34, .int 0, .ref q42, .null, .null, .null, .int 0]))) 5 2382 [(0, .ref md)] 47 []
  have na5 : md ≠ q42 := fresh_ne ha4 hq42
  obtain ⟨P5, hP5⟩ : ∃ Z, Z = mset (mset P4 q42 (aI (xg X) 40 (fun _ => 0))) md (.inr (10, [.int 0, .ref q8, .ref q17, .int 0, .ref q25, .ref q34, .int 0, .ref q42, .null, .null, .null, .int 0])) := ⟨_, rfl⟩
  rw [← hP5]
  have ha5 : P5 md = some (.inr (10, [.int 0, .ref q8, .ref q17, .int 0, .ref q25, .ref q34, .int 0, .ref q42, .null, .null, .null, .int 0])) := by rw [hP5, mset_same]
  have hr42_5 : P5 q42 = some (aI (xg X) 40 (fun _ => 0)) := by rw [hP5, mset_ne (Ne.symm na5), mset_same]
  have hr8_5 : P5 q8 = some (aI (xg X) 132 (fun _ => 0)) := by rw [hP5, mset_ne (Ne.symm na1), mset_ne (fresh_ne hr8_4 hq42)]; exact hr8_4
  have hr17_5 : P5 q17 = some (aZ (xg X) 1200 (fun _ => 0)) := by rw [hP5, mset_ne (Ne.symm na2), mset_ne (fresh_ne hr17_4 hq42)]; exact hr17_4
  have hr25_5 : P5 q25 = some (aI (xg X) 50 (fun _ => 0)) := by rw [hP5, mset_ne (Ne.symm na3), mset_ne (fresh_ne hr25_4 hq42)]; exact hr25_4
  have hr34_5 : P5 q34 = some (aZ (xg X) 960 (fun _ => 0)) := by rw [hP5, mset_ne (Ne.symm na4), mset_ne (fresh_ne hr34_4 hq42)]; exact hr34_4
  show V X (rmD 1 8 2619) P5 5 2382 [(0, .ref md)] 47 []
  refine v_aload_n C dX10_init_47 rfl ?_
  refine v_iconst C dX10_init_48 (v := 5) rfl ?_
  refine v_newa C 0 (ty0 := .int) (L := 5) (z := (5, .inl (fun _ => 0))) rfl rfl wA_Jvm_ClassFile_FieldType_int (fun U cA h => h) (fun cA => rfl) (by decide) rfl (by decide) (by decide) (by decide) dX10_init_49 (fun q49 hq49 => ?_)
  show V X (rmD 1 8 2619) (mset P5 q49 (aI (xg X) 5 (fun _ => 0))) 6 2387 [(0, .ref md)] 51 [.ref q49, .ref md]
  refine v_putF C E rfl kX10 ((mset_ne (fresh_ne ha5 hq49)).trans ha5) 8 (by decide) wF_X10_26 rfl rfl rfl rfl (nle rfl) dX10_init_51 ?_
  show V X (rmD 1 8 2619) (mset (mset P5 q49 (aI (xg X) 5 (fun _ => 0))) md (.inr (10, [.int 0, .ref q8, .ref q17, .int 0, .ref q25, .ref q34, .int 0, .ref q42, .ref q49, .null, .null, .int 0]))) 6 2387 [(0, .ref md)] 54 []
  have na6 : md ≠ q49 := fresh_ne ha5 hq49
  obtain ⟨P6, hP6⟩ : ∃ Z, Z = mset (mset P5 q49 (aI (xg X) 5 (fun _ => 0))) md (.inr (10, [.int 0, .ref q8, .ref q17, .int 0, .ref q25, .ref q34, .int 0, .ref q42, .ref q49, .null, .null, .int 0])) := ⟨_, rfl⟩
  rw [← hP6]
  have ha6 : P6 md = some (.inr (10, [.int 0, .ref q8, .ref q17, .int 0, .ref q25, .ref q34, .int 0, .ref q42, .ref q49, .null, .null, .int 0])) := by rw [hP6, mset_same]
  have hr49_6 : P6 q49 = some (aI (xg X) 5 (fun _ => 0)) := by rw [hP6, mset_ne (Ne.symm na6), mset_same]
  have hr8_6 : P6 q8 = some (aI (xg X) 132 (fun _ => 0)) := by rw [hP6, mset_ne (Ne.symm na1), mset_ne (fresh_ne hr8_5 hq49)]; exact hr8_5
  have hr17_6 : P6 q17 = some (aZ (xg X) 1200 (fun _ => 0)) := by rw [hP6, mset_ne (Ne.symm na2), mset_ne (fresh_ne hr17_5 hq49)]; exact hr17_5
  have hr25_6 : P6 q25 = some (aI (xg X) 50 (fun _ => 0)) := by rw [hP6, mset_ne (Ne.symm na3), mset_ne (fresh_ne hr25_5 hq49)]; exact hr25_5
  have hr34_6 : P6 q34 = some (aZ (xg X) 960 (fun _ => 0)) := by rw [hP6, mset_ne (Ne.symm na4), mset_ne (fresh_ne hr34_5 hq49)]; exact hr34_5
  have hr42_6 : P6 q42 = some (aI (xg X) 40 (fun _ => 0)) := by rw [hP6, mset_ne (Ne.symm na5), mset_ne (fresh_ne hr42_5 hq49)]; exact hr42_5
  show V X (rmD 1 8 2619) P6 6 2387 [(0, .ref md)] 54 []
  refine v_aload_n C dX10_init_54 rfl ?_
  refine v_sipush C dX10_init_55 (v := 200) rfl ?_
  refine v_newa C 0 (ty0 := .int) (L := 200) (z := (200, .inl (fun _ => 0))) rfl rfl wA_Jvm_ClassFile_FieldType_int (fun U cA h => h) (fun cA => rfl) (by decide) rfl (by decide) (by decide) (by decide) dX10_init_58 (fun q58 hq58 => ?_)
  show V X (rmD 1 8 2619) (mset P6 q58 (aI (xg X) 200 (fun _ => 0))) 7 2587 [(0, .ref md)] 60 [.ref q58, .ref md]
  refine v_putF C E rfl kX10 ((mset_ne (fresh_ne ha6 hq58)).trans ha6) 9 (by decide) wF_X10_29 rfl rfl rfl rfl (nle rfl) dX10_init_60 ?_
  show V X (rmD 1 8 2619) (mset (mset P6 q58 (aI (xg X) 200 (fun _ => 0))) md (.inr (10, [.int 0, .ref q8, .ref q17, .int 0, .ref q25, .ref q34, .int 0, .ref q42, .ref q49, .ref q58, .null, .int 0]))) 7 2587 [(0, .ref md)] 63 []
  have na7 : md ≠ q58 := fresh_ne ha6 hq58
  obtain ⟨P7, hP7⟩ : ∃ Z, Z = mset (mset P6 q58 (aI (xg X) 200 (fun _ => 0))) md (.inr (10, [.int 0, .ref q8, .ref q17, .int 0, .ref q25, .ref q34, .int 0, .ref q42, .ref q49, .ref q58, .null, .int 0])) := ⟨_, rfl⟩
  rw [← hP7]
  have ha7 : P7 md = some (.inr (10, [.int 0, .ref q8, .ref q17, .int 0, .ref q25, .ref q34, .int 0, .ref q42, .ref q49, .ref q58, .null, .int 0])) := by rw [hP7, mset_same]
  have hr58_7 : P7 q58 = some (aI (xg X) 200 (fun _ => 0)) := by rw [hP7, mset_ne (Ne.symm na7), mset_same]
  have hr8_7 : P7 q8 = some (aI (xg X) 132 (fun _ => 0)) := by rw [hP7, mset_ne (Ne.symm na1), mset_ne (fresh_ne hr8_6 hq58)]; exact hr8_6
  have hr17_7 : P7 q17 = some (aZ (xg X) 1200 (fun _ => 0)) := by rw [hP7, mset_ne (Ne.symm na2), mset_ne (fresh_ne hr17_6 hq58)]; exact hr17_6
  have hr25_7 : P7 q25 = some (aI (xg X) 50 (fun _ => 0)) := by rw [hP7, mset_ne (Ne.symm na3), mset_ne (fresh_ne hr25_6 hq58)]; exact hr25_6
  have hr34_7 : P7 q34 = some (aZ (xg X) 960 (fun _ => 0)) := by rw [hP7, mset_ne (Ne.symm na4), mset_ne (fresh_ne hr34_6 hq58)]; exact hr34_6
  have hr42_7 : P7 q42 = some (aI (xg X) 40 (fun _ => 0)) := by rw [hP7, mset_ne (Ne.symm na5), mset_ne (fresh_ne hr42_6 hq58)]; exact hr42_6
  have hr49_7 : P7 q49 = some (aI (xg X) 5 (fun _ => 0)) := by rw [hP7, mset_ne (Ne.symm na6), mset_ne (fresh_ne hr49_6 hq58)]; exact hr49_6
  show V X (rmD 1 8 2619) P7 7 2587 [(0, .ref md)] 63 []
  refine v_aload_n C dX10_init_63 rfl ?_
  refine v_bipush C dX10_init_64 (v := 32) rfl ?_
  refine v_newa C 0 (ty0 := .int) (L := 32) (z := (32, .inl (fun _ => 0))) rfl rfl wA_Jvm_ClassFile_FieldType_int (fun U cA h => h) (fun cA => rfl) (by decide) rfl (by decide) (by decide) (by decide) dX10_init_66 (fun q66 hq66 => ?_)
  show V X (rmD 1 8 2619) (mset P7 q66 (aI (xg X) 32 (fun _ => 0))) 8 2619 [(0, .ref md)] 68 [.ref q66, .ref md]
  refine v_putF C E rfl kX10 ((mset_ne (fresh_ne ha7 hq66)).trans ha7) 10 (by decide) wF_X10_32 rfl rfl rfl rfl (nle rfl) dX10_init_68 ?_
  show V X (rmD 1 8 2619) (mset (mset P7 q66 (aI (xg X) 32 (fun _ => 0))) md (.inr (10, [.int 0, .ref q8, .ref q17, .int 0, .ref q25, .ref q34, .int 0, .ref q42, .ref q49, .ref q58, .ref q66, .int 0]))) 8 2619 [(0, .ref md)] 71 []
  have na8 : md ≠ q66 := fresh_ne ha7 hq66
  obtain ⟨P8, hP8⟩ : ∃ Z, Z = mset (mset P7 q66 (aI (xg X) 32 (fun _ => 0))) md (.inr (10, [.int 0, .ref q8, .ref q17, .int 0, .ref q25, .ref q34, .int 0, .ref q42, .ref q49, .ref q58, .ref q66, .int 0])) := ⟨_, rfl⟩
  rw [← hP8]
  have ha8 : P8 md = some (.inr (10, [.int 0, .ref q8, .ref q17, .int 0, .ref q25, .ref q34, .int 0, .ref q42, .ref q49, .ref q58, .ref q66, .int 0])) := by rw [hP8, mset_same]
  have hr66_8 : P8 q66 = some (aI (xg X) 32 (fun _ => 0)) := by rw [hP8, mset_ne (Ne.symm na8), mset_same]
  have hr8_8 : P8 q8 = some (aI (xg X) 132 (fun _ => 0)) := by rw [hP8, mset_ne (Ne.symm na1), mset_ne (fresh_ne hr8_7 hq66)]; exact hr8_7
  have hr17_8 : P8 q17 = some (aZ (xg X) 1200 (fun _ => 0)) := by rw [hP8, mset_ne (Ne.symm na2), mset_ne (fresh_ne hr17_7 hq66)]; exact hr17_7
  have hr25_8 : P8 q25 = some (aI (xg X) 50 (fun _ => 0)) := by rw [hP8, mset_ne (Ne.symm na3), mset_ne (fresh_ne hr25_7 hq66)]; exact hr25_7
  have hr34_8 : P8 q34 = some (aZ (xg X) 960 (fun _ => 0)) := by rw [hP8, mset_ne (Ne.symm na4), mset_ne (fresh_ne hr34_7 hq66)]; exact hr34_7
  have hr42_8 : P8 q42 = some (aI (xg X) 40 (fun _ => 0)) := by rw [hP8, mset_ne (Ne.symm na5), mset_ne (fresh_ne hr42_7 hq66)]; exact hr42_7
  have hr49_8 : P8 q49 = some (aI (xg X) 5 (fun _ => 0)) := by rw [hP8, mset_ne (Ne.symm na6), mset_ne (fresh_ne hr49_7 hq66)]; exact hr49_7
  have hr58_8 : P8 q58 = some (aI (xg X) 200 (fun _ => 0)) := by rw [hP8, mset_ne (Ne.symm na7), mset_ne (fresh_ne hr58_7 hq66)]; exact hr58_7
  show V X (rmD 1 8 2619) P8 8 2619 [(0, .ref md)] 71 []
  refine v_aload_n C dX10_init_71 rfl ?_
  refine v_get C kX10 ha8 8 (by decide) wF_X10_26 rfl dX10_init_72 ?_
  refine v_iconst C dX10_init_75 (v := 0) rfl ?_
  refine v_iconst C dX10_init_76 (v := 0) rfl ?_
  refine v_iast C hr49_8 (show vp_in (nI 0) 5 from vp_in_nI (by decide) (by decide)) dX10_init_77 ?_
  show V X (rmD 1 8 2619) (mset P8 q49 (aI (xg X) 5 (upd (fun _ => 0) (0 : Int32).toNatClampNeg 0))) 8 2619 [(0, .ref md)] 78 []
  exact v_vret C E dX10_init_78 (nle rfl) (nle rfl) ⟨rfl, q8, q17, q25, q34, q42, q49, q58, q66, fun _ => 0, fun _ => 0, fun _ => 0, fun _ => 0, fun _ => 0, upd (fun _ => 0) (0 : Int32).toNatClampNeg 0, fun _ => 0, fun _ => 0, 0, (mset_ne na6).trans ha8, (mset_ne (cell_ne hr8_8 hr49_8 (by simp))).trans hr8_8, (mset_ne (cell_ne hr17_8 hr49_8 (by simp))).trans hr17_8, (mset_ne (cell_ne hr25_8 hr49_8 (by simp))).trans hr25_8, (mset_ne (cell_ne hr34_8 hr49_8 (by simp))).trans hr34_8, (mset_ne (cell_ne hr42_8 hr49_8 (by simp))).trans hr42_8, mset_same _ _ _, (mset_ne (cell_ne hr58_8 hr49_8 (by simp))).trans hr58_8, (mset_ne (cell_ne hr66_8 hr49_8 (by simp))).trans hr66_8, Nat.zero_le _, Nat.zero_le _, Nat.zero_le _, fun k hk => absurd hk (Nat.not_lt_zero k), fun k hk => absurd hk (Nat.not_lt_zero k), fun t ht d hd => by rw [if_neg (Nat.not_lt_zero t)]; rfl, fun k hk => absurd hk (Nat.not_lt_zero k), fun k hk => absurd hk (Nat.not_lt_zero k), fun t ht d hd => by rw [if_neg (Nat.not_lt_zero t)]; rfl, fun k hk => absurd hk (Nat.not_lt_zero k), fun u hu => by unfold upd; split <;> rfl, fun u hu => Nat.zero_le _, fun u hu k hk => absurd hk (Nat.not_lt_zero k), fun u hu hl => absurd hl (Nat.lt_irrefl 0), fun i hi => ⟨Nat.le_refl 0, Nat.zero_le _, Nat.zero_le _, Nat.zero_le _⟩, fun i hi q hq => rfl⟩


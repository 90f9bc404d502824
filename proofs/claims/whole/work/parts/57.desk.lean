/-! Foreign cells beside a contract's own; kinds of cells; the desk's world. -/
def mun (M F : Mem) : Mem := fun a => match M a with
  | some e => some e
  | none => F a
theorem mun_l {M F : Mem} {a : Nat} {e : va_E} (h : M a = some e) : mun M F a = some e := by simp [mun, h]
theorem mun_r {M F : Mem} {a : Nat} (h : M a = none) : mun M F a = F a := by simp [mun, h]
/-- THE FRAME: what a contract says over its own cells, it says beside any others, which stay -/
theorem Ct.frame {l : Launch} {g : Gm} {y : MethodName} {cc : ByteArray} {nL : Nat} {ret : Option FieldType} {d mc ms : Nat} {av : List Value} {M : Mem} {post : Option Value → Mem → Prop} (h : Ct l g y cc nL ret d mc ms av M post) {F : Mem} (hd : ∀ a, F a ≠ none → M a = none) : Ct l g y cc nL ret d mc ms av (mun M F) (fun v N' => ∃ N, post v N ∧ N' = mun N F ∧ ∀ a, F a ≠ none → N a = none) := by
  intro p e h1 h2 h3 s m args below hf happ hP hK
  obtain ⟨rfl, hE, hH, hZ⟩ := hP
  obtain ⟨n, o, a1, a2, a3, ⟨v, M', hv, hp, hH', hdom, hF⟩, L, hFr, hL⟩ := h p e h1 h2 h3 s m _ below hf happ ⟨rfl, hE, ⟨hH.1, fun a x hx => hH.2 a x (mun_l hx)⟩, hZ⟩ trivial
  have hlt : ∀ a x, F a = some x → gB g ≤ a ∧ va_at (gD g) vwCl (a, x) s.heap := fun a x hx => hH.2 a x (by rw [mun_r (hd a (by rw [hx]; simp))]; exact hx)
  have hdis : ∀ a, F a ≠ none → M' a = none := fun a ha => by
    cases hm : M' a with
    | none => rfl
    | some z =>
      exfalso
      obtain ⟨x, hx⟩ := Option.ne_none_iff_exists'.mp ha
      rcases (hdom a (by rw [hm]; simp)).2 with q | q
      · exact q (hd a ha)
      · exact absurd (hlt a x hx).2.lt (Nat.not_lt.mpr q)
  refine ⟨n, o, a1, a2, a3, ⟨v, mun M' F, hv, ⟨M', hp, rfl, hdis⟩, ⟨hH'.1, fun a x hx => ?_⟩, fun a ha => ?_, ⟨hF.1, fun q g1 g2 => hF.2 q g1 (fun z => g2 ⟨z.1, z.2.elim (fun w => Or.inl (fun c => w (by cases hm : M q with | none => rfl | some t => rw [mun_l hm] at c; cases c))) Or.inr⟩)⟩⟩, L, hFr, hL⟩
  · cases hm : M' a with
    | some z => rw [mun_l hm] at hx; cases hx; exact hH'.2 a _ hm
    | none =>
      rw [mun_r hm] at hx
      obtain ⟨q1, q2⟩ := hlt a x hx
      refine ⟨q1, q2.kept (hF.2 a q2.lt (fun z => ?_))⟩
      rcases z.2 with w | w
      · exact w (hd a (by rw [hx]; simp))
      · exact absurd q2.lt (Nat.not_lt.mpr w)
  · cases hm : M' a with
    | some z =>
      have := hdom a (by rw [hm]; simp)
      exact ⟨this.1, this.2.elim (fun w => Or.inl (fun c => w (by cases hq : M a with | none => rfl | some t => rw [mun_l hq] at c; cases c))) Or.inr⟩
    | none =>
      rw [mun_r hm] at ha
      obtain ⟨x, hx⟩ := Option.ne_none_iff_exists'.mp ha
      exact ⟨(hlt a x hx).1, Or.inl (by rw [mun_r (hd a ha)]; exact ha)⟩
theorem Ct.imp {l : Launch} {g : Gm} {y : MethodName} {cc : ByteArray} {nL : Nat} {ret : Option FieldType} {d mc ms : Nat} {av : List Value} {M : Mem} {post post' : Option Value → Mem → Prop} (h : Ct l g y cc nL ret d mc ms av M post) (hi : ∀ v N, post v N → post' v N) : Ct l g y cc nL ret d mc ms av M post' := by
  intro p e h1 h2 h3 s m args below hf happ hP hK
  obtain ⟨n, o, a1, a2, a3, ⟨v, M', hv, hp, hr⟩, hL⟩ := h p e h1 h2 h3 s m args below hf happ hP hK
  exact ⟨n, o, a1, a2, a3, ⟨v, M', hv, hi v M' hp, hr⟩, hL⟩
/-- kinds of cells: an object's number; 100 and an int row's length; 1000 and a long row's; 2000 and a row's of references -/
def kd (e : va_E) : Nat := match e with
  | .inr (c, _) => c
  | .inl (_, n, .inl _) => 100 + n
  | .inl (_, n, .inr (.inl _)) => 1000 + n
  | .inl (_, n, .inr (.inr _)) => 2000 + n
/-- cells of these kinds are the same in N -/
def Keep (M N : Mem) (ks : List Nat) : Prop := ∀ a e, M a = some e → kd e ∈ ks → N a = some e
theorem Keep.rf {M : Mem} {ks : List Nat} : Keep M M ks := fun _ _ h _ => h
theorem Keep.tr {M N O : Mem} {ks : List Nat} (h1 : Keep M N ks) (h2 : Keep N O ks) : Keep M O ks := fun a e h hk => h2 a e (h1 a e h hk) hk
theorem Keep.set {M : Mem} {a : Nat} {e0 : va_E} (h0 : M a = some e0) {ks : List Nat} (hk : kd e0 ∉ ks) (e : va_E) : Keep M (mset M a e) ks := fun b f hb hf => by
  have hn : b ≠ a := fun q => by rw [q, h0] at hb; cases hb; exact hk hf
  rw [mset_ne hn]; exact hb
theorem Keep.new {M : Mem} {a : Nat} (h0 : M a = none) {ks : List Nat} (e : va_E) : Keep M (mset M a e) ks := fun b f hb hf => by
  rw [mset_ne (fresh_ne hb h0)]; exact hb
theorem LandW.keep {g : Gm} {M N : Mem} {la ta : Nat} {th mk dn : Nat → Nat} {nT : Nat} {m : Nat → Nat → Nat} {lo hi : Nat → Int64} (hL : LandW g M la ta th mk dn nT m lo hi) (hN : Keep M N [3, 2012, 6, 111, 7]) : LandW g N la ta th mk dn nT m lo hi := by
  obtain ⟨h1, h2, h3, h4⟩ := hL
  refine ⟨h1, hN _ _ h2 (by simp [kd]), hN _ _ h3 (by simp [kd]), fun i hi => ?_⟩
  obtain ⟨q1, q2, q3, q4⟩ := h4 i hi
  exact ⟨hN _ _ q1 (by simp [kd]), hN _ _ q2 (by simp [kd]), hN _ _ q3 (by simp [kd]), q4⟩
theorem AlbW.keep {g : Gm} {M N : Mem} {al pt : Nat} {pa ca ka ra : Nat → Nat} {nP : Nat} {pf : Nat → Nat → Nat} {pl ph : Nat → Int64} {cn lk : Nat → Nat → Int32} (hA : AlbW g M al pt pa ca ka ra nP pf pl ph cn lk) (hN : Keep M N [0, 2010, 5, 7, 196]) : AlbW g N al pt pa ca ka ra nP pf pl ph cn lk := by
  obtain ⟨a1, a2, a3, a4, a5⟩ := hA
  refine ⟨a1, hN _ _ a2 (by simp [kd]), hN _ _ a3 (by simp [kd]), fun j hj => ?_, a5⟩
  obtain ⟨p1, p2, p3, p4, p5, p6⟩ := a4 j hj
  exact ⟨p1, p2, hN _ _ p3 (by simp [kd]), hN _ _ p4 (by simp [kd]), hN _ _ p5 (by simp [kd]), hN _ _ p6 (by simp [kd])⟩
theorem UseW.keepN {g : Gm} {M N : Mem} {ua sa xa na : Nat} {ta : Nat → Nat} {nS : Nat} {sg : Nat → Int32} {ln : Nat → Nat} {tx : Nat → Nat → Int32} (hU : UseW g M ua sa xa na ta nS sg ln tx) (hN : Keep M N [8, 140, 2005, 105]) : UseW g N ua sa xa na ta nS sg ln tx := by
  obtain ⟨h1, h2, h3, h4, h5, h6⟩ := hU
  refine ⟨h1, hN _ _ h2 (by simp [kd]), hN _ _ h3 (by simp [kd]), hN _ _ h4 (by simp [kd]), hN _ _ h5 (by simp [kd]), fun u hu => ?_⟩
  obtain ⟨q1, q2⟩ := h6 u hu
  exact ⟨hN _ _ q1 (by simp [kd]), q2⟩
theorem FlyW.keep {g : Gm} {M N : Mem} {fy f0 f1 f2 f3 ja jb : Nat} {fl : Nat → Nat → Nat} {ga gb : Nat → Int64} (h : FlyW g M fy f0 f1 f2 f3 ja jb fl ga gb) (hN : Keep M N [2, 108, 1256]) : FlyW g N fy f0 f1 f2 f3 ja jb fl ga gb := by
  obtain ⟨h1, h2, h3, h4, h5, h6, h7, h8, h9⟩ := h
  exact ⟨hN _ _ h1 (by simp [kd]), hN _ _ h2 (by simp [kd]), hN _ _ h3 (by simp [kd]), hN _ _ h4 (by simp [kd]), hN _ _ h5 (by simp [kd]), hN _ _ h6 (by simp [kd]), hN _ _ h7 (by simp [kd]), h8, h9⟩
/-- THE DESK in the cells, all its addresses named -/
def DeskA (g : Gm) (M : Mem) (dk : Nat) (la ta : Nat) (th mk dn : Nat → Nat) (al pt : Nat) (pa ca ka ra : Nat → Nat) (fa va : Nat) (ua sa xa na : Nat) (tA : Nat → Nat) (li xr : Nat) (fy f0 f1 f2 f3 ja jb : Nat) (lo hi pl ph : Nat → Int64) (cn lk : Nat → Nat → Int32) (bc bs : Bool) (vf : Nat → Int32) (cv mv : Int32) (xf : Nat → Int32) (ga gb : Nat → Int64)
    (nT : Nat) (m : Nat → Nat → Nat) (dB : Nat → Nat → Bool) (nP : Nat) (pf : Nat → Nat → Nat) (cB : Nat → Nat → Bool) (nS : Nat) (sg : Nat → Int32) (ln : Nat → Nat) (tx : Nat → Nat → Int32) (fl : Nat → Nat → Nat) : Prop :=
  M dk = some (.inr (9, [.ref la, .ref al, .ref fa, .ref ua, .ref li, .ref fy])) ∧ LandW g M la ta th mk dn nT m lo hi ∧ AlbW g M al pt pa ca ka ra nP pf pl ph cn lk ∧ (M fa = some (.inr (1, [.ref va, .int (bI bc), .int (bI bs)])) ∧ M va = some (aI g 9 vf)) ∧ UseW g M ua sa xa na tA nS sg ln tx ∧ (M li = some (.inr (4, [.ref xr, .int cv, .int mv])) ∧ M xr = some (aI g 96 xf)) ∧ FlyW g M fy f0 f1 f2 f3 ja jb fl ga gb
  ∧ (∀ t, t < nT → ∀ d, d < 100 → tk (lo t) (hi t) d = dB t d) ∧ (∀ p, p < nP → ∀ c, c < 96 → tk (pl p) (ph p) c = cB p c) ∧ (∀ p, p < nP → ∀ c, c < 96 → cn p c = oI (bst m (c % 12) (c / 12) (pf p 2) nT) ∧ lk p c = nI (lookN m nT (pf p) c))
  ∧ (∀ t, t < nT → ∀ u, u < nT → t ≠ u → mk t ≠ mk u ∧ dn t ≠ dn u) ∧ (∀ p, p < nP → xr ≠ ka p ∧ xr ≠ ra p) ∧ ∀ p, p < nP → ∀ t, t < nT → ca p ≠ dn t
/-- THE DESK in the cells -/
def DeskW (g : Gm) (M : Mem) (dk : Nat) (nT : Nat) (m : Nat → Nat → Nat) (dB : Nat → Nat → Bool) (nP : Nat) (pf : Nat → Nat → Nat) (cB : Nat → Nat → Bool) (nS : Nat) (sg : Nat → Int32) (ln : Nat → Nat) (tx : Nat → Nat → Int32) (fl : Nat → Nat → Nat) : Prop :=
  ∃ (la ta : Nat) (th mk dn : Nat → Nat) (al pt : Nat) (pa ca ka ra : Nat → Nat) (fa va : Nat) (ua sa xa na : Nat) (tA : Nat → Nat) (li xr : Nat) (fy f0 f1 f2 f3 ja jb : Nat) (lo hi pl ph : Nat → Int64) (cn lk : Nat → Nat → Int32) (bc bs : Bool) (vf : Nat → Int32) (cv mv : Int32) (xf : Nat → Int32) (ga gb : Nat → Int64), DeskA g M dk la ta th mk dn al pt pa ca ka ra fa va ua sa xa na tA li xr fy f0 f1 f2 f3 ja jb lo hi pl ph cn lk bc bs vf cv mv xf ga gb nT m dB nP pf cB nS sg ln tx fl

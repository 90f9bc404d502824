/-! The law: its own rows; a theorem for each of its cases. -/
/-! THE CLAIM OUT OF ONE WALK OF THE LAW'S BODY. Your part is whole_start (and what it stands on); all else here is the same for every law, but numbers. -/
def R_law : String := "PictureDeskLaw"
def lw_P (b : Addr) (xs : List Int32) (args : Array Value) (s : State) : Prop := args = #[.ref b] ∧ s.IntsAt b xs ∧ xs.length ≤ 4608 ∧ (Jvm.Cond.and given_1 narrow_1).before args s = true
def lw_Q (_ : Array Value) (s : State) (o : Outcome) (t : State) : Prop := o = .returned (some (.int 1)) ∧ Framed s o t [] 600000 7302250
def lw_Z (below : List Frame) (a : Array Value) (s : State) : State → Prop := fun t => ∃ o, t.status = .running ∧ Ended t below o ∧ lw_Q a s o t
/-- the law's own end, with 1 on the stack, nothing written that was there before, its room as the claim has it -/
theorem lw_ret {p : Program} {l : Launch} {e : Env} {s : State} {m : MethodId} {below : List Frame} {meth : Method} {c : Code} {b : Nat} (hx : p.tables.exec = Jvm.exec) (hb : c.code = code) (hr : meth.sig.returnType = ret) (hlocks : meth.locks = false) {pc : Nat} {H : Heap} {ls : Array Slot} (hdg : decode code pc = .ok (.ireturn, 1)) : W p l e room_1 s m #[Value.ref b] below meth c H [] 600000 7302250 (lw_Z below #[Value.ref b] s) (F0 m pc ls [.int 1]) := by
  intro T hT X
  obtain ⟨fs, hret, hrun, hended, hW, hframe⟩ := X.leave (v := some (.int 1)) (hlocks := hlocks) (fun h => by rw [hr] at h; cases h)
  have hmeth' : T.vm.method? m = some meth := X.method'
  refine ⟨T.setFrames fs, ?_, .returned (some (.int 1)), hrun, hended, rfl, ⟨_, rfl⟩, hW, hframe⟩
  jvm_step X.here [X.here.top, hx, hb, hdg, hmeth', hr, ret, narrow_b1]
  (try refine ⟨rfl, ?_⟩); (try refine ⟨rfl, ?_⟩)
  first | (intro acts; rw [hret _ acts rfl rfl rfl]) | rw [hret _ _ rfl rfl rfl]
  exact Steps.refl _
/-- what holds at the law's entry: the machine, the code, the tables' words (any of lw_tbl by 'hts w (by decide +kernel)'), the script of L ints xs at the cell b, what the Statement gives of the start (any of its parts by flat_of_before) -/
def lw_At (p : Program) (s : State) (m : MethodId) (meth : Method) (c : Code) (b L : Nat) (xs : Nat → Int32) : Prop :=
  p.tables.exec = Jvm.exec ∧ c.code = code ∧ meth.sig.returnType = ret ∧ c.maxLocals = 4 ∧ s.vm.findClass R_law = some m.cls ∧ (∀ w ∈ lw_tbl, w.before #[Value.ref b] s = true) ∧ va_X b L xs s s.heap ∧ b < s.heap.size ∧ meth.locks = false ∧ (Jvm.Cond.and given_1 narrow_1).before #[Value.ref b] s = true
def Sx (X : FC) (b L : Nat) (xs : Nat → Int32) : Prop := match X with
  | (_, _, _, s, _, _, _, _, _, _, g, _, _) => va_X b L xs s s.heap ∧ b < s.heap.size ∧ ¬ gA g b
theorem v_sld {X : FC} {y : MethodName} {cc : ByteArray} {R : Room} {M : Mem} {k n pc b L : Nat} {xs : Nat → Int32} {lv : List (Nat × Value)} {rest : List Value} (C : Bx X y cc) (hS : Sx X b L xs) {i : Int32} (hin : vp_in i L) (hd : decode cc pc = .ok (.iaload, 1)) (kk : V X R M k n lv (pc + 1) (.int (xs i.toNatClampNeg) :: rest)) : V X R M k n lv pc (.int i :: .ref b :: rest) := by
  obtain ⟨p, l, e, s, m, args, below, meth, c, Q, g, nL, A⟩ := X
  obtain ⟨hx, hb, hml, hown, hE, hZ, hB⟩ := C
  obtain ⟨hX, hbl, hbA⟩ := hS
  intro H locs ls h1 h2 h3
  exact va_sld hx hb hX hbl hbA (h2.S hB.2.2) hin hd (kk H locs ls h1 h2 h3)
theorem v_slen {X : FC} {y : MethodName} {cc : ByteArray} {R : Room} {M : Mem} {k n pc b L : Nat} {xs : Nat → Int32} {lv : List (Nat × Value)} {rest : List Value} (C : Bx X y cc) (hS : Sx X b L xs) (hd : decode cc pc = .ok (.arraylength, 1)) (kk : V X R M k n lv (pc + 1) (.int (nI L) :: rest)) : V X R M k n lv pc (.ref b :: rest) := by
  obtain ⟨p, l, e, s, m, args, below, meth, c, Q, g, nL, A⟩ := X
  obtain ⟨hx, hb, hml, hown, hE, hZ, hB⟩ := C
  obtain ⟨hX, hbl, hbA⟩ := hS
  intro H locs ls h1 h2 h3
  exact va_slen hx hb hX hbl hbA (h2.S hB.2.2) hd (kk H locs ls h1 h2 h3)
def Lx (X : FC) (b : Nat) : Prop := match X with
  | (_, _, _, s, _, args, below, meth, _, Q, g, _, _) => args = #[Value.ref b] ∧ Q = lw_Z below #[Value.ref b] s ∧ meth.sig.returnType = ret ∧ meth.locks = false ∧ gB g = s.heap.size
theorem v_law {X : FC} {M : Mem} {k n pc b : Nat} {lv : List (Nat × Value)} (C : Bx X yL_law cL_law) (hL : Lx X b) (hd : decode cL_law pc = .ok (.ireturn, 1)) (hk : k ≤ 600000) (hn : n ≤ 7302250) : V X room_1 M k n lv pc [.int 1] := by
  obtain ⟨p, l, e, s, m, args, below, meth, c, Q, g, nL, A⟩ := X
  obtain ⟨hx, hb, hml, hown, hE, hZ, hB⟩ := C
  obtain ⟨rfl, rfl, hr, hlk, hg⟩ := hL
  intro H locs ls h1 h2 h3
  refine va_forget (fun q hq => by have := h2.2.2 q hq; rw [← hg]; exact this) ?_
  refine W.widen (k := 600000) (n := 7302250) hk hn ?_
  exact lw_ret hx hb hr hlk hd
theorem mun_dis {M F : Mem} (h : ∀ a, F a ≠ none → M a = none) : ∀ a, M a ≠ none → F a = none := fun a ha => by
  cases hf : F a with
  | none => rfl
  | some x => exact absurd (h a (by rw [hf]; simp)) ha
theorem mun_comm {M F : Mem} (h : ∀ a, F a ≠ none → M a = none) : mun M F = mun F M := by
  funext a
  cases hm : M a with
  | some x => rw [mun_l hm, mun_r (mun_dis h a (by rw [hm]; simp)), hm]
  | none =>
    rw [mun_r hm]
    cases hf : F a with
    | some x => rw [mun_l hf]
    | none => rw [mun_r hf, hm]
set_option maxHeartbeats 4000000 in
set_option maxRecDepth 100000 in
theorem law_thing {X : FC} {b dk md L i k n : Nat} {xs : Nat → Int32} {D E : Mem} {nT : Nat} {m : Nat → Nat → Nat} {dB : Nat → Nat → Bool} {nP : Nat} {pf : Nat → Nat → Nat} {cB : Nat → Nat → Bool} {nS : Nat} {sg : Nat → Int32} {ln : Nat → Nat} {tx : Nat → Nat → Int32} {fl : Nat → Nat → Nat} (C : Bx X yL_law cL_law) (hN : xn X = 4) (hSx : Sx X b L xs) (hi : i + 9 ≤ L) (hL : L ≤ 4608) (hk : k ≤ 500000) (hn : n ≤ 7000000) (hD : DeskS (xg X) D dk (nT, m, dB, nP, pf, cB, nS, sg, ln, tx, fl)) (hM : ModS (xg X) E md (nT, m, dB, nP, pf, cB, nS, sg, ln, tx, fl)) (hd : ∀ a, E a ≠ none → D a = none) (nx : ∀ (σ : St) (D' E' : Mem) (k' n' : Nat), DeskS (xg X) D' dk σ → ModS (xg X) E' md σ → (∀ a, E' a ≠ none → D' a = none) → k' ≤ k + 4 → n' ≤ n + 202 → V X room_1 (mun D' E') k' n' [(0, .ref b), (1, .ref dk), (2, .ref md), (3, .int (nI i))] 1316 []) : V X room_1 (mun D E) k n [(0, .ref b), (1, .ref dk), (2, .ref md), (3, .int (nI i))] 160 [] := by
  obtain ⟨fs9, hDc⟩ := hD.cell
  obtain ⟨fs10, hMc⟩ := hM.cell
  refine v_aload_n C dL_law_160 rfl ?_
  refine v_aload_n C dL_law_161 rfl ?_
  refine v_iload_n C dL_law_162 rfl ?_
  refine v_iconst C dL_law_163 (v := 1) rfl ?_
  refine v_iadd C dL_law_164 ?_
  rw [show ((nI i) + 1 : Int32) = nI (i + 1) from ix_ad rfl rfl]
  refine v_sld C hSx (vp_in_nI (by omega) (by omega)) dL_law_165 ?_
  rw [nI_clamp (n := i + 1) (by omega)]
  refine v_aload_n C dL_law_166 rfl ?_
  refine v_iload_n C dL_law_167 rfl ?_
  refine v_iconst C dL_law_168 (v := 2) rfl ?_
  refine v_iadd C dL_law_169 ?_
  rw [show ((nI i) + 2 : Int32) = nI (i + 2) from ix_ad rfl rfl]
  refine v_sld C hSx (vp_in_nI (by omega) (by omega)) dL_law_170 ?_
  rw [nI_clamp (n := i + 2) (by omega)]
  refine v_aload_n C dL_law_171 rfl ?_
  refine v_iload_n C dL_law_172 rfl ?_
  refine v_iconst C dL_law_173 (v := 3) rfl ?_
  refine v_iadd C dL_law_174 ?_
  rw [show ((nI i) + 3 : Int32) = nI (i + 3) from ix_ad rfl rfl]
  refine v_sld C hSx (vp_in_nI (by omega) (by omega)) dL_law_175 ?_
  rw [nI_clamp (n := i + 3) (by omega)]
  refine v_aload_n C dL_law_176 rfl ?_
  refine v_iload_n C dL_law_177 rfl ?_
  refine v_iconst C dL_law_178 (v := 4) rfl ?_
  refine v_iadd C dL_law_179 ?_
  rw [show ((nI i) + 4 : Int32) = nI (i + 4) from ix_ad rfl rfl]
  refine v_sld C hSx (vp_in_nI (by omega) (by omega)) dL_law_180 ?_
  rw [nI_clamp (n := i + 4) (by omega)]
  refine v_aload_n C dL_law_181 rfl ?_
  refine v_iload_n C dL_law_182 rfl ?_
  refine v_iconst C dL_law_183 (v := 5) rfl ?_
  refine v_iadd C dL_law_184 ?_
  rw [show ((nI i) + 5 : Int32) = nI (i + 5) from ix_ad rfl rfl]
  refine v_sld C hSx (vp_in_nI (by omega) (by omega)) dL_law_185 ?_
  rw [nI_clamp (n := i + 5) (by omega)]
  refine v_aload_n C dL_law_186 rfl ?_
  refine v_iload_n C dL_law_187 rfl ?_
  refine v_bipush C dL_law_188 (v := 6) rfl ?_
  refine v_iadd C dL_law_190 ?_
  rw [show ((nI i) + 6 : Int32) = nI (i + 6) from ix_ad rfl rfl]
  refine v_sld C hSx (vp_in_nI (by omega) (by omega)) dL_law_191 ?_
  rw [nI_clamp (n := i + 6) (by omega)]
  refine v_aload_n C dL_law_192 rfl ?_
  refine v_iload_n C dL_law_193 rfl ?_
  refine v_bipush C dL_law_194 (v := 7) rfl ?_
  refine v_iadd C dL_law_196 ?_
  rw [show ((nI i) + 7 : Int32) = nI (i + 7) from ix_ad rfl rfl]
  refine v_sld C hSx (vp_in_nI (by omega) (by omega)) dL_law_197 ?_
  rw [nI_clamp (n := i + 7) (by omega)]
  refine v_aload_n C dL_law_198 rfl ?_
  refine v_iload_n C dL_law_199 rfl ?_
  refine v_bipush C dL_law_200 (v := 8) rfl ?_
  refine v_iadd C dL_law_202 ?_
  rw [show ((nI i) + 8 : Int32) = nI (i + 8) from ix_ad rfl rfl]
  refine v_sld C hSx (vp_in_nI (by omega) (by omega)) dL_law_203 ?_
  rw [nI_clamp (n := i + 8) (by omega)]
  refine v_callV (As := [.int (xs (i + 1)), .int (xs (i + 2)), .int (xs (i + 3)), .int (xs (i + 4)), .int (xs (i + 5)), .int (xs (i + 6)), .int (xs (i + 7)), .int (xs (i + 8))]) (rest := []) (b := dk) C ((w_X9_thing (xl X) (xg X) D dk nT m dB nP pf cB nS sg ln tx fl hD (xs (i + 1)) (xs (i + 2)) (xs (i + 3)) (xs (i + 4)) (xs (i + 5)) (xs (i + 6)) (xs (i + 7)) (xs (i + 8))).frame hd) pm_X9_thing wI_X9_thing wS_X9_thing wM_L_13 kX9 (mun_l hDc) ⟨by decide, by decide⟩ ⟨show k + 3 ≤ 600000 by omega, show n + 16 ≤ 7302250 by omega⟩ (nle rfl) dL_law_204 rfl ?_
  rintro _ _ ⟨D1, ⟨rfl, hD1⟩, rfl, hd1⟩
  rw [mun_comm hd1]
  show V X room_1 (mun E D1) (k + 3) (n + 16) [(0, .ref b), (1, .ref dk), (2, .ref md), (3, .int (nI i))] 207 [.int (aThing nT (xs (i + 1)) (xs (i + 2)) (xs (i + 3)) (xs (i + 4)) (xs (i + 5)) (xs (i + 6)) (xs (i + 7)) (xs (i + 8)))]
  refine v_aload_n C dL_law_207 rfl ?_
  refine v_aload_n C dL_law_208 rfl ?_
  refine v_iload_n C dL_law_209 rfl ?_
  refine v_iconst C dL_law_210 (v := 1) rfl ?_
  refine v_iadd C dL_law_211 ?_
  rw [show ((nI i) + 1 : Int32) = nI (i + 1) from ix_ad rfl rfl]
  refine v_sld C hSx (vp_in_nI (by omega) (by omega)) dL_law_212 ?_
  rw [nI_clamp (n := i + 1) (by omega)]
  refine v_aload_n C dL_law_213 rfl ?_
  refine v_iload_n C dL_law_214 rfl ?_
  refine v_iconst C dL_law_215 (v := 2) rfl ?_
  refine v_iadd C dL_law_216 ?_
  rw [show ((nI i) + 2 : Int32) = nI (i + 2) from ix_ad rfl rfl]
  refine v_sld C hSx (vp_in_nI (by omega) (by omega)) dL_law_217 ?_
  rw [nI_clamp (n := i + 2) (by omega)]
  refine v_aload_n C dL_law_218 rfl ?_
  refine v_iload_n C dL_law_219 rfl ?_
  refine v_iconst C dL_law_220 (v := 3) rfl ?_
  refine v_iadd C dL_law_221 ?_
  rw [show ((nI i) + 3 : Int32) = nI (i + 3) from ix_ad rfl rfl]
  refine v_sld C hSx (vp_in_nI (by omega) (by omega)) dL_law_222 ?_
  rw [nI_clamp (n := i + 3) (by omega)]
  refine v_aload_n C dL_law_223 rfl ?_
  refine v_iload_n C dL_law_224 rfl ?_
  refine v_iconst C dL_law_225 (v := 4) rfl ?_
  refine v_iadd C dL_law_226 ?_
  rw [show ((nI i) + 4 : Int32) = nI (i + 4) from ix_ad rfl rfl]
  refine v_sld C hSx (vp_in_nI (by omega) (by omega)) dL_law_227 ?_
  rw [nI_clamp (n := i + 4) (by omega)]
  refine v_aload_n C dL_law_228 rfl ?_
  refine v_iload_n C dL_law_229 rfl ?_
  refine v_iconst C dL_law_230 (v := 5) rfl ?_
  refine v_iadd C dL_law_231 ?_
  rw [show ((nI i) + 5 : Int32) = nI (i + 5) from ix_ad rfl rfl]
  refine v_sld C hSx (vp_in_nI (by omega) (by omega)) dL_law_232 ?_
  rw [nI_clamp (n := i + 5) (by omega)]
  refine v_aload_n C dL_law_233 rfl ?_
  refine v_iload_n C dL_law_234 rfl ?_
  refine v_bipush C dL_law_235 (v := 6) rfl ?_
  refine v_iadd C dL_law_237 ?_
  rw [show ((nI i) + 6 : Int32) = nI (i + 6) from ix_ad rfl rfl]
  refine v_sld C hSx (vp_in_nI (by omega) (by omega)) dL_law_238 ?_
  rw [nI_clamp (n := i + 6) (by omega)]
  refine v_aload_n C dL_law_239 rfl ?_
  refine v_iload_n C dL_law_240 rfl ?_
  refine v_bipush C dL_law_241 (v := 7) rfl ?_
  refine v_iadd C dL_law_243 ?_
  rw [show ((nI i) + 7 : Int32) = nI (i + 7) from ix_ad rfl rfl]
  refine v_sld C hSx (vp_in_nI (by omega) (by omega)) dL_law_244 ?_
  rw [nI_clamp (n := i + 7) (by omega)]
  refine v_aload_n C dL_law_245 rfl ?_
  refine v_iload_n C dL_law_246 rfl ?_
  refine v_bipush C dL_law_247 (v := 8) rfl ?_
  refine v_iadd C dL_law_249 ?_
  rw [show ((nI i) + 8 : Int32) = nI (i + 8) from ix_ad rfl rfl]
  refine v_sld C hSx (vp_in_nI (by omega) (by omega)) dL_law_250 ?_
  rw [nI_clamp (n := i + 8) (by omega)]
  refine v_callV (As := [.int (xs (i + 1)), .int (xs (i + 2)), .int (xs (i + 3)), .int (xs (i + 4)), .int (xs (i + 5)), .int (xs (i + 6)), .int (xs (i + 7)), .int (xs (i + 8))]) (rest := [.int (aThing nT (xs (i + 1)) (xs (i + 2)) (xs (i + 3)) (xs (i + 4)) (xs (i + 5)) (xs (i + 6)) (xs (i + 7)) (xs (i + 8)))]) (b := md) C ((w_X10_thing (xl X) (xg X) E md nT m dB nP pf cB nS sg ln tx fl hM (xs (i + 1)) (xs (i + 2)) (xs (i + 3)) (xs (i + 4)) (xs (i + 5)) (xs (i + 6)) (xs (i + 7)) (xs (i + 8))).frame (mun_dis hd1)) pm_X10_thing wI_X10_thing wS_X10_thing wM_L_17 kX10 (mun_l hMc) ⟨by decide, by decide⟩ ⟨show k + 3 + 0 ≤ 600000 by omega, show n + 16 + 0 ≤ 7302250 by omega⟩ (nle rfl) dL_law_251 rfl ?_
  rintro _ _ ⟨E1, ⟨rfl, hM1⟩, rfl, hd2⟩
  show V X room_1 (mun E1 D1) (k + 3) (n + 16) [(0, .ref b), (1, .ref dk), (2, .ref md), (3, .int (nI i))] 254 [.int (aThing nT (xs (i + 1)) (xs (i + 2)) (xs (i + 3)) (xs (i + 4)) (xs (i + 5)) (xs (i + 6)) (xs (i + 7)) (xs (i + 8))), .int (aThing nT (xs (i + 1)) (xs (i + 2)) (xs (i + 3)) (xs (i + 4)) (xs (i + 5)) (xs (i + 6)) (xs (i + 7)) (xs (i + 8)))]
  refine v_icmp_eq (tgt := 1316) C dL_law_254 (by decide) (fun h254 => ?_) (fun hbad => absurd hbad (not_not_intro rfl))
  rw [mun_comm hd2]
  exact nx _ D1 E1 _ _ hD1 hM1 (mun_dis hd2) (by omega) (by omega)
set_option maxHeartbeats 4000000 in
set_option maxRecDepth 100000 in
theorem law_of {X : FC} {b dk md L i k n : Nat} {xs : Nat → Int32} {D E : Mem} {nT : Nat} {m : Nat → Nat → Nat} {dB : Nat → Nat → Bool} {nP : Nat} {pf : Nat → Nat → Nat} {cB : Nat → Nat → Bool} {nS : Nat} {sg : Nat → Int32} {ln : Nat → Nat} {tx : Nat → Nat → Int32} {fl : Nat → Nat → Nat} (C : Bx X yL_law cL_law) (hN : xn X = 4) (hSx : Sx X b L xs) (hi : i + 9 ≤ L) (hL : L ≤ 4608) (hk : k ≤ 500000) (hn : n ≤ 7000000) (hD : DeskS (xg X) D dk (nT, m, dB, nP, pf, cB, nS, sg, ln, tx, fl)) (hM : ModS (xg X) E md (nT, m, dB, nP, pf, cB, nS, sg, ln, tx, fl)) (hd : ∀ a, E a ≠ none → D a = none) (nx : ∀ (σ : St) (D' E' : Mem) (k' n' : Nat), DeskS (xg X) D' dk σ → ModS (xg X) E' md σ → (∀ a, E' a ≠ none → D' a = none) → k' ≤ k + 4 → n' ≤ n + 202 → V X room_1 (mun D' E') k' n' [(0, .ref b), (1, .ref dk), (2, .ref md), (3, .int (nI i))] 1316 []) : V X room_1 (mun D E) k n [(0, .ref b), (1, .ref dk), (2, .ref md), (3, .int (nI i))] 259 [] := by
  obtain ⟨fs9, hDc⟩ := hD.cell
  obtain ⟨fs10, hMc⟩ := hM.cell
  refine v_aload_n C dL_law_259 rfl ?_
  refine v_aload_n C dL_law_260 rfl ?_
  refine v_iload_n C dL_law_261 rfl ?_
  refine v_iconst C dL_law_262 (v := 1) rfl ?_
  refine v_iadd C dL_law_263 ?_
  rw [show ((nI i) + 1 : Int32) = nI (i + 1) from ix_ad rfl rfl]
  refine v_sld C hSx (vp_in_nI (by omega) (by omega)) dL_law_264 ?_
  rw [nI_clamp (n := i + 1) (by omega)]
  refine v_aload_n C dL_law_265 rfl ?_
  refine v_iload_n C dL_law_266 rfl ?_
  refine v_iconst C dL_law_267 (v := 2) rfl ?_
  refine v_iadd C dL_law_268 ?_
  rw [show ((nI i) + 2 : Int32) = nI (i + 2) from ix_ad rfl rfl]
  refine v_sld C hSx (vp_in_nI (by omega) (by omega)) dL_law_269 ?_
  rw [nI_clamp (n := i + 2) (by omega)]
  refine v_callV (As := [.int (xs (i + 1)), .int (xs (i + 2))]) (rest := []) (b := dk) C ((w_X9_of (xl X) (xg X) D dk nT m dB nP pf cB nS sg ln tx fl hD (xs (i + 1)) (xs (i + 2))).frame hd) pm_X9_of wI_X9_of wS_X9_of wM_L_18 kX9 (mun_l hDc) ⟨by decide, by decide⟩ ⟨show k + 0 ≤ 600000 by omega, show n + 0 ≤ 7302250 by omega⟩ (nle rfl) dL_law_270 rfl ?_
  rintro _ _ ⟨D1, ⟨rfl, hD1⟩, rfl, hd1⟩
  rw [mun_comm hd1]
  show V X room_1 (mun E D1) k n [(0, .ref b), (1, .ref dk), (2, .ref md), (3, .int (nI i))] 273 [.int (aOf nT m (xs (i + 1)) (xs (i + 2)))]
  refine v_aload_n C dL_law_273 rfl ?_
  refine v_aload_n C dL_law_274 rfl ?_
  refine v_iload_n C dL_law_275 rfl ?_
  refine v_iconst C dL_law_276 (v := 1) rfl ?_
  refine v_iadd C dL_law_277 ?_
  rw [show ((nI i) + 1 : Int32) = nI (i + 1) from ix_ad rfl rfl]
  refine v_sld C hSx (vp_in_nI (by omega) (by omega)) dL_law_278 ?_
  rw [nI_clamp (n := i + 1) (by omega)]
  refine v_aload_n C dL_law_279 rfl ?_
  refine v_iload_n C dL_law_280 rfl ?_
  refine v_iconst C dL_law_281 (v := 2) rfl ?_
  refine v_iadd C dL_law_282 ?_
  rw [show ((nI i) + 2 : Int32) = nI (i + 2) from ix_ad rfl rfl]
  refine v_sld C hSx (vp_in_nI (by omega) (by omega)) dL_law_283 ?_
  rw [nI_clamp (n := i + 2) (by omega)]
  refine v_callV (As := [.int (xs (i + 1)), .int (xs (i + 2))]) (rest := [.int (aOf nT m (xs (i + 1)) (xs (i + 2)))]) (b := md) C ((w_X10_of (xl X) (xg X) E md nT m dB nP pf cB nS sg ln tx fl hM (xs (i + 1)) (xs (i + 2))).frame (mun_dis hd1)) pm_X10_of wI_X10_of wS_X10_of wM_L_22 kX10 (mun_l hMc) ⟨by decide, by decide⟩ ⟨show k + 0 ≤ 600000 by omega, show n + 0 ≤ 7302250 by omega⟩ (nle rfl) dL_law_284 rfl ?_
  rintro _ _ ⟨E1, ⟨rfl, hM1⟩, rfl, hd2⟩
  show V X room_1 (mun E1 D1) k n [(0, .ref b), (1, .ref dk), (2, .ref md), (3, .int (nI i))] 287 [.int (aOf nT m (xs (i + 1)) (xs (i + 2))), .int (aOf nT m (xs (i + 1)) (xs (i + 2)))]
  refine v_icmp_eq (tgt := 1316) C dL_law_287 (by decide) (fun h287 => ?_) (fun hbad => absurd hbad (not_not_intro rfl))
  rw [mun_comm hd2]
  exact nx _ D1 E1 _ _ hD1 hM1 (mun_dis hd2) (by omega) (by omega)
set_option maxHeartbeats 4000000 in
set_option maxRecDepth 100000 in
theorem law_set {X : FC} {b dk md L i k n : Nat} {xs : Nat → Int32} {D E : Mem} {nT : Nat} {m : Nat → Nat → Nat} {dB : Nat → Nat → Bool} {nP : Nat} {pf : Nat → Nat → Nat} {cB : Nat → Nat → Bool} {nS : Nat} {sg : Nat → Int32} {ln : Nat → Nat} {tx : Nat → Nat → Int32} {fl : Nat → Nat → Nat} (C : Bx X yL_law cL_law) (hN : xn X = 4) (hSx : Sx X b L xs) (hi : i + 9 ≤ L) (hL : L ≤ 4608) (hk : k ≤ 500000) (hn : n ≤ 7000000) (hD : DeskS (xg X) D dk (nT, m, dB, nP, pf, cB, nS, sg, ln, tx, fl)) (hM : ModS (xg X) E md (nT, m, dB, nP, pf, cB, nS, sg, ln, tx, fl)) (hd : ∀ a, E a ≠ none → D a = none) (nx : ∀ (σ : St) (D' E' : Mem) (k' n' : Nat), DeskS (xg X) D' dk σ → ModS (xg X) E' md σ → (∀ a, E' a ≠ none → D' a = none) → k' ≤ k + 4 → n' ≤ n + 202 → V X room_1 (mun D' E') k' n' [(0, .ref b), (1, .ref dk), (2, .ref md), (3, .int (nI i))] 1316 []) : V X room_1 (mun D E) k n [(0, .ref b), (1, .ref dk), (2, .ref md), (3, .int (nI i))] 292 [] := by
  obtain ⟨fs9, hDc⟩ := hD.cell
  obtain ⟨fs10, hMc⟩ := hM.cell
  refine v_aload_n C dL_law_292 rfl ?_
  refine v_aload_n C dL_law_293 rfl ?_
  refine v_iload_n C dL_law_294 rfl ?_
  refine v_iconst C dL_law_295 (v := 1) rfl ?_
  refine v_iadd C dL_law_296 ?_
  rw [show ((nI i) + 1 : Int32) = nI (i + 1) from ix_ad rfl rfl]
  refine v_sld C hSx (vp_in_nI (by omega) (by omega)) dL_law_297 ?_
  rw [nI_clamp (n := i + 1) (by omega)]
  refine v_aload_n C dL_law_298 rfl ?_
  refine v_iload_n C dL_law_299 rfl ?_
  refine v_iconst C dL_law_300 (v := 2) rfl ?_
  refine v_iadd C dL_law_301 ?_
  rw [show ((nI i) + 2 : Int32) = nI (i + 2) from ix_ad rfl rfl]
  refine v_sld C hSx (vp_in_nI (by omega) (by omega)) dL_law_302 ?_
  rw [nI_clamp (n := i + 2) (by omega)]
  refine v_aload_n C dL_law_303 rfl ?_
  refine v_iload_n C dL_law_304 rfl ?_
  refine v_iconst C dL_law_305 (v := 3) rfl ?_
  refine v_iadd C dL_law_306 ?_
  rw [show ((nI i) + 3 : Int32) = nI (i + 3) from ix_ad rfl rfl]
  refine v_sld C hSx (vp_in_nI (by omega) (by omega)) dL_law_307 ?_
  rw [nI_clamp (n := i + 3) (by omega)]
  refine v_callV (As := [.int (xs (i + 1)), .int (xs (i + 2)), .int (xs (i + 3))]) (rest := []) (b := dk) C ((w_X9_set (xl X) (xg X) D dk nT m dB nP pf cB nS sg ln tx fl hD (xs (i + 1)) (xs (i + 2)) (xs (i + 3))).frame hd) pm_X9_set wI_X9_set wS_X9_set wM_L_23 kX9 (mun_l hDc) ⟨by decide, by decide⟩ ⟨show k + 0 ≤ 600000 by omega, show n + 0 ≤ 7302250 by omega⟩ (nle rfl) dL_law_308 rfl ?_
  rintro _ _ ⟨D1, ⟨rfl, hD1⟩, rfl, hd1⟩
  rw [mun_comm hd1]
  show V X room_1 (mun E D1) k n [(0, .ref b), (1, .ref dk), (2, .ref md), (3, .int (nI i))] 311 [.int (aSet nT m (xs (i + 1)) (xs (i + 2)) (xs (i + 3)))]
  refine v_aload_n C dL_law_311 rfl ?_
  refine v_aload_n C dL_law_312 rfl ?_
  refine v_iload_n C dL_law_313 rfl ?_
  refine v_iconst C dL_law_314 (v := 1) rfl ?_
  refine v_iadd C dL_law_315 ?_
  rw [show ((nI i) + 1 : Int32) = nI (i + 1) from ix_ad rfl rfl]
  refine v_sld C hSx (vp_in_nI (by omega) (by omega)) dL_law_316 ?_
  rw [nI_clamp (n := i + 1) (by omega)]
  refine v_aload_n C dL_law_317 rfl ?_
  refine v_iload_n C dL_law_318 rfl ?_
  refine v_iconst C dL_law_319 (v := 2) rfl ?_
  refine v_iadd C dL_law_320 ?_
  rw [show ((nI i) + 2 : Int32) = nI (i + 2) from ix_ad rfl rfl]
  refine v_sld C hSx (vp_in_nI (by omega) (by omega)) dL_law_321 ?_
  rw [nI_clamp (n := i + 2) (by omega)]
  refine v_aload_n C dL_law_322 rfl ?_
  refine v_iload_n C dL_law_323 rfl ?_
  refine v_iconst C dL_law_324 (v := 3) rfl ?_
  refine v_iadd C dL_law_325 ?_
  rw [show ((nI i) + 3 : Int32) = nI (i + 3) from ix_ad rfl rfl]
  refine v_sld C hSx (vp_in_nI (by omega) (by omega)) dL_law_326 ?_
  rw [nI_clamp (n := i + 3) (by omega)]
  refine v_callV (As := [.int (xs (i + 1)), .int (xs (i + 2)), .int (xs (i + 3))]) (rest := [.int (aSet nT m (xs (i + 1)) (xs (i + 2)) (xs (i + 3)))]) (b := md) C ((w_X10_set (xl X) (xg X) E md nT m dB nP pf cB nS sg ln tx fl hM (xs (i + 1)) (xs (i + 2)) (xs (i + 3))).frame (mun_dis hd1)) pm_X10_set wI_X10_set wS_X10_set wM_L_27 kX10 (mun_l hMc) ⟨by decide, by decide⟩ ⟨show k + 0 ≤ 600000 by omega, show n + 0 ≤ 7302250 by omega⟩ (nle rfl) dL_law_327 rfl ?_
  rintro _ _ ⟨E1, ⟨rfl, hM1⟩, rfl, hd2⟩
  show V X room_1 (mun E1 D1) k n [(0, .ref b), (1, .ref dk), (2, .ref md), (3, .int (nI i))] 330 [.int (aSet nT m (xs (i + 1)) (xs (i + 2)) (xs (i + 3))), .int (aSet nT m (xs (i + 1)) (xs (i + 2)) (xs (i + 3)))]
  refine v_icmp_eq (tgt := 1316) C dL_law_330 (by decide) (fun h330 => ?_) (fun hbad => absurd hbad (not_not_intro rfl))
  rw [mun_comm hd2]
  exact nx _ D1 E1 _ _ hD1 hM1 (mun_dis hd2) (by omega) (by omega)
set_option maxHeartbeats 4000000 in
set_option maxRecDepth 100000 in
theorem law_at {X : FC} {b dk md L i k n : Nat} {xs : Nat → Int32} {D E : Mem} {nT : Nat} {m : Nat → Nat → Nat} {dB : Nat → Nat → Bool} {nP : Nat} {pf : Nat → Nat → Nat} {cB : Nat → Nat → Bool} {nS : Nat} {sg : Nat → Int32} {ln : Nat → Nat} {tx : Nat → Nat → Int32} {fl : Nat → Nat → Nat} (C : Bx X yL_law cL_law) (hN : xn X = 4) (hSx : Sx X b L xs) (hi : i + 9 ≤ L) (hL : L ≤ 4608) (hk : k ≤ 500000) (hn : n ≤ 7000000) (hD : DeskS (xg X) D dk (nT, m, dB, nP, pf, cB, nS, sg, ln, tx, fl)) (hM : ModS (xg X) E md (nT, m, dB, nP, pf, cB, nS, sg, ln, tx, fl)) (hd : ∀ a, E a ≠ none → D a = none) (nx : ∀ (σ : St) (D' E' : Mem) (k' n' : Nat), DeskS (xg X) D' dk σ → ModS (xg X) E' md σ → (∀ a, E' a ≠ none → D' a = none) → k' ≤ k + 4 → n' ≤ n + 202 → V X room_1 (mun D' E') k' n' [(0, .ref b), (1, .ref dk), (2, .ref md), (3, .int (nI i))] 1316 []) : V X room_1 (mun D E) k n [(0, .ref b), (1, .ref dk), (2, .ref md), (3, .int (nI i))] 335 [] := by
  obtain ⟨fs9, hDc⟩ := hD.cell
  obtain ⟨fs10, hMc⟩ := hM.cell
  refine v_aload_n C dL_law_335 rfl ?_
  refine v_aload_n C dL_law_336 rfl ?_
  refine v_iload_n C dL_law_337 rfl ?_
  refine v_iconst C dL_law_338 (v := 1) rfl ?_
  refine v_iadd C dL_law_339 ?_
  rw [show ((nI i) + 1 : Int32) = nI (i + 1) from ix_ad rfl rfl]
  refine v_sld C hSx (vp_in_nI (by omega) (by omega)) dL_law_340 ?_
  rw [nI_clamp (n := i + 1) (by omega)]
  refine v_aload_n C dL_law_341 rfl ?_
  refine v_iload_n C dL_law_342 rfl ?_
  refine v_iconst C dL_law_343 (v := 2) rfl ?_
  refine v_iadd C dL_law_344 ?_
  rw [show ((nI i) + 2 : Int32) = nI (i + 2) from ix_ad rfl rfl]
  refine v_sld C hSx (vp_in_nI (by omega) (by omega)) dL_law_345 ?_
  rw [nI_clamp (n := i + 2) (by omega)]
  refine v_callV (As := [.int (xs (i + 1)), .int (xs (i + 2))]) (rest := []) (b := dk) C ((w_X9_at (xl X) (xg X) D dk nT m dB nP pf cB nS sg ln tx fl hD (xs (i + 1)) (xs (i + 2))).frame hd) pm_X9_at wI_X9_at wS_X9_at wM_L_28 kX9 (mun_l hDc) ⟨by decide, by decide⟩ ⟨show k + 0 ≤ 600000 by omega, show n + 0 ≤ 7302250 by omega⟩ (nle rfl) dL_law_346 rfl ?_
  rintro _ _ ⟨D1, ⟨rfl, hD1⟩, rfl, hd1⟩
  rw [mun_comm hd1]
  show V X room_1 (mun E D1) k n [(0, .ref b), (1, .ref dk), (2, .ref md), (3, .int (nI i))] 349 [.int (aAt nT m (xs (i + 1)) (xs (i + 2)))]
  refine v_aload_n C dL_law_349 rfl ?_
  refine v_aload_n C dL_law_350 rfl ?_
  refine v_iload_n C dL_law_351 rfl ?_
  refine v_iconst C dL_law_352 (v := 1) rfl ?_
  refine v_iadd C dL_law_353 ?_
  rw [show ((nI i) + 1 : Int32) = nI (i + 1) from ix_ad rfl rfl]
  refine v_sld C hSx (vp_in_nI (by omega) (by omega)) dL_law_354 ?_
  rw [nI_clamp (n := i + 1) (by omega)]
  refine v_aload_n C dL_law_355 rfl ?_
  refine v_iload_n C dL_law_356 rfl ?_
  refine v_iconst C dL_law_357 (v := 2) rfl ?_
  refine v_iadd C dL_law_358 ?_
  rw [show ((nI i) + 2 : Int32) = nI (i + 2) from ix_ad rfl rfl]
  refine v_sld C hSx (vp_in_nI (by omega) (by omega)) dL_law_359 ?_
  rw [nI_clamp (n := i + 2) (by omega)]
  refine v_callV (As := [.int (xs (i + 1)), .int (xs (i + 2))]) (rest := [.int (aAt nT m (xs (i + 1)) (xs (i + 2)))]) (b := md) C ((w_X10_at (xl X) (xg X) E md nT m dB nP pf cB nS sg ln tx fl hM (xs (i + 1)) (xs (i + 2))).frame (mun_dis hd1)) pm_X10_at wI_X10_at wS_X10_at wM_L_31 kX10 (mun_l hMc) ⟨by decide, by decide⟩ ⟨show k + 0 ≤ 600000 by omega, show n + 0 ≤ 7302250 by omega⟩ (nle rfl) dL_law_360 rfl ?_
  rintro _ _ ⟨E1, ⟨rfl, hM1⟩, rfl, hd2⟩
  show V X room_1 (mun E1 D1) k n [(0, .ref b), (1, .ref dk), (2, .ref md), (3, .int (nI i))] 363 [.int (aAt nT m (xs (i + 1)) (xs (i + 2))), .int (aAt nT m (xs (i + 1)) (xs (i + 2)))]
  refine v_icmp_eq (tgt := 1316) C dL_law_363 (by decide) (fun h363 => ?_) (fun hbad => absurd hbad (not_not_intro rfl))
  rw [mun_comm hd2]
  exact nx _ D1 E1 _ _ hD1 hM1 (mun_dis hd2) (by omega) (by omega)
set_option maxHeartbeats 4000000 in
set_option maxRecDepth 100000 in
theorem law_picture {X : FC} {b dk md L i k n : Nat} {xs : Nat → Int32} {D E : Mem} {nT : Nat} {m : Nat → Nat → Nat} {dB : Nat → Nat → Bool} {nP : Nat} {pf : Nat → Nat → Nat} {cB : Nat → Nat → Bool} {nS : Nat} {sg : Nat → Int32} {ln : Nat → Nat} {tx : Nat → Nat → Int32} {fl : Nat → Nat → Nat} (C : Bx X yL_law cL_law) (hN : xn X = 4) (hSx : Sx X b L xs) (hi : i + 9 ≤ L) (hL : L ≤ 4608) (hk : k ≤ 500000) (hn : n ≤ 7000000) (hD : DeskS (xg X) D dk (nT, m, dB, nP, pf, cB, nS, sg, ln, tx, fl)) (hM : ModS (xg X) E md (nT, m, dB, nP, pf, cB, nS, sg, ln, tx, fl)) (hd : ∀ a, E a ≠ none → D a = none) (nx : ∀ (σ : St) (D' E' : Mem) (k' n' : Nat), DeskS (xg X) D' dk σ → ModS (xg X) E' md σ → (∀ a, E' a ≠ none → D' a = none) → k' ≤ k + 4 → n' ≤ n + 202 → V X room_1 (mun D' E') k' n' [(0, .ref b), (1, .ref dk), (2, .ref md), (3, .int (nI i))] 1316 []) : V X room_1 (mun D E) k n [(0, .ref b), (1, .ref dk), (2, .ref md), (3, .int (nI i))] 368 [] := by
  obtain ⟨fs9, hDc⟩ := hD.cell
  obtain ⟨fs10, hMc⟩ := hM.cell
  refine v_aload_n C dL_law_368 rfl ?_
  refine v_aload_n C dL_law_369 rfl ?_
  refine v_iload_n C dL_law_370 rfl ?_
  refine v_iconst C dL_law_371 (v := 1) rfl ?_
  refine v_iadd C dL_law_372 ?_
  rw [show ((nI i) + 1 : Int32) = nI (i + 1) from ix_ad rfl rfl]
  refine v_sld C hSx (vp_in_nI (by omega) (by omega)) dL_law_373 ?_
  rw [nI_clamp (n := i + 1) (by omega)]
  refine v_aload_n C dL_law_374 rfl ?_
  refine v_iload_n C dL_law_375 rfl ?_
  refine v_iconst C dL_law_376 (v := 2) rfl ?_
  refine v_iadd C dL_law_377 ?_
  rw [show ((nI i) + 2 : Int32) = nI (i + 2) from ix_ad rfl rfl]
  refine v_sld C hSx (vp_in_nI (by omega) (by omega)) dL_law_378 ?_
  rw [nI_clamp (n := i + 2) (by omega)]
  refine v_aload_n C dL_law_379 rfl ?_
  refine v_iload_n C dL_law_380 rfl ?_
  refine v_iconst C dL_law_381 (v := 3) rfl ?_
  refine v_iadd C dL_law_382 ?_
  rw [show ((nI i) + 3 : Int32) = nI (i + 3) from ix_ad rfl rfl]
  refine v_sld C hSx (vp_in_nI (by omega) (by omega)) dL_law_383 ?_
  rw [nI_clamp (n := i + 3) (by omega)]
  refine v_aload_n C dL_law_384 rfl ?_
  refine v_iload_n C dL_law_385 rfl ?_
  refine v_iconst C dL_law_386 (v := 4) rfl ?_
  refine v_iadd C dL_law_387 ?_
  rw [show ((nI i) + 4 : Int32) = nI (i + 4) from ix_ad rfl rfl]
  refine v_sld C hSx (vp_in_nI (by omega) (by omega)) dL_law_388 ?_
  rw [nI_clamp (n := i + 4) (by omega)]
  refine v_aload_n C dL_law_389 rfl ?_
  refine v_iload_n C dL_law_390 rfl ?_
  refine v_iconst C dL_law_391 (v := 5) rfl ?_
  refine v_iadd C dL_law_392 ?_
  rw [show ((nI i) + 5 : Int32) = nI (i + 5) from ix_ad rfl rfl]
  refine v_sld C hSx (vp_in_nI (by omega) (by omega)) dL_law_393 ?_
  rw [nI_clamp (n := i + 5) (by omega)]
  refine v_callV (As := [.int (xs (i + 1)), .int (xs (i + 2)), .int (xs (i + 3)), .int (xs (i + 4)), .int (xs (i + 5))]) (rest := []) (b := dk) C ((w_X9_picture (xl X) (xg X) D dk nT m dB nP pf cB nS sg ln tx fl hD (xs (i + 1)) (xs (i + 2)) (xs (i + 3)) (xs (i + 4)) (xs (i + 5))).frame hd) pm_X9_picture wI_X9_picture wS_X9_picture wM_L_32 kX9 (mun_l hDc) ⟨by decide, by decide⟩ ⟨show k + 4 ≤ 600000 by omega, show n + 202 ≤ 7302250 by omega⟩ (nle rfl) dL_law_394 rfl ?_
  rintro _ _ ⟨D1, ⟨rfl, hD1⟩, rfl, hd1⟩
  rw [mun_comm hd1]
  show V X room_1 (mun E D1) (k + 4) (n + 202) [(0, .ref b), (1, .ref dk), (2, .ref md), (3, .int (nI i))] 397 [.int (aPicture nP (xs (i + 1)) (xs (i + 2)) (xs (i + 3)) (xs (i + 4)) (xs (i + 5)))]
  refine v_aload_n C dL_law_397 rfl ?_
  refine v_aload_n C dL_law_398 rfl ?_
  refine v_iload_n C dL_law_399 rfl ?_
  refine v_iconst C dL_law_400 (v := 1) rfl ?_
  refine v_iadd C dL_law_401 ?_
  rw [show ((nI i) + 1 : Int32) = nI (i + 1) from ix_ad rfl rfl]
  refine v_sld C hSx (vp_in_nI (by omega) (by omega)) dL_law_402 ?_
  rw [nI_clamp (n := i + 1) (by omega)]
  refine v_aload_n C dL_law_403 rfl ?_
  refine v_iload_n C dL_law_404 rfl ?_
  refine v_iconst C dL_law_405 (v := 2) rfl ?_
  refine v_iadd C dL_law_406 ?_
  rw [show ((nI i) + 2 : Int32) = nI (i + 2) from ix_ad rfl rfl]
  refine v_sld C hSx (vp_in_nI (by omega) (by omega)) dL_law_407 ?_
  rw [nI_clamp (n := i + 2) (by omega)]
  refine v_aload_n C dL_law_408 rfl ?_
  refine v_iload_n C dL_law_409 rfl ?_
  refine v_iconst C dL_law_410 (v := 3) rfl ?_
  refine v_iadd C dL_law_411 ?_
  rw [show ((nI i) + 3 : Int32) = nI (i + 3) from ix_ad rfl rfl]
  refine v_sld C hSx (vp_in_nI (by omega) (by omega)) dL_law_412 ?_
  rw [nI_clamp (n := i + 3) (by omega)]
  refine v_aload_n C dL_law_413 rfl ?_
  refine v_iload_n C dL_law_414 rfl ?_
  refine v_iconst C dL_law_415 (v := 4) rfl ?_
  refine v_iadd C dL_law_416 ?_
  rw [show ((nI i) + 4 : Int32) = nI (i + 4) from ix_ad rfl rfl]
  refine v_sld C hSx (vp_in_nI (by omega) (by omega)) dL_law_417 ?_
  rw [nI_clamp (n := i + 4) (by omega)]
  refine v_aload_n C dL_law_418 rfl ?_
  refine v_iload_n C dL_law_419 rfl ?_
  refine v_iconst C dL_law_420 (v := 5) rfl ?_
  refine v_iadd C dL_law_421 ?_
  rw [show ((nI i) + 5 : Int32) = nI (i + 5) from ix_ad rfl rfl]
  refine v_sld C hSx (vp_in_nI (by omega) (by omega)) dL_law_422 ?_
  rw [nI_clamp (n := i + 5) (by omega)]
  refine v_callV (As := [.int (xs (i + 1)), .int (xs (i + 2)), .int (xs (i + 3)), .int (xs (i + 4)), .int (xs (i + 5))]) (rest := [.int (aPicture nP (xs (i + 1)) (xs (i + 2)) (xs (i + 3)) (xs (i + 4)) (xs (i + 5)))]) (b := md) C ((w_X10_picture (xl X) (xg X) E md nT m dB nP pf cB nS sg ln tx fl hM (xs (i + 1)) (xs (i + 2)) (xs (i + 3)) (xs (i + 4)) (xs (i + 5))).frame (mun_dis hd1)) pm_X10_picture wI_X10_picture wS_X10_picture wM_L_36 kX10 (mun_l hMc) ⟨by decide, by decide⟩ ⟨show k + 4 + 0 ≤ 600000 by omega, show n + 202 + 0 ≤ 7302250 by omega⟩ (nle rfl) dL_law_423 rfl ?_
  rintro _ _ ⟨E1, ⟨rfl, hM1⟩, rfl, hd2⟩
  show V X room_1 (mun E1 D1) (k + 4) (n + 202) [(0, .ref b), (1, .ref dk), (2, .ref md), (3, .int (nI i))] 426 [.int (aPicture nP (xs (i + 1)) (xs (i + 2)) (xs (i + 3)) (xs (i + 4)) (xs (i + 5))), .int (aPicture nP (xs (i + 1)) (xs (i + 2)) (xs (i + 3)) (xs (i + 4)) (xs (i + 5)))]
  refine v_icmp_eq (tgt := 1316) C dL_law_426 (by decide) (fun h426 => ?_) (fun hbad => absurd hbad (not_not_intro rfl))
  rw [mun_comm hd2]
  exact nx _ D1 E1 _ _ hD1 hM1 (mun_dis hd2) (by omega) (by omega)
set_option maxHeartbeats 4000000 in
set_option maxRecDepth 100000 in
theorem law_cloud {X : FC} {b dk md L i k n : Nat} {xs : Nat → Int32} {D E : Mem} {nT : Nat} {m : Nat → Nat → Nat} {dB : Nat → Nat → Bool} {nP : Nat} {pf : Nat → Nat → Nat} {cB : Nat → Nat → Bool} {nS : Nat} {sg : Nat → Int32} {ln : Nat → Nat} {tx : Nat → Nat → Int32} {fl : Nat → Nat → Nat} (C : Bx X yL_law cL_law) (hN : xn X = 4) (hSx : Sx X b L xs) (hi : i + 9 ≤ L) (hL : L ≤ 4608) (hk : k ≤ 500000) (hn : n ≤ 7000000) (hD : DeskS (xg X) D dk (nT, m, dB, nP, pf, cB, nS, sg, ln, tx, fl)) (hM : ModS (xg X) E md (nT, m, dB, nP, pf, cB, nS, sg, ln, tx, fl)) (hd : ∀ a, E a ≠ none → D a = none) (nx : ∀ (σ : St) (D' E' : Mem) (k' n' : Nat), DeskS (xg X) D' dk σ → ModS (xg X) E' md σ → (∀ a, E' a ≠ none → D' a = none) → k' ≤ k + 4 → n' ≤ n + 202 → V X room_1 (mun D' E') k' n' [(0, .ref b), (1, .ref dk), (2, .ref md), (3, .int (nI i))] 1316 []) : V X room_1 (mun D E) k n [(0, .ref b), (1, .ref dk), (2, .ref md), (3, .int (nI i))] 431 [] := by
  obtain ⟨fs9, hDc⟩ := hD.cell
  obtain ⟨fs10, hMc⟩ := hM.cell
  refine v_aload_n C dL_law_431 rfl ?_
  refine v_aload_n C dL_law_432 rfl ?_
  refine v_iload_n C dL_law_433 rfl ?_
  refine v_iconst C dL_law_434 (v := 1) rfl ?_
  refine v_iadd C dL_law_435 ?_
  rw [show ((nI i) + 1 : Int32) = nI (i + 1) from ix_ad rfl rfl]
  refine v_sld C hSx (vp_in_nI (by omega) (by omega)) dL_law_436 ?_
  rw [nI_clamp (n := i + 1) (by omega)]
  refine v_aload_n C dL_law_437 rfl ?_
  refine v_iload_n C dL_law_438 rfl ?_
  refine v_iconst C dL_law_439 (v := 2) rfl ?_
  refine v_iadd C dL_law_440 ?_
  rw [show ((nI i) + 2 : Int32) = nI (i + 2) from ix_ad rfl rfl]
  refine v_sld C hSx (vp_in_nI (by omega) (by omega)) dL_law_441 ?_
  rw [nI_clamp (n := i + 2) (by omega)]
  refine v_aload_n C dL_law_442 rfl ?_
  refine v_iload_n C dL_law_443 rfl ?_
  refine v_iconst C dL_law_444 (v := 3) rfl ?_
  refine v_iadd C dL_law_445 ?_
  rw [show ((nI i) + 3 : Int32) = nI (i + 3) from ix_ad rfl rfl]
  refine v_sld C hSx (vp_in_nI (by omega) (by omega)) dL_law_446 ?_
  rw [nI_clamp (n := i + 3) (by omega)]
  refine v_if_eq (tgt := 454) C dL_law_447 (by decide) (fun h447 => ?_) (fun h447 => ?_)
  · refine v_iconst C dL_law_454 (v := 0) rfl ?_
    refine v_callV (As := [.int (xs (i + 1)), .int (xs (i + 2)), .int 0]) (rest := []) (b := dk) C ((w_X9_cloud (xl X) (xg X) D dk nT m dB nP pf cB nS sg ln tx fl hD (xs (i + 1)) (xs (i + 2)) false).frame hd) pm_X9_cloud wI_X9_cloud wS_X9_cloud wM_L_37 kX9 (mun_l hDc) ⟨by decide, by decide⟩ ⟨show k + 0 ≤ 600000 by omega, show n + 0 ≤ 7302250 by omega⟩ (nle rfl) dL_law_455 rfl ?_
    rintro _ _ ⟨D1, ⟨rfl, hD1⟩, rfl, hd1⟩
    rw [mun_comm hd1]
    show V X room_1 (mun E D1) k n [(0, .ref b), (1, .ref dk), (2, .ref md), (3, .int (nI i))] 458 [.int (aCloud nP cB (xs (i + 1)) (xs (i + 2)))]
    refine v_aload_n C dL_law_458 rfl ?_
    refine v_aload_n C dL_law_459 rfl ?_
    refine v_iload_n C dL_law_460 rfl ?_
    refine v_iconst C dL_law_461 (v := 1) rfl ?_
    refine v_iadd C dL_law_462 ?_
    rw [show ((nI i) + 1 : Int32) = nI (i + 1) from ix_ad rfl rfl]
    refine v_sld C hSx (vp_in_nI (by omega) (by omega)) dL_law_463 ?_
    rw [nI_clamp (n := i + 1) (by omega)]
    refine v_aload_n C dL_law_464 rfl ?_
    refine v_iload_n C dL_law_465 rfl ?_
    refine v_iconst C dL_law_466 (v := 2) rfl ?_
    refine v_iadd C dL_law_467 ?_
    rw [show ((nI i) + 2 : Int32) = nI (i + 2) from ix_ad rfl rfl]
    refine v_sld C hSx (vp_in_nI (by omega) (by omega)) dL_law_468 ?_
    rw [nI_clamp (n := i + 2) (by omega)]
    refine v_aload_n C dL_law_469 rfl ?_
    refine v_iload_n C dL_law_470 rfl ?_
    refine v_iconst C dL_law_471 (v := 3) rfl ?_
    refine v_iadd C dL_law_472 ?_
    rw [show ((nI i) + 3 : Int32) = nI (i + 3) from ix_ad rfl rfl]
    refine v_sld C hSx (vp_in_nI (by omega) (by omega)) dL_law_473 ?_
    rw [nI_clamp (n := i + 3) (by omega)]
    refine v_if_eq (tgt := 481) C dL_law_474 (by decide) (fun h474 => ?_) (fun hbad => absurd hbad (not_not_intro h447))
    refine v_iconst C dL_law_481 (v := 0) rfl ?_
    refine v_callV (As := [.int (xs (i + 1)), .int (xs (i + 2)), .int 0]) (rest := [.int (aCloud nP cB (xs (i + 1)) (xs (i + 2)))]) (b := md) C ((w_X10_cloud (xl X) (xg X) E md nT m dB nP pf cB nS sg ln tx fl hM (xs (i + 1)) (xs (i + 2)) false).frame (mun_dis hd1)) pm_X10_cloud wI_X10_cloud wS_X10_cloud wM_L_41 kX10 (mun_l hMc) ⟨by decide, by decide⟩ ⟨show k + 0 ≤ 600000 by omega, show n + 0 ≤ 7302250 by omega⟩ (nle rfl) dL_law_482 rfl ?_
    rintro _ _ ⟨E1, ⟨rfl, hM1⟩, rfl, hd2⟩
    show V X room_1 (mun E1 D1) k n [(0, .ref b), (1, .ref dk), (2, .ref md), (3, .int (nI i))] 485 [.int (aCloud nP cB (xs (i + 1)) (xs (i + 2))), .int (aCloud nP cB (xs (i + 1)) (xs (i + 2)))]
    refine v_icmp_eq (tgt := 1316) C dL_law_485 (by decide) (fun h485 => ?_) (fun hbad => absurd hbad (not_not_intro rfl))
    rw [mun_comm hd2]
    exact nx _ D1 E1 _ _ hD1 hM1 (mun_dis hd2) (by omega) (by omega)
  · refine v_iconst C dL_law_450 (v := 1) rfl ?_
    refine v_goto (tgt := 455) C dL_law_451 (by decide) ?_
    refine v_callV (As := [.int (xs (i + 1)), .int (xs (i + 2)), .int 1]) (rest := []) (b := dk) C ((w_X9_cloud (xl X) (xg X) D dk nT m dB nP pf cB nS sg ln tx fl hD (xs (i + 1)) (xs (i + 2)) true).frame hd) pm_X9_cloud wI_X9_cloud wS_X9_cloud wM_L_37 kX9 (mun_l hDc) ⟨by decide, by decide⟩ ⟨show k + 0 ≤ 600000 by omega, show n + 0 ≤ 7302250 by omega⟩ (nle rfl) dL_law_455 rfl ?_
    rintro _ _ ⟨D1, ⟨rfl, hD1⟩, rfl, hd1⟩
    rw [mun_comm hd1]
    show V X room_1 (mun E D1) k n [(0, .ref b), (1, .ref dk), (2, .ref md), (3, .int (nI i))] 458 [.int (aCloud nP cB (xs (i + 1)) (xs (i + 2)))]
    refine v_aload_n C dL_law_458 rfl ?_
    refine v_aload_n C dL_law_459 rfl ?_
    refine v_iload_n C dL_law_460 rfl ?_
    refine v_iconst C dL_law_461 (v := 1) rfl ?_
    refine v_iadd C dL_law_462 ?_
    rw [show ((nI i) + 1 : Int32) = nI (i + 1) from ix_ad rfl rfl]
    refine v_sld C hSx (vp_in_nI (by omega) (by omega)) dL_law_463 ?_
    rw [nI_clamp (n := i + 1) (by omega)]
    refine v_aload_n C dL_law_464 rfl ?_
    refine v_iload_n C dL_law_465 rfl ?_
    refine v_iconst C dL_law_466 (v := 2) rfl ?_
    refine v_iadd C dL_law_467 ?_
    rw [show ((nI i) + 2 : Int32) = nI (i + 2) from ix_ad rfl rfl]
    refine v_sld C hSx (vp_in_nI (by omega) (by omega)) dL_law_468 ?_
    rw [nI_clamp (n := i + 2) (by omega)]
    refine v_aload_n C dL_law_469 rfl ?_
    refine v_iload_n C dL_law_470 rfl ?_
    refine v_iconst C dL_law_471 (v := 3) rfl ?_
    refine v_iadd C dL_law_472 ?_
    rw [show ((nI i) + 3 : Int32) = nI (i + 3) from ix_ad rfl rfl]
    refine v_sld C hSx (vp_in_nI (by omega) (by omega)) dL_law_473 ?_
    rw [nI_clamp (n := i + 3) (by omega)]
    refine v_if_eq (tgt := 481) C dL_law_474 (by decide) (fun hbad => absurd hbad (h447)) (fun h474 => ?_)
    refine v_iconst C dL_law_477 (v := 1) rfl ?_
    refine v_goto (tgt := 482) C dL_law_478 (by decide) ?_
    refine v_callV (As := [.int (xs (i + 1)), .int (xs (i + 2)), .int 1]) (rest := [.int (aCloud nP cB (xs (i + 1)) (xs (i + 2)))]) (b := md) C ((w_X10_cloud (xl X) (xg X) E md nT m dB nP pf cB nS sg ln tx fl hM (xs (i + 1)) (xs (i + 2)) true).frame (mun_dis hd1)) pm_X10_cloud wI_X10_cloud wS_X10_cloud wM_L_41 kX10 (mun_l hMc) ⟨by decide, by decide⟩ ⟨show k + 0 ≤ 600000 by omega, show n + 0 ≤ 7302250 by omega⟩ (nle rfl) dL_law_482 rfl ?_
    rintro _ _ ⟨E1, ⟨rfl, hM1⟩, rfl, hd2⟩
    show V X room_1 (mun E1 D1) k n [(0, .ref b), (1, .ref dk), (2, .ref md), (3, .int (nI i))] 485 [.int (aCloud nP cB (xs (i + 1)) (xs (i + 2))), .int (aCloud nP cB (xs (i + 1)) (xs (i + 2)))]
    refine v_icmp_eq (tgt := 1316) C dL_law_485 (by decide) (fun h485 => ?_) (fun hbad => absurd hbad (not_not_intro rfl))
    rw [mun_comm hd2]
    exact nx _ D1 E1 _ _ hD1 hM1 (mun_dis hd2) (by omega) (by omega)
set_option maxHeartbeats 4000000 in
set_option maxRecDepth 100000 in
theorem law_shows {X : FC} {b dk md L i k n : Nat} {xs : Nat → Int32} {D E : Mem} {nT : Nat} {m : Nat → Nat → Nat} {dB : Nat → Nat → Bool} {nP : Nat} {pf : Nat → Nat → Nat} {cB : Nat → Nat → Bool} {nS : Nat} {sg : Nat → Int32} {ln : Nat → Nat} {tx : Nat → Nat → Int32} {fl : Nat → Nat → Nat} (C : Bx X yL_law cL_law) (hN : xn X = 4) (hSx : Sx X b L xs) (hi : i + 9 ≤ L) (hL : L ≤ 4608) (hk : k ≤ 500000) (hn : n ≤ 7000000) (hD : DeskS (xg X) D dk (nT, m, dB, nP, pf, cB, nS, sg, ln, tx, fl)) (hM : ModS (xg X) E md (nT, m, dB, nP, pf, cB, nS, sg, ln, tx, fl)) (hd : ∀ a, E a ≠ none → D a = none) (nx : ∀ (σ : St) (D' E' : Mem) (k' n' : Nat), DeskS (xg X) D' dk σ → ModS (xg X) E' md σ → (∀ a, E' a ≠ none → D' a = none) → k' ≤ k + 4 → n' ≤ n + 202 → V X room_1 (mun D' E') k' n' [(0, .ref b), (1, .ref dk), (2, .ref md), (3, .int (nI i))] 1316 []) : V X room_1 (mun D E) k n [(0, .ref b), (1, .ref dk), (2, .ref md), (3, .int (nI i))] 490 [] := by
  obtain ⟨fs9, hDc⟩ := hD.cell
  obtain ⟨fs10, hMc⟩ := hM.cell
  refine v_aload_n C dL_law_490 rfl ?_
  refine v_aload_n C dL_law_491 rfl ?_
  refine v_iload_n C dL_law_492 rfl ?_
  refine v_iconst C dL_law_493 (v := 1) rfl ?_
  refine v_iadd C dL_law_494 ?_
  rw [show ((nI i) + 1 : Int32) = nI (i + 1) from ix_ad rfl rfl]
  refine v_sld C hSx (vp_in_nI (by omega) (by omega)) dL_law_495 ?_
  rw [nI_clamp (n := i + 1) (by omega)]
  refine v_aload_n C dL_law_496 rfl ?_
  refine v_iload_n C dL_law_497 rfl ?_
  refine v_iconst C dL_law_498 (v := 2) rfl ?_
  refine v_iadd C dL_law_499 ?_
  rw [show ((nI i) + 2 : Int32) = nI (i + 2) from ix_ad rfl rfl]
  refine v_sld C hSx (vp_in_nI (by omega) (by omega)) dL_law_500 ?_
  rw [nI_clamp (n := i + 2) (by omega)]
  refine v_callV (As := [.int (xs (i + 1)), .int (xs (i + 2))]) (rest := []) (b := dk) C ((w_X9_shows (xl X) (xg X) D dk nT m dB nP pf cB nS sg ln tx fl hD (xs (i + 1)) (xs (i + 2))).frame hd) pm_X9_shows wI_X9_shows wS_X9_shows wM_L_42 kX9 (mun_l hDc) ⟨by decide, by decide⟩ ⟨show k + 0 ≤ 600000 by omega, show n + 0 ≤ 7302250 by omega⟩ (nle rfl) dL_law_501 rfl ?_
  rintro _ _ ⟨D1, ⟨rfl, hD1⟩, rfl, hd1⟩
  rw [mun_comm hd1]
  show V X room_1 (mun E D1) k n [(0, .ref b), (1, .ref dk), (2, .ref md), (3, .int (nI i))] 504 [.int (aShows nT m nP pf cB (xs (i + 1)) (xs (i + 2)))]
  refine v_aload_n C dL_law_504 rfl ?_
  refine v_aload_n C dL_law_505 rfl ?_
  refine v_iload_n C dL_law_506 rfl ?_
  refine v_iconst C dL_law_507 (v := 1) rfl ?_
  refine v_iadd C dL_law_508 ?_
  rw [show ((nI i) + 1 : Int32) = nI (i + 1) from ix_ad rfl rfl]
  refine v_sld C hSx (vp_in_nI (by omega) (by omega)) dL_law_509 ?_
  rw [nI_clamp (n := i + 1) (by omega)]
  refine v_aload_n C dL_law_510 rfl ?_
  refine v_iload_n C dL_law_511 rfl ?_
  refine v_iconst C dL_law_512 (v := 2) rfl ?_
  refine v_iadd C dL_law_513 ?_
  rw [show ((nI i) + 2 : Int32) = nI (i + 2) from ix_ad rfl rfl]
  refine v_sld C hSx (vp_in_nI (by omega) (by omega)) dL_law_514 ?_
  rw [nI_clamp (n := i + 2) (by omega)]
  refine v_callV (As := [.int (xs (i + 1)), .int (xs (i + 2))]) (rest := [.int (aShows nT m nP pf cB (xs (i + 1)) (xs (i + 2)))]) (b := md) C ((w_X10_shows (xl X) (xg X) E md nT m dB nP pf cB nS sg ln tx fl hM (xs (i + 1)) (xs (i + 2))).frame (mun_dis hd1)) pm_X10_shows wI_X10_shows wS_X10_shows wM_L_45 kX10 (mun_l hMc) ⟨by decide, by decide⟩ ⟨show k + 0 ≤ 600000 by omega, show n + 0 ≤ 7302250 by omega⟩ (nle rfl) dL_law_515 rfl ?_
  rintro _ _ ⟨E1, ⟨rfl, hM1⟩, rfl, hd2⟩
  show V X room_1 (mun E1 D1) k n [(0, .ref b), (1, .ref dk), (2, .ref md), (3, .int (nI i))] 518 [.int (aShows nT m nP pf cB (xs (i + 1)) (xs (i + 2))), .int (aShows nT m nP pf cB (xs (i + 1)) (xs (i + 2)))]
  refine v_icmp_eq (tgt := 1316) C dL_law_518 (by decide) (fun h518 => ?_) (fun hbad => absurd hbad (not_not_intro rfl))
  rw [mun_comm hd2]
  exact nx _ D1 E1 _ _ hD1 hM1 (mun_dis hd2) (by omega) (by omega)
set_option maxHeartbeats 4000000 in
set_option maxRecDepth 100000 in
theorem law_count {X : FC} {b dk md L i k n : Nat} {xs : Nat → Int32} {D E : Mem} {nT : Nat} {m : Nat → Nat → Nat} {dB : Nat → Nat → Bool} {nP : Nat} {pf : Nat → Nat → Nat} {cB : Nat → Nat → Bool} {nS : Nat} {sg : Nat → Int32} {ln : Nat → Nat} {tx : Nat → Nat → Int32} {fl : Nat → Nat → Nat} (C : Bx X yL_law cL_law) (hN : xn X = 4) (hSx : Sx X b L xs) (hi : i + 9 ≤ L) (hL : L ≤ 4608) (hk : k ≤ 500000) (hn : n ≤ 7000000) (hD : DeskS (xg X) D dk (nT, m, dB, nP, pf, cB, nS, sg, ln, tx, fl)) (hM : ModS (xg X) E md (nT, m, dB, nP, pf, cB, nS, sg, ln, tx, fl)) (hd : ∀ a, E a ≠ none → D a = none) (nx : ∀ (σ : St) (D' E' : Mem) (k' n' : Nat), DeskS (xg X) D' dk σ → ModS (xg X) E' md σ → (∀ a, E' a ≠ none → D' a = none) → k' ≤ k + 4 → n' ≤ n + 202 → V X room_1 (mun D' E') k' n' [(0, .ref b), (1, .ref dk), (2, .ref md), (3, .int (nI i))] 1316 []) : V X room_1 (mun D E) k n [(0, .ref b), (1, .ref dk), (2, .ref md), (3, .int (nI i))] 523 [] := by
  obtain ⟨fs9, hDc⟩ := hD.cell
  obtain ⟨fs10, hMc⟩ := hM.cell
  refine v_aload_n C dL_law_523 rfl ?_
  refine v_aload_n C dL_law_524 rfl ?_
  refine v_iload_n C dL_law_525 rfl ?_
  refine v_iconst C dL_law_526 (v := 1) rfl ?_
  refine v_iadd C dL_law_527 ?_
  rw [show ((nI i) + 1 : Int32) = nI (i + 1) from ix_ad rfl rfl]
  refine v_sld C hSx (vp_in_nI (by omega) (by omega)) dL_law_528 ?_
  rw [nI_clamp (n := i + 1) (by omega)]
  refine v_aload_n C dL_law_529 rfl ?_
  refine v_iload_n C dL_law_530 rfl ?_
  refine v_iconst C dL_law_531 (v := 2) rfl ?_
  refine v_iadd C dL_law_532 ?_
  rw [show ((nI i) + 2 : Int32) = nI (i + 2) from ix_ad rfl rfl]
  refine v_sld C hSx (vp_in_nI (by omega) (by omega)) dL_law_533 ?_
  rw [nI_clamp (n := i + 2) (by omega)]
  refine v_callV (As := [.int (xs (i + 1)), .int (xs (i + 2))]) (rest := []) (b := dk) C ((w_X9_count (xl X) (xg X) D dk nT m dB nP pf cB nS sg ln tx fl hD (xs (i + 1)) (xs (i + 2))).frame hd) pm_X9_count wI_X9_count wS_X9_count wM_L_46 kX9 (mun_l hDc) ⟨by decide, by decide⟩ ⟨show k + 0 ≤ 600000 by omega, show n + 0 ≤ 7302250 by omega⟩ (nle rfl) dL_law_534 rfl ?_
  rintro _ _ ⟨D1, ⟨rfl, hD1⟩, rfl, hd1⟩
  rw [mun_comm hd1]
  show V X room_1 (mun E D1) k n [(0, .ref b), (1, .ref dk), (2, .ref md), (3, .int (nI i))] 537 [.int (aCount nT m nP pf cB (xs (i + 1)) (xs (i + 2)))]
  refine v_aload_n C dL_law_537 rfl ?_
  refine v_aload_n C dL_law_538 rfl ?_
  refine v_iload_n C dL_law_539 rfl ?_
  refine v_iconst C dL_law_540 (v := 1) rfl ?_
  refine v_iadd C dL_law_541 ?_
  rw [show ((nI i) + 1 : Int32) = nI (i + 1) from ix_ad rfl rfl]
  refine v_sld C hSx (vp_in_nI (by omega) (by omega)) dL_law_542 ?_
  rw [nI_clamp (n := i + 1) (by omega)]
  refine v_aload_n C dL_law_543 rfl ?_
  refine v_iload_n C dL_law_544 rfl ?_
  refine v_iconst C dL_law_545 (v := 2) rfl ?_
  refine v_iadd C dL_law_546 ?_
  rw [show ((nI i) + 2 : Int32) = nI (i + 2) from ix_ad rfl rfl]
  refine v_sld C hSx (vp_in_nI (by omega) (by omega)) dL_law_547 ?_
  rw [nI_clamp (n := i + 2) (by omega)]
  refine v_callV (As := [.int (xs (i + 1)), .int (xs (i + 2))]) (rest := [.int (aCount nT m nP pf cB (xs (i + 1)) (xs (i + 2)))]) (b := md) C ((w_X10_count (xl X) (xg X) E md nT m dB nP pf cB nS sg ln tx fl hM (xs (i + 1)) (xs (i + 2))).frame (mun_dis hd1)) pm_X10_count wI_X10_count wS_X10_count wM_L_49 kX10 (mun_l hMc) ⟨by decide, by decide⟩ ⟨show k + 0 ≤ 600000 by omega, show n + 0 ≤ 7302250 by omega⟩ (nle rfl) dL_law_548 rfl ?_
  rintro _ _ ⟨E1, ⟨rfl, hM1⟩, rfl, hd2⟩
  show V X room_1 (mun E1 D1) k n [(0, .ref b), (1, .ref dk), (2, .ref md), (3, .int (nI i))] 551 [.int (aCount nT m nP pf cB (xs (i + 1)) (xs (i + 2))), .int (aCount nT m nP pf cB (xs (i + 1)) (xs (i + 2)))]
  refine v_icmp_eq (tgt := 1316) C dL_law_551 (by decide) (fun h551 => ?_) (fun hbad => absurd hbad (not_not_intro rfl))
  rw [mun_comm hd2]
  exact nx _ D1 E1 _ _ hD1 hM1 (mun_dis hd2) (by omega) (by omega)
set_option maxHeartbeats 4000000 in
set_option maxRecDepth 100000 in
theorem law_span {X : FC} {b dk md L i k n : Nat} {xs : Nat → Int32} {D E : Mem} {nT : Nat} {m : Nat → Nat → Nat} {dB : Nat → Nat → Bool} {nP : Nat} {pf : Nat → Nat → Nat} {cB : Nat → Nat → Bool} {nS : Nat} {sg : Nat → Int32} {ln : Nat → Nat} {tx : Nat → Nat → Int32} {fl : Nat → Nat → Nat} (C : Bx X yL_law cL_law) (hN : xn X = 4) (hSx : Sx X b L xs) (hi : i + 9 ≤ L) (hL : L ≤ 4608) (hk : k ≤ 500000) (hn : n ≤ 7000000) (hD : DeskS (xg X) D dk (nT, m, dB, nP, pf, cB, nS, sg, ln, tx, fl)) (hM : ModS (xg X) E md (nT, m, dB, nP, pf, cB, nS, sg, ln, tx, fl)) (hd : ∀ a, E a ≠ none → D a = none) (nx : ∀ (σ : St) (D' E' : Mem) (k' n' : Nat), DeskS (xg X) D' dk σ → ModS (xg X) E' md σ → (∀ a, E' a ≠ none → D' a = none) → k' ≤ k + 4 → n' ≤ n + 202 → V X room_1 (mun D' E') k' n' [(0, .ref b), (1, .ref dk), (2, .ref md), (3, .int (nI i))] 1316 []) : V X room_1 (mun D E) k n [(0, .ref b), (1, .ref dk), (2, .ref md), (3, .int (nI i))] 556 [] := by
  obtain ⟨fs9, hDc⟩ := hD.cell
  obtain ⟨fs10, hMc⟩ := hM.cell
  refine v_aload_n C dL_law_556 rfl ?_
  refine v_aload_n C dL_law_557 rfl ?_
  refine v_iload_n C dL_law_558 rfl ?_
  refine v_iconst C dL_law_559 (v := 1) rfl ?_
  refine v_iadd C dL_law_560 ?_
  rw [show ((nI i) + 1 : Int32) = nI (i + 1) from ix_ad rfl rfl]
  refine v_sld C hSx (vp_in_nI (by omega) (by omega)) dL_law_561 ?_
  rw [nI_clamp (n := i + 1) (by omega)]
  refine v_aload_n C dL_law_562 rfl ?_
  refine v_iload_n C dL_law_563 rfl ?_
  refine v_iconst C dL_law_564 (v := 2) rfl ?_
  refine v_iadd C dL_law_565 ?_
  rw [show ((nI i) + 2 : Int32) = nI (i + 2) from ix_ad rfl rfl]
  refine v_sld C hSx (vp_in_nI (by omega) (by omega)) dL_law_566 ?_
  rw [nI_clamp (n := i + 2) (by omega)]
  refine v_aload_n C dL_law_567 rfl ?_
  refine v_iload_n C dL_law_568 rfl ?_
  refine v_iconst C dL_law_569 (v := 3) rfl ?_
  refine v_iadd C dL_law_570 ?_
  rw [show ((nI i) + 3 : Int32) = nI (i + 3) from ix_ad rfl rfl]
  refine v_sld C hSx (vp_in_nI (by omega) (by omega)) dL_law_571 ?_
  rw [nI_clamp (n := i + 3) (by omega)]
  refine v_callV (As := [.int (xs (i + 1)), .int (xs (i + 2)), .int (xs (i + 3))]) (rest := []) (b := dk) C ((w_X9_span (xl X) (xg X) D dk nT m dB nP pf cB nS sg ln tx fl hD (xs (i + 1)) (xs (i + 2)) (xs (i + 3))).frame hd) pm_X9_span wI_X9_span wS_X9_span wM_L_50 kX9 (mun_l hDc) ⟨by decide, by decide⟩ ⟨show k + 0 ≤ 600000 by omega, show n + 0 ≤ 7302250 by omega⟩ (nle rfl) dL_law_572 rfl ?_
  rintro _ _ ⟨D1, ⟨rfl, hD1⟩, rfl, hd1⟩
  rw [mun_comm hd1]
  show V X room_1 (mun E D1) k n [(0, .ref b), (1, .ref dk), (2, .ref md), (3, .int (nI i))] 575 [.int (aSpan nP pf (xs (i + 1)) (xs (i + 2)) (xs (i + 3)))]
  refine v_aload_n C dL_law_575 rfl ?_
  refine v_aload_n C dL_law_576 rfl ?_
  refine v_iload_n C dL_law_577 rfl ?_
  refine v_iconst C dL_law_578 (v := 1) rfl ?_
  refine v_iadd C dL_law_579 ?_
  rw [show ((nI i) + 1 : Int32) = nI (i + 1) from ix_ad rfl rfl]
  refine v_sld C hSx (vp_in_nI (by omega) (by omega)) dL_law_580 ?_
  rw [nI_clamp (n := i + 1) (by omega)]
  refine v_aload_n C dL_law_581 rfl ?_
  refine v_iload_n C dL_law_582 rfl ?_
  refine v_iconst C dL_law_583 (v := 2) rfl ?_
  refine v_iadd C dL_law_584 ?_
  rw [show ((nI i) + 2 : Int32) = nI (i + 2) from ix_ad rfl rfl]
  refine v_sld C hSx (vp_in_nI (by omega) (by omega)) dL_law_585 ?_
  rw [nI_clamp (n := i + 2) (by omega)]
  refine v_aload_n C dL_law_586 rfl ?_
  refine v_iload_n C dL_law_587 rfl ?_
  refine v_iconst C dL_law_588 (v := 3) rfl ?_
  refine v_iadd C dL_law_589 ?_
  rw [show ((nI i) + 3 : Int32) = nI (i + 3) from ix_ad rfl rfl]
  refine v_sld C hSx (vp_in_nI (by omega) (by omega)) dL_law_590 ?_
  rw [nI_clamp (n := i + 3) (by omega)]
  refine v_callV (As := [.int (xs (i + 1)), .int (xs (i + 2)), .int (xs (i + 3))]) (rest := [.int (aSpan nP pf (xs (i + 1)) (xs (i + 2)) (xs (i + 3)))]) (b := md) C ((w_X10_span (xl X) (xg X) E md nT m dB nP pf cB nS sg ln tx fl hM (xs (i + 1)) (xs (i + 2)) (xs (i + 3))).frame (mun_dis hd1)) pm_X10_span wI_X10_span wS_X10_span wM_L_53 kX10 (mun_l hMc) ⟨by decide, by decide⟩ ⟨show k + 0 ≤ 600000 by omega, show n + 0 ≤ 7302250 by omega⟩ (nle rfl) dL_law_591 rfl ?_
  rintro _ _ ⟨E1, ⟨rfl, hM1⟩, rfl, hd2⟩
  show V X room_1 (mun E1 D1) k n [(0, .ref b), (1, .ref dk), (2, .ref md), (3, .int (nI i))] 594 [.int (aSpan nP pf (xs (i + 1)) (xs (i + 2)) (xs (i + 3))), .int (aSpan nP pf (xs (i + 1)) (xs (i + 2)) (xs (i + 3)))]
  refine v_icmp_eq (tgt := 1316) C dL_law_594 (by decide) (fun h594 => ?_) (fun hbad => absurd hbad (not_not_intro rfl))
  rw [mun_comm hd2]
  exact nx _ D1 E1 _ _ hD1 hM1 (mun_dis hd2) (by omega) (by omega)
set_option maxHeartbeats 4000000 in
set_option maxRecDepth 100000 in
theorem law_changed {X : FC} {b dk md L i k n : Nat} {xs : Nat → Int32} {D E : Mem} {nT : Nat} {m : Nat → Nat → Nat} {dB : Nat → Nat → Bool} {nP : Nat} {pf : Nat → Nat → Nat} {cB : Nat → Nat → Bool} {nS : Nat} {sg : Nat → Int32} {ln : Nat → Nat} {tx : Nat → Nat → Int32} {fl : Nat → Nat → Nat} (C : Bx X yL_law cL_law) (hN : xn X = 4) (hSx : Sx X b L xs) (hi : i + 9 ≤ L) (hL : L ≤ 4608) (hk : k ≤ 500000) (hn : n ≤ 7000000) (hD : DeskS (xg X) D dk (nT, m, dB, nP, pf, cB, nS, sg, ln, tx, fl)) (hM : ModS (xg X) E md (nT, m, dB, nP, pf, cB, nS, sg, ln, tx, fl)) (hd : ∀ a, E a ≠ none → D a = none) (nx : ∀ (σ : St) (D' E' : Mem) (k' n' : Nat), DeskS (xg X) D' dk σ → ModS (xg X) E' md σ → (∀ a, E' a ≠ none → D' a = none) → k' ≤ k + 4 → n' ≤ n + 202 → V X room_1 (mun D' E') k' n' [(0, .ref b), (1, .ref dk), (2, .ref md), (3, .int (nI i))] 1316 []) : V X room_1 (mun D E) k n [(0, .ref b), (1, .ref dk), (2, .ref md), (3, .int (nI i))] 599 [] := by
  obtain ⟨fs9, hDc⟩ := hD.cell
  obtain ⟨fs10, hMc⟩ := hM.cell
  refine v_aload_n C dL_law_599 rfl ?_
  refine v_aload_n C dL_law_600 rfl ?_
  refine v_iload_n C dL_law_601 rfl ?_
  refine v_iconst C dL_law_602 (v := 1) rfl ?_
  refine v_iadd C dL_law_603 ?_
  rw [show ((nI i) + 1 : Int32) = nI (i + 1) from ix_ad rfl rfl]
  refine v_sld C hSx (vp_in_nI (by omega) (by omega)) dL_law_604 ?_
  rw [nI_clamp (n := i + 1) (by omega)]
  refine v_aload_n C dL_law_605 rfl ?_
  refine v_iload_n C dL_law_606 rfl ?_
  refine v_iconst C dL_law_607 (v := 2) rfl ?_
  refine v_iadd C dL_law_608 ?_
  rw [show ((nI i) + 2 : Int32) = nI (i + 2) from ix_ad rfl rfl]
  refine v_sld C hSx (vp_in_nI (by omega) (by omega)) dL_law_609 ?_
  rw [nI_clamp (n := i + 2) (by omega)]
  refine v_aload_n C dL_law_610 rfl ?_
  refine v_iload_n C dL_law_611 rfl ?_
  refine v_iconst C dL_law_612 (v := 3) rfl ?_
  refine v_iadd C dL_law_613 ?_
  rw [show ((nI i) + 3 : Int32) = nI (i + 3) from ix_ad rfl rfl]
  refine v_sld C hSx (vp_in_nI (by omega) (by omega)) dL_law_614 ?_
  rw [nI_clamp (n := i + 3) (by omega)]
  refine v_callV (As := [.int (xs (i + 1)), .int (xs (i + 2)), .int (xs (i + 3))]) (rest := []) (b := dk) C ((w_X9_changed (xl X) (xg X) D dk nT m dB nP pf cB nS sg ln tx fl hD (xs (i + 1)) (xs (i + 2)) (xs (i + 3))).frame hd) pm_X9_changed wI_X9_changed wS_X9_changed wM_L_54 kX9 (mun_l hDc) ⟨by decide, by decide⟩ ⟨show k + 0 ≤ 600000 by omega, show n + 0 ≤ 7302250 by omega⟩ (nle rfl) dL_law_615 rfl ?_
  rintro _ _ ⟨D1, ⟨rfl, hD1⟩, rfl, hd1⟩
  rw [mun_comm hd1]
  show V X room_1 (mun E D1) k n [(0, .ref b), (1, .ref dk), (2, .ref md), (3, .int (nI i))] 618 [.int (aChanged nT m nP pf cB (xs (i + 1)) (xs (i + 2)) (xs (i + 3)))]
  refine v_aload_n C dL_law_618 rfl ?_
  refine v_aload_n C dL_law_619 rfl ?_
  refine v_iload_n C dL_law_620 rfl ?_
  refine v_iconst C dL_law_621 (v := 1) rfl ?_
  refine v_iadd C dL_law_622 ?_
  rw [show ((nI i) + 1 : Int32) = nI (i + 1) from ix_ad rfl rfl]
  refine v_sld C hSx (vp_in_nI (by omega) (by omega)) dL_law_623 ?_
  rw [nI_clamp (n := i + 1) (by omega)]
  refine v_aload_n C dL_law_624 rfl ?_
  refine v_iload_n C dL_law_625 rfl ?_
  refine v_iconst C dL_law_626 (v := 2) rfl ?_
  refine v_iadd C dL_law_627 ?_
  rw [show ((nI i) + 2 : Int32) = nI (i + 2) from ix_ad rfl rfl]
  refine v_sld C hSx (vp_in_nI (by omega) (by omega)) dL_law_628 ?_
  rw [nI_clamp (n := i + 2) (by omega)]
  refine v_aload_n C dL_law_629 rfl ?_
  refine v_iload_n C dL_law_630 rfl ?_
  refine v_iconst C dL_law_631 (v := 3) rfl ?_
  refine v_iadd C dL_law_632 ?_
  rw [show ((nI i) + 3 : Int32) = nI (i + 3) from ix_ad rfl rfl]
  refine v_sld C hSx (vp_in_nI (by omega) (by omega)) dL_law_633 ?_
  rw [nI_clamp (n := i + 3) (by omega)]
  refine v_callV (As := [.int (xs (i + 1)), .int (xs (i + 2)), .int (xs (i + 3))]) (rest := [.int (aChanged nT m nP pf cB (xs (i + 1)) (xs (i + 2)) (xs (i + 3)))]) (b := md) C ((w_X10_changed (xl X) (xg X) E md nT m dB nP pf cB nS sg ln tx fl hM (xs (i + 1)) (xs (i + 2)) (xs (i + 3))).frame (mun_dis hd1)) pm_X10_changed wI_X10_changed wS_X10_changed wM_L_57 kX10 (mun_l hMc) ⟨by decide, by decide⟩ ⟨show k + 0 ≤ 600000 by omega, show n + 0 ≤ 7302250 by omega⟩ (nle rfl) dL_law_634 rfl ?_
  rintro _ _ ⟨E1, ⟨rfl, hM1⟩, rfl, hd2⟩
  show V X room_1 (mun E1 D1) k n [(0, .ref b), (1, .ref dk), (2, .ref md), (3, .int (nI i))] 637 [.int (aChanged nT m nP pf cB (xs (i + 1)) (xs (i + 2)) (xs (i + 3))), .int (aChanged nT m nP pf cB (xs (i + 1)) (xs (i + 2)) (xs (i + 3)))]
  refine v_icmp_eq (tgt := 1316) C dL_law_637 (by decide) (fun h637 => ?_) (fun hbad => absurd hbad (not_not_intro rfl))
  rw [mun_comm hd2]
  exact nx _ D1 E1 _ _ hD1 hM1 (mun_dis hd2) (by omega) (by omega)
set_option maxHeartbeats 4000000 in
set_option maxRecDepth 100000 in
theorem law_say {X : FC} {b dk md L i k n : Nat} {xs : Nat → Int32} {D E : Mem} {nT : Nat} {m : Nat → Nat → Nat} {dB : Nat → Nat → Bool} {nP : Nat} {pf : Nat → Nat → Nat} {cB : Nat → Nat → Bool} {nS : Nat} {sg : Nat → Int32} {ln : Nat → Nat} {tx : Nat → Nat → Int32} {fl : Nat → Nat → Nat} (C : Bx X yL_law cL_law) (hN : xn X = 4) (hSx : Sx X b L xs) (hi : i + 9 ≤ L) (hL : L ≤ 4608) (hk : k ≤ 500000) (hn : n ≤ 7000000) (hD : DeskS (xg X) D dk (nT, m, dB, nP, pf, cB, nS, sg, ln, tx, fl)) (hM : ModS (xg X) E md (nT, m, dB, nP, pf, cB, nS, sg, ln, tx, fl)) (hd : ∀ a, E a ≠ none → D a = none) (nx : ∀ (σ : St) (D' E' : Mem) (k' n' : Nat), DeskS (xg X) D' dk σ → ModS (xg X) E' md σ → (∀ a, E' a ≠ none → D' a = none) → k' ≤ k + 4 → n' ≤ n + 202 → V X room_1 (mun D' E') k' n' [(0, .ref b), (1, .ref dk), (2, .ref md), (3, .int (nI i))] 1316 []) : V X room_1 (mun D E) k n [(0, .ref b), (1, .ref dk), (2, .ref md), (3, .int (nI i))] 642 [] := by
  obtain ⟨fs9, hDc⟩ := hD.cell
  obtain ⟨fs10, hMc⟩ := hM.cell
  refine v_aload_n C dL_law_642 rfl ?_
  refine v_aload_n C dL_law_643 rfl ?_
  refine v_iload_n C dL_law_644 rfl ?_
  refine v_iconst C dL_law_645 (v := 1) rfl ?_
  refine v_iadd C dL_law_646 ?_
  rw [show ((nI i) + 1 : Int32) = nI (i + 1) from ix_ad rfl rfl]
  refine v_sld C hSx (vp_in_nI (by omega) (by omega)) dL_law_647 ?_
  rw [nI_clamp (n := i + 1) (by omega)]
  refine v_callV (As := [.int (xs (i + 1))]) (rest := []) (b := dk) C ((w_X9_say (xl X) (xg X) D dk nT m dB nP pf cB nS sg ln tx fl hD (xs (i + 1))).frame hd) pm_X9_say wI_X9_say wS_X9_say wM_L_58 kX9 (mun_l hDc) ⟨by decide, by decide⟩ ⟨show k + 0 ≤ 600000 by omega, show n + 0 ≤ 7302250 by omega⟩ (nle rfl) dL_law_648 rfl ?_
  rintro _ _ ⟨D1, ⟨rfl, hD1⟩, rfl, hd1⟩
  rw [mun_comm hd1]
  show V X room_1 (mun E D1) k n [(0, .ref b), (1, .ref dk), (2, .ref md), (3, .int (nI i))] 651 [.int (aSay nS (xs (i + 1)))]
  refine v_aload_n C dL_law_651 rfl ?_
  refine v_aload_n C dL_law_652 rfl ?_
  refine v_iload_n C dL_law_653 rfl ?_
  refine v_iconst C dL_law_654 (v := 1) rfl ?_
  refine v_iadd C dL_law_655 ?_
  rw [show ((nI i) + 1 : Int32) = nI (i + 1) from ix_ad rfl rfl]
  refine v_sld C hSx (vp_in_nI (by omega) (by omega)) dL_law_656 ?_
  rw [nI_clamp (n := i + 1) (by omega)]
  refine v_callV (As := [.int (xs (i + 1))]) (rest := [.int (aSay nS (xs (i + 1)))]) (b := md) C ((w_X10_say (xl X) (xg X) E md nT m dB nP pf cB nS sg ln tx fl hM (xs (i + 1))).frame (mun_dis hd1)) pm_X10_say wI_X10_say wS_X10_say wM_L_62 kX10 (mun_l hMc) ⟨by decide, by decide⟩ ⟨show k + 0 ≤ 600000 by omega, show n + 0 ≤ 7302250 by omega⟩ (nle rfl) dL_law_657 rfl ?_
  rintro _ _ ⟨E1, ⟨rfl, hM1⟩, rfl, hd2⟩
  show V X room_1 (mun E1 D1) k n [(0, .ref b), (1, .ref dk), (2, .ref md), (3, .int (nI i))] 660 [.int (aSay nS (xs (i + 1))), .int (aSay nS (xs (i + 1)))]
  refine v_icmp_eq (tgt := 1316) C dL_law_660 (by decide) (fun h660 => ?_) (fun hbad => absurd hbad (not_not_intro rfl))
  rw [mun_comm hd2]
  exact nx _ D1 E1 _ _ hD1 hM1 (mun_dis hd2) (by omega) (by omega)
set_option maxHeartbeats 4000000 in
set_option maxRecDepth 100000 in
theorem law_wipe {X : FC} {b dk md L i k n : Nat} {xs : Nat → Int32} {D E : Mem} {nT : Nat} {m : Nat → Nat → Nat} {dB : Nat → Nat → Bool} {nP : Nat} {pf : Nat → Nat → Nat} {cB : Nat → Nat → Bool} {nS : Nat} {sg : Nat → Int32} {ln : Nat → Nat} {tx : Nat → Nat → Int32} {fl : Nat → Nat → Nat} (C : Bx X yL_law cL_law) (hN : xn X = 4) (hSx : Sx X b L xs) (hi : i + 9 ≤ L) (hL : L ≤ 4608) (hk : k ≤ 500000) (hn : n ≤ 7000000) (hD : DeskS (xg X) D dk (nT, m, dB, nP, pf, cB, nS, sg, ln, tx, fl)) (hM : ModS (xg X) E md (nT, m, dB, nP, pf, cB, nS, sg, ln, tx, fl)) (hd : ∀ a, E a ≠ none → D a = none) (nx : ∀ (σ : St) (D' E' : Mem) (k' n' : Nat), DeskS (xg X) D' dk σ → ModS (xg X) E' md σ → (∀ a, E' a ≠ none → D' a = none) → k' ≤ k + 4 → n' ≤ n + 202 → V X room_1 (mun D' E') k' n' [(0, .ref b), (1, .ref dk), (2, .ref md), (3, .int (nI i))] 1316 []) : V X room_1 (mun D E) k n [(0, .ref b), (1, .ref dk), (2, .ref md), (3, .int (nI i))] 665 [] := by
  obtain ⟨fs9, hDc⟩ := hD.cell
  obtain ⟨fs10, hMc⟩ := hM.cell
  refine v_aload_n C dL_law_665 rfl ?_
  refine v_callV (As := []) (rest := []) (b := dk) C ((w_X9_wipe (xl X) (xg X) D dk nT m dB nP pf cB nS sg ln tx fl hD ).frame hd) pm_X9_wipe wI_X9_wipe wS_X9_wipe wM_L_63 kX9 (mun_l hDc) ⟨by decide, by decide⟩ ⟨show k + 0 ≤ 600000 by omega, show n + 0 ≤ 7302250 by omega⟩ (nle rfl) dL_law_666 rfl ?_
  rintro _ _ ⟨D1, ⟨rfl, hD1⟩, rfl, hd1⟩
  rw [mun_comm hd1]
  show V X room_1 (mun E D1) k n [(0, .ref b), (1, .ref dk), (2, .ref md), (3, .int (nI i))] 669 [.int (nI nS)]
  refine v_aload_n C dL_law_669 rfl ?_
  refine v_callV (As := []) (rest := [.int (nI nS)]) (b := md) C ((w_X10_wipe (xl X) (xg X) E md nT m dB nP pf cB nS sg ln tx fl hM ).frame (mun_dis hd1)) pm_X10_wipe wI_X10_wipe wS_X10_wipe wM_L_67 kX10 (mun_l hMc) ⟨by decide, by decide⟩ ⟨show k + 0 ≤ 600000 by omega, show n + 0 ≤ 7302250 by omega⟩ (nle rfl) dL_law_670 rfl ?_
  rintro _ _ ⟨E1, ⟨rfl, hM1⟩, rfl, hd2⟩
  show V X room_1 (mun E1 D1) k n [(0, .ref b), (1, .ref dk), (2, .ref md), (3, .int (nI i))] 673 [.int (nI nS), .int (nI nS)]
  refine v_icmp_eq (tgt := 1316) C dL_law_673 (by decide) (fun h673 => ?_) (fun hbad => absurd hbad (not_not_intro rfl))
  rw [mun_comm hd2]
  exact nx _ D1 E1 _ _ hD1 hM1 (mun_dis hd2) (by omega) (by omega)
set_option maxHeartbeats 4000000 in
set_option maxRecDepth 100000 in
theorem law_fault {X : FC} {b dk md L i k n : Nat} {xs : Nat → Int32} {D E : Mem} {nT : Nat} {m : Nat → Nat → Nat} {dB : Nat → Nat → Bool} {nP : Nat} {pf : Nat → Nat → Nat} {cB : Nat → Nat → Bool} {nS : Nat} {sg : Nat → Int32} {ln : Nat → Nat} {tx : Nat → Nat → Int32} {fl : Nat → Nat → Nat} (C : Bx X yL_law cL_law) (hN : xn X = 4) (hSx : Sx X b L xs) (hi : i + 9 ≤ L) (hL : L ≤ 4608) (hk : k ≤ 500000) (hn : n ≤ 7000000) (hD : DeskS (xg X) D dk (nT, m, dB, nP, pf, cB, nS, sg, ln, tx, fl)) (hM : ModS (xg X) E md (nT, m, dB, nP, pf, cB, nS, sg, ln, tx, fl)) (hd : ∀ a, E a ≠ none → D a = none) (nx : ∀ (σ : St) (D' E' : Mem) (k' n' : Nat), DeskS (xg X) D' dk σ → ModS (xg X) E' md σ → (∀ a, E' a ≠ none → D' a = none) → k' ≤ k + 4 → n' ≤ n + 202 → V X room_1 (mun D' E') k' n' [(0, .ref b), (1, .ref dk), (2, .ref md), (3, .int (nI i))] 1316 []) : V X room_1 (mun D E) k n [(0, .ref b), (1, .ref dk), (2, .ref md), (3, .int (nI i))] 678 [] := by
  obtain ⟨fs9, hDc⟩ := hD.cell
  obtain ⟨fs10, hMc⟩ := hM.cell
  refine v_aload_n C dL_law_678 rfl ?_
  refine v_callV (As := []) (rest := []) (b := dk) C ((w_X9_fault (xl X) (xg X) D dk nT m dB nP pf cB nS sg ln tx fl hD ).frame hd) pm_X9_fault wI_X9_fault wS_X9_fault wM_L_68 kX9 (mun_l hDc) ⟨by decide, by decide⟩ ⟨show k + 0 ≤ 600000 by omega, show n + 0 ≤ 7302250 by omega⟩ (nle rfl) dL_law_679 rfl ?_
  rintro _ _ ⟨D1, ⟨rfl, hD1⟩, rfl, hd1⟩
  rw [mun_comm hd1]
  show V X room_1 (mun E D1) k n [(0, .ref b), (1, .ref dk), (2, .ref md), (3, .int (nI i))] 682 [.int (oI (faultN sg nS))]
  refine v_aload_n C dL_law_682 rfl ?_
  refine v_callV (As := []) (rest := [.int (oI (faultN sg nS))]) (b := md) C ((w_X10_fault (xl X) (xg X) E md nT m dB nP pf cB nS sg ln tx fl hM ).frame (mun_dis hd1)) pm_X10_fault wI_X10_fault wS_X10_fault wM_L_71 kX10 (mun_l hMc) ⟨by decide, by decide⟩ ⟨show k + 0 ≤ 600000 by omega, show n + 0 ≤ 7302250 by omega⟩ (nle rfl) dL_law_683 rfl ?_
  rintro _ _ ⟨E1, ⟨rfl, hM1⟩, rfl, hd2⟩
  show V X room_1 (mun E1 D1) k n [(0, .ref b), (1, .ref dk), (2, .ref md), (3, .int (nI i))] 686 [.int (oI (faultN sg nS)), .int (oI (faultN sg nS))]
  refine v_icmp_eq (tgt := 1316) C dL_law_686 (by decide) (fun h686 => ?_) (fun hbad => absurd hbad (not_not_intro rfl))
  rw [mun_comm hd2]
  exact nx _ D1 E1 _ _ hD1 hM1 (mun_dis hd2) (by omega) (by omega)
set_option maxHeartbeats 4000000 in
set_option maxRecDepth 100000 in
theorem law_use {X : FC} {b dk md L i k n : Nat} {xs : Nat → Int32} {D E : Mem} {nT : Nat} {m : Nat → Nat → Nat} {dB : Nat → Nat → Bool} {nP : Nat} {pf : Nat → Nat → Nat} {cB : Nat → Nat → Bool} {nS : Nat} {sg : Nat → Int32} {ln : Nat → Nat} {tx : Nat → Nat → Int32} {fl : Nat → Nat → Nat} (C : Bx X yL_law cL_law) (hN : xn X = 4) (hSx : Sx X b L xs) (hi : i + 9 ≤ L) (hL : L ≤ 4608) (hk : k ≤ 500000) (hn : n ≤ 7000000) (hD : DeskS (xg X) D dk (nT, m, dB, nP, pf, cB, nS, sg, ln, tx, fl)) (hM : ModS (xg X) E md (nT, m, dB, nP, pf, cB, nS, sg, ln, tx, fl)) (hd : ∀ a, E a ≠ none → D a = none) (nx : ∀ (σ : St) (D' E' : Mem) (k' n' : Nat), DeskS (xg X) D' dk σ → ModS (xg X) E' md σ → (∀ a, E' a ≠ none → D' a = none) → k' ≤ k + 4 → n' ≤ n + 202 → V X room_1 (mun D' E') k' n' [(0, .ref b), (1, .ref dk), (2, .ref md), (3, .int (nI i))] 1316 []) : V X room_1 (mun D E) k n [(0, .ref b), (1, .ref dk), (2, .ref md), (3, .int (nI i))] 691 [] := by
  obtain ⟨fs9, hDc⟩ := hD.cell
  obtain ⟨fs10, hMc⟩ := hM.cell
  refine v_aload_n C dL_law_691 rfl ?_
  refine v_aload_n C dL_law_692 rfl ?_
  refine v_iload_n C dL_law_693 rfl ?_
  refine v_iconst C dL_law_694 (v := 1) rfl ?_
  refine v_iadd C dL_law_695 ?_
  rw [show ((nI i) + 1 : Int32) = nI (i + 1) from ix_ad rfl rfl]
  refine v_sld C hSx (vp_in_nI (by omega) (by omega)) dL_law_696 ?_
  rw [nI_clamp (n := i + 1) (by omega)]
  refine v_callV (As := [.int (xs (i + 1))]) (rest := []) (b := dk) C ((w_X9_use (xl X) (xg X) D dk nT m dB nP pf cB nS sg ln tx fl hD (xs (i + 1))).frame hd) pm_X9_use wI_X9_use wS_X9_use wM_L_72 kX9 (mun_l hDc) ⟨by decide, by decide⟩ ⟨show k + 0 ≤ 600000 by omega, show n + 0 ≤ 7302250 by omega⟩ (nle rfl) dL_law_697 rfl ?_
  rintro _ _ ⟨D1, ⟨rfl, hD1⟩, rfl, hd1⟩
  rw [mun_comm hd1]
  show V X room_1 (mun E D1) k n [(0, .ref b), (1, .ref dk), (2, .ref md), (3, .int (nI i))] 700 [.int (aUse nS sg ln (xs (i + 1)))]
  refine v_aload_n C dL_law_700 rfl ?_
  refine v_aload_n C dL_law_701 rfl ?_
  refine v_iload_n C dL_law_702 rfl ?_
  refine v_iconst C dL_law_703 (v := 1) rfl ?_
  refine v_iadd C dL_law_704 ?_
  rw [show ((nI i) + 1 : Int32) = nI (i + 1) from ix_ad rfl rfl]
  refine v_sld C hSx (vp_in_nI (by omega) (by omega)) dL_law_705 ?_
  rw [nI_clamp (n := i + 1) (by omega)]
  refine v_callV (As := [.int (xs (i + 1))]) (rest := [.int (aUse nS sg ln (xs (i + 1)))]) (b := md) C ((w_X10_use (xl X) (xg X) E md nT m dB nP pf cB nS sg ln tx fl hM (xs (i + 1))).frame (mun_dis hd1)) pm_X10_use wI_X10_use wS_X10_use wM_L_75 kX10 (mun_l hMc) ⟨by decide, by decide⟩ ⟨show k + 0 ≤ 600000 by omega, show n + 0 ≤ 7302250 by omega⟩ (nle rfl) dL_law_706 rfl ?_
  rintro _ _ ⟨E1, ⟨rfl, hM1⟩, rfl, hd2⟩
  show V X room_1 (mun E1 D1) k n [(0, .ref b), (1, .ref dk), (2, .ref md), (3, .int (nI i))] 709 [.int (aUse nS sg ln (xs (i + 1))), .int (aUse nS sg ln (xs (i + 1)))]
  refine v_icmp_eq (tgt := 1316) C dL_law_709 (by decide) (fun h709 => ?_) (fun hbad => absurd hbad (not_not_intro rfl))
  rw [mun_comm hd2]
  exact nx _ D1 E1 _ _ hD1 hM1 (mun_dis hd2) (by omega) (by omega)
set_option maxHeartbeats 4000000 in
set_option maxRecDepth 100000 in
theorem law_fact {X : FC} {b dk md L i k n : Nat} {xs : Nat → Int32} {D E : Mem} {nT : Nat} {m : Nat → Nat → Nat} {dB : Nat → Nat → Bool} {nP : Nat} {pf : Nat → Nat → Nat} {cB : Nat → Nat → Bool} {nS : Nat} {sg : Nat → Int32} {ln : Nat → Nat} {tx : Nat → Nat → Int32} {fl : Nat → Nat → Nat} (C : Bx X yL_law cL_law) (hN : xn X = 4) (hSx : Sx X b L xs) (hi : i + 9 ≤ L) (hL : L ≤ 4608) (hk : k ≤ 500000) (hn : n ≤ 7000000) (hD : DeskS (xg X) D dk (nT, m, dB, nP, pf, cB, nS, sg, ln, tx, fl)) (hM : ModS (xg X) E md (nT, m, dB, nP, pf, cB, nS, sg, ln, tx, fl)) (hd : ∀ a, E a ≠ none → D a = none) (nx : ∀ (σ : St) (D' E' : Mem) (k' n' : Nat), DeskS (xg X) D' dk σ → ModS (xg X) E' md σ → (∀ a, E' a ≠ none → D' a = none) → k' ≤ k + 4 → n' ≤ n + 202 → V X room_1 (mun D' E') k' n' [(0, .ref b), (1, .ref dk), (2, .ref md), (3, .int (nI i))] 1316 []) : V X room_1 (mun D E) k n [(0, .ref b), (1, .ref dk), (2, .ref md), (3, .int (nI i))] 714 [] := by
  obtain ⟨fs9, hDc⟩ := hD.cell
  obtain ⟨fs10, hMc⟩ := hM.cell
  refine v_aload_n C dL_law_714 rfl ?_
  refine v_aload_n C dL_law_715 rfl ?_
  refine v_iload_n C dL_law_716 rfl ?_
  refine v_iconst C dL_law_717 (v := 1) rfl ?_
  refine v_iadd C dL_law_718 ?_
  rw [show ((nI i) + 1 : Int32) = nI (i + 1) from ix_ad rfl rfl]
  refine v_sld C hSx (vp_in_nI (by omega) (by omega)) dL_law_719 ?_
  rw [nI_clamp (n := i + 1) (by omega)]
  refine v_aload_n C dL_law_720 rfl ?_
  refine v_iload_n C dL_law_721 rfl ?_
  refine v_iconst C dL_law_722 (v := 2) rfl ?_
  refine v_iadd C dL_law_723 ?_
  rw [show ((nI i) + 2 : Int32) = nI (i + 2) from ix_ad rfl rfl]
  refine v_sld C hSx (vp_in_nI (by omega) (by omega)) dL_law_724 ?_
  rw [nI_clamp (n := i + 2) (by omega)]
  refine v_aload_n C dL_law_725 rfl ?_
  refine v_iload_n C dL_law_726 rfl ?_
  refine v_iconst C dL_law_727 (v := 3) rfl ?_
  refine v_iadd C dL_law_728 ?_
  rw [show ((nI i) + 3 : Int32) = nI (i + 3) from ix_ad rfl rfl]
  refine v_sld C hSx (vp_in_nI (by omega) (by omega)) dL_law_729 ?_
  rw [nI_clamp (n := i + 3) (by omega)]
  refine v_callV (As := [.int (xs (i + 1)), .int (xs (i + 2)), .int (xs (i + 3))]) (rest := []) (b := dk) C ((w_X9_fact (xl X) (xg X) D dk nT m dB nP pf cB nS sg ln tx fl hD (xs (i + 1)) (xs (i + 2)) (xs (i + 3))).frame hd) pm_X9_fact wI_X9_fact wS_X9_fact wM_L_76 kX9 (mun_l hDc) ⟨by decide, by decide⟩ ⟨show k + 0 ≤ 600000 by omega, show n + 0 ≤ 7302250 by omega⟩ (nle rfl) dL_law_730 rfl ?_
  rintro _ _ ⟨D1, ⟨rfl, hD1⟩, rfl, hd1⟩
  rw [mun_comm hd1]
  show V X room_1 (mun E D1) k n [(0, .ref b), (1, .ref dk), (2, .ref md), (3, .int (nI i))] 733 [.int (aFact nT m nP pf cB (xs (i + 1)) (xs (i + 2)) (xs (i + 3)))]
  refine v_aload_n C dL_law_733 rfl ?_
  refine v_aload_n C dL_law_734 rfl ?_
  refine v_iload_n C dL_law_735 rfl ?_
  refine v_iconst C dL_law_736 (v := 1) rfl ?_
  refine v_iadd C dL_law_737 ?_
  rw [show ((nI i) + 1 : Int32) = nI (i + 1) from ix_ad rfl rfl]
  refine v_sld C hSx (vp_in_nI (by omega) (by omega)) dL_law_738 ?_
  rw [nI_clamp (n := i + 1) (by omega)]
  refine v_aload_n C dL_law_739 rfl ?_
  refine v_iload_n C dL_law_740 rfl ?_
  refine v_iconst C dL_law_741 (v := 2) rfl ?_
  refine v_iadd C dL_law_742 ?_
  rw [show ((nI i) + 2 : Int32) = nI (i + 2) from ix_ad rfl rfl]
  refine v_sld C hSx (vp_in_nI (by omega) (by omega)) dL_law_743 ?_
  rw [nI_clamp (n := i + 2) (by omega)]
  refine v_aload_n C dL_law_744 rfl ?_
  refine v_iload_n C dL_law_745 rfl ?_
  refine v_iconst C dL_law_746 (v := 3) rfl ?_
  refine v_iadd C dL_law_747 ?_
  rw [show ((nI i) + 3 : Int32) = nI (i + 3) from ix_ad rfl rfl]
  refine v_sld C hSx (vp_in_nI (by omega) (by omega)) dL_law_748 ?_
  rw [nI_clamp (n := i + 3) (by omega)]
  refine v_callV (As := [.int (xs (i + 1)), .int (xs (i + 2)), .int (xs (i + 3))]) (rest := [.int (aFact nT m nP pf cB (xs (i + 1)) (xs (i + 2)) (xs (i + 3)))]) (b := md) C ((w_X10_fact (xl X) (xg X) E md nT m dB nP pf cB nS sg ln tx fl hM (xs (i + 1)) (xs (i + 2)) (xs (i + 3))).frame (mun_dis hd1)) pm_X10_fact wI_X10_fact wS_X10_fact wM_L_79 kX10 (mun_l hMc) ⟨by decide, by decide⟩ ⟨show k + 0 ≤ 600000 by omega, show n + 0 ≤ 7302250 by omega⟩ (nle rfl) dL_law_749 rfl ?_
  rintro _ _ ⟨E1, ⟨rfl, hM1⟩, rfl, hd2⟩
  show V X room_1 (mun E1 D1) k n [(0, .ref b), (1, .ref dk), (2, .ref md), (3, .int (nI i))] 752 [.int (aFact nT m nP pf cB (xs (i + 1)) (xs (i + 2)) (xs (i + 3))), .int (aFact nT m nP pf cB (xs (i + 1)) (xs (i + 2)) (xs (i + 3)))]
  refine v_icmp_eq (tgt := 1316) C dL_law_752 (by decide) (fun h752 => ?_) (fun hbad => absurd hbad (not_not_intro rfl))
  rw [mun_comm hd2]
  exact nx _ D1 E1 _ _ hD1 hM1 (mun_dis hd2) (by omega) (by omega)
set_option maxHeartbeats 4000000 in
set_option maxRecDepth 100000 in
theorem law_fit {X : FC} {b dk md L i k n : Nat} {xs : Nat → Int32} {D E : Mem} {nT : Nat} {m : Nat → Nat → Nat} {dB : Nat → Nat → Bool} {nP : Nat} {pf : Nat → Nat → Nat} {cB : Nat → Nat → Bool} {nS : Nat} {sg : Nat → Int32} {ln : Nat → Nat} {tx : Nat → Nat → Int32} {fl : Nat → Nat → Nat} (C : Bx X yL_law cL_law) (hN : xn X = 4) (hSx : Sx X b L xs) (hi : i + 9 ≤ L) (hL : L ≤ 4608) (hk : k ≤ 500000) (hn : n ≤ 7000000) (hD : DeskS (xg X) D dk (nT, m, dB, nP, pf, cB, nS, sg, ln, tx, fl)) (hM : ModS (xg X) E md (nT, m, dB, nP, pf, cB, nS, sg, ln, tx, fl)) (hd : ∀ a, E a ≠ none → D a = none) (nx : ∀ (σ : St) (D' E' : Mem) (k' n' : Nat), DeskS (xg X) D' dk σ → ModS (xg X) E' md σ → (∀ a, E' a ≠ none → D' a = none) → k' ≤ k + 4 → n' ≤ n + 202 → V X room_1 (mun D' E') k' n' [(0, .ref b), (1, .ref dk), (2, .ref md), (3, .int (nI i))] 1316 []) : V X room_1 (mun D E) k n [(0, .ref b), (1, .ref dk), (2, .ref md), (3, .int (nI i))] 757 [] := by
  obtain ⟨fs9, hDc⟩ := hD.cell
  obtain ⟨fs10, hMc⟩ := hM.cell
  refine v_aload_n C dL_law_757 rfl ?_
  refine v_aload_n C dL_law_758 rfl ?_
  refine v_iload_n C dL_law_759 rfl ?_
  refine v_iconst C dL_law_760 (v := 1) rfl ?_
  refine v_iadd C dL_law_761 ?_
  rw [show ((nI i) + 1 : Int32) = nI (i + 1) from ix_ad rfl rfl]
  refine v_sld C hSx (vp_in_nI (by omega) (by omega)) dL_law_762 ?_
  rw [nI_clamp (n := i + 1) (by omega)]
  refine v_aload_n C dL_law_763 rfl ?_
  refine v_iload_n C dL_law_764 rfl ?_
  refine v_iconst C dL_law_765 (v := 2) rfl ?_
  refine v_iadd C dL_law_766 ?_
  rw [show ((nI i) + 2 : Int32) = nI (i + 2) from ix_ad rfl rfl]
  refine v_sld C hSx (vp_in_nI (by omega) (by omega)) dL_law_767 ?_
  rw [nI_clamp (n := i + 2) (by omega)]
  refine v_aload_n C dL_law_768 rfl ?_
  refine v_iload_n C dL_law_769 rfl ?_
  refine v_iconst C dL_law_770 (v := 3) rfl ?_
  refine v_iadd C dL_law_771 ?_
  rw [show ((nI i) + 3 : Int32) = nI (i + 3) from ix_ad rfl rfl]
  refine v_sld C hSx (vp_in_nI (by omega) (by omega)) dL_law_772 ?_
  rw [nI_clamp (n := i + 3) (by omega)]
  refine v_callV (As := [.int (xs (i + 1)), .int (xs (i + 2)), .int (xs (i + 3))]) (rest := []) (b := dk) C ((w_X9_fit (xl X) (xg X) D dk nT m dB nP pf cB nS sg ln tx fl hD (xs (i + 1)) (xs (i + 2)) (xs (i + 3))).frame hd) pm_X9_fit wI_X9_fit wS_X9_fit wM_L_80 kX9 (mun_l hDc) ⟨by decide, by decide⟩ ⟨show k + 0 ≤ 600000 by omega, show n + 0 ≤ 7302250 by omega⟩ (nle rfl) dL_law_773 rfl ?_
  rintro _ _ ⟨D1, ⟨rfl, hD1⟩, rfl, hd1⟩
  rw [mun_comm hd1]
  show V X room_1 (mun E D1) k n [(0, .ref b), (1, .ref dk), (2, .ref md), (3, .int (nI i))] 776 [.int (aFit nT m nP pf cB ln tx (xs (i + 1)) (xs (i + 2)) (xs (i + 3)))]
  refine v_aload_n C dL_law_776 rfl ?_
  refine v_aload_n C dL_law_777 rfl ?_
  refine v_iload_n C dL_law_778 rfl ?_
  refine v_iconst C dL_law_779 (v := 1) rfl ?_
  refine v_iadd C dL_law_780 ?_
  rw [show ((nI i) + 1 : Int32) = nI (i + 1) from ix_ad rfl rfl]
  refine v_sld C hSx (vp_in_nI (by omega) (by omega)) dL_law_781 ?_
  rw [nI_clamp (n := i + 1) (by omega)]
  refine v_aload_n C dL_law_782 rfl ?_
  refine v_iload_n C dL_law_783 rfl ?_
  refine v_iconst C dL_law_784 (v := 2) rfl ?_
  refine v_iadd C dL_law_785 ?_
  rw [show ((nI i) + 2 : Int32) = nI (i + 2) from ix_ad rfl rfl]
  refine v_sld C hSx (vp_in_nI (by omega) (by omega)) dL_law_786 ?_
  rw [nI_clamp (n := i + 2) (by omega)]
  refine v_aload_n C dL_law_787 rfl ?_
  refine v_iload_n C dL_law_788 rfl ?_
  refine v_iconst C dL_law_789 (v := 3) rfl ?_
  refine v_iadd C dL_law_790 ?_
  rw [show ((nI i) + 3 : Int32) = nI (i + 3) from ix_ad rfl rfl]
  refine v_sld C hSx (vp_in_nI (by omega) (by omega)) dL_law_791 ?_
  rw [nI_clamp (n := i + 3) (by omega)]
  refine v_callV (As := [.int (xs (i + 1)), .int (xs (i + 2)), .int (xs (i + 3))]) (rest := [.int (aFit nT m nP pf cB ln tx (xs (i + 1)) (xs (i + 2)) (xs (i + 3)))]) (b := md) C ((w_X10_fit (xl X) (xg X) E md nT m dB nP pf cB nS sg ln tx fl hM (xs (i + 1)) (xs (i + 2)) (xs (i + 3))).frame (mun_dis hd1)) pm_X10_fit wI_X10_fit wS_X10_fit wM_L_83 kX10 (mun_l hMc) ⟨by decide, by decide⟩ ⟨show k + 0 ≤ 600000 by omega, show n + 0 ≤ 7302250 by omega⟩ (nle rfl) dL_law_792 rfl ?_
  rintro _ _ ⟨E1, ⟨rfl, hM1⟩, rfl, hd2⟩
  show V X room_1 (mun E1 D1) k n [(0, .ref b), (1, .ref dk), (2, .ref md), (3, .int (nI i))] 795 [.int (aFit nT m nP pf cB ln tx (xs (i + 1)) (xs (i + 2)) (xs (i + 3))), .int (aFit nT m nP pf cB ln tx (xs (i + 1)) (xs (i + 2)) (xs (i + 3)))]
  refine v_icmp_eq (tgt := 1316) C dL_law_795 (by decide) (fun h795 => ?_) (fun hbad => absurd hbad (not_not_intro rfl))
  rw [mun_comm hd2]
  exact nx _ D1 E1 _ _ hD1 hM1 (mun_dis hd2) (by omega) (by omega)
set_option maxHeartbeats 4000000 in
set_option maxRecDepth 100000 in
theorem law_could {X : FC} {b dk md L i k n : Nat} {xs : Nat → Int32} {D E : Mem} {nT : Nat} {m : Nat → Nat → Nat} {dB : Nat → Nat → Bool} {nP : Nat} {pf : Nat → Nat → Nat} {cB : Nat → Nat → Bool} {nS : Nat} {sg : Nat → Int32} {ln : Nat → Nat} {tx : Nat → Nat → Int32} {fl : Nat → Nat → Nat} (C : Bx X yL_law cL_law) (hN : xn X = 4) (hSx : Sx X b L xs) (hi : i + 9 ≤ L) (hL : L ≤ 4608) (hk : k ≤ 500000) (hn : n ≤ 7000000) (hD : DeskS (xg X) D dk (nT, m, dB, nP, pf, cB, nS, sg, ln, tx, fl)) (hM : ModS (xg X) E md (nT, m, dB, nP, pf, cB, nS, sg, ln, tx, fl)) (hd : ∀ a, E a ≠ none → D a = none) (nx : ∀ (σ : St) (D' E' : Mem) (k' n' : Nat), DeskS (xg X) D' dk σ → ModS (xg X) E' md σ → (∀ a, E' a ≠ none → D' a = none) → k' ≤ k + 4 → n' ≤ n + 202 → V X room_1 (mun D' E') k' n' [(0, .ref b), (1, .ref dk), (2, .ref md), (3, .int (nI i))] 1316 []) : V X room_1 (mun D E) k n [(0, .ref b), (1, .ref dk), (2, .ref md), (3, .int (nI i))] 800 [] := by
  obtain ⟨fs9, hDc⟩ := hD.cell
  obtain ⟨fs10, hMc⟩ := hM.cell
  refine v_aload_n C dL_law_800 rfl ?_
  refine v_aload_n C dL_law_801 rfl ?_
  refine v_iload_n C dL_law_802 rfl ?_
  refine v_iconst C dL_law_803 (v := 1) rfl ?_
  refine v_iadd C dL_law_804 ?_
  rw [show ((nI i) + 1 : Int32) = nI (i + 1) from ix_ad rfl rfl]
  refine v_sld C hSx (vp_in_nI (by omega) (by omega)) dL_law_805 ?_
  rw [nI_clamp (n := i + 1) (by omega)]
  refine v_aload_n C dL_law_806 rfl ?_
  refine v_iload_n C dL_law_807 rfl ?_
  refine v_iconst C dL_law_808 (v := 2) rfl ?_
  refine v_iadd C dL_law_809 ?_
  rw [show ((nI i) + 2 : Int32) = nI (i + 2) from ix_ad rfl rfl]
  refine v_sld C hSx (vp_in_nI (by omega) (by omega)) dL_law_810 ?_
  rw [nI_clamp (n := i + 2) (by omega)]
  refine v_callV (As := [.int (xs (i + 1)), .int (xs (i + 2))]) (rest := []) (b := dk) C ((w_X9_could (xl X) (xg X) D dk nT m dB nP pf cB nS sg ln tx fl hD (xs (i + 1)) (xs (i + 2))).frame hd) pm_X9_could wI_X9_could wS_X9_could wM_L_84 kX9 (mun_l hDc) ⟨by decide, by decide⟩ ⟨show k + 0 ≤ 600000 by omega, show n + 0 ≤ 7302250 by omega⟩ (nle rfl) dL_law_811 rfl ?_
  rintro _ _ ⟨D1, ⟨rfl, hD1⟩, rfl, hd1⟩
  rw [mun_comm hd1]
  show V X room_1 (mun E D1) k n [(0, .ref b), (1, .ref dk), (2, .ref md), (3, .int (nI i))] 814 [.int (aCould nT m nP pf cB ln tx (xs (i + 1)) (xs (i + 2)))]
  refine v_aload_n C dL_law_814 rfl ?_
  refine v_aload_n C dL_law_815 rfl ?_
  refine v_iload_n C dL_law_816 rfl ?_
  refine v_iconst C dL_law_817 (v := 1) rfl ?_
  refine v_iadd C dL_law_818 ?_
  rw [show ((nI i) + 1 : Int32) = nI (i + 1) from ix_ad rfl rfl]
  refine v_sld C hSx (vp_in_nI (by omega) (by omega)) dL_law_819 ?_
  rw [nI_clamp (n := i + 1) (by omega)]
  refine v_aload_n C dL_law_820 rfl ?_
  refine v_iload_n C dL_law_821 rfl ?_
  refine v_iconst C dL_law_822 (v := 2) rfl ?_
  refine v_iadd C dL_law_823 ?_
  rw [show ((nI i) + 2 : Int32) = nI (i + 2) from ix_ad rfl rfl]
  refine v_sld C hSx (vp_in_nI (by omega) (by omega)) dL_law_824 ?_
  rw [nI_clamp (n := i + 2) (by omega)]
  refine v_callV (As := [.int (xs (i + 1)), .int (xs (i + 2))]) (rest := [.int (aCould nT m nP pf cB ln tx (xs (i + 1)) (xs (i + 2)))]) (b := md) C ((w_X10_could (xl X) (xg X) E md nT m dB nP pf cB nS sg ln tx fl hM (xs (i + 1)) (xs (i + 2))).frame (mun_dis hd1)) pm_X10_could wI_X10_could wS_X10_could wM_L_87 kX10 (mun_l hMc) ⟨by decide, by decide⟩ ⟨show k + 0 ≤ 600000 by omega, show n + 0 ≤ 7302250 by omega⟩ (nle rfl) dL_law_825 rfl ?_
  rintro _ _ ⟨E1, ⟨rfl, hM1⟩, rfl, hd2⟩
  show V X room_1 (mun E1 D1) k n [(0, .ref b), (1, .ref dk), (2, .ref md), (3, .int (nI i))] 828 [.int (aCould nT m nP pf cB ln tx (xs (i + 1)) (xs (i + 2))), .int (aCould nT m nP pf cB ln tx (xs (i + 1)) (xs (i + 2)))]
  refine v_icmp_eq (tgt := 1316) C dL_law_828 (by decide) (fun h828 => ?_) (fun hbad => absurd hbad (not_not_intro rfl))
  rw [mun_comm hd2]
  exact nx _ D1 E1 _ _ hD1 hM1 (mun_dis hd2) (by omega) (by omega)
set_option maxHeartbeats 4000000 in
set_option maxRecDepth 100000 in
theorem law_all {X : FC} {b dk md L i k n : Nat} {xs : Nat → Int32} {D E : Mem} {nT : Nat} {m : Nat → Nat → Nat} {dB : Nat → Nat → Bool} {nP : Nat} {pf : Nat → Nat → Nat} {cB : Nat → Nat → Bool} {nS : Nat} {sg : Nat → Int32} {ln : Nat → Nat} {tx : Nat → Nat → Int32} {fl : Nat → Nat → Nat} (C : Bx X yL_law cL_law) (hN : xn X = 4) (hSx : Sx X b L xs) (hi : i + 9 ≤ L) (hL : L ≤ 4608) (hk : k ≤ 500000) (hn : n ≤ 7000000) (hD : DeskS (xg X) D dk (nT, m, dB, nP, pf, cB, nS, sg, ln, tx, fl)) (hM : ModS (xg X) E md (nT, m, dB, nP, pf, cB, nS, sg, ln, tx, fl)) (hd : ∀ a, E a ≠ none → D a = none) (nx : ∀ (σ : St) (D' E' : Mem) (k' n' : Nat), DeskS (xg X) D' dk σ → ModS (xg X) E' md σ → (∀ a, E' a ≠ none → D' a = none) → k' ≤ k + 4 → n' ≤ n + 202 → V X room_1 (mun D' E') k' n' [(0, .ref b), (1, .ref dk), (2, .ref md), (3, .int (nI i))] 1316 []) : V X room_1 (mun D E) k n [(0, .ref b), (1, .ref dk), (2, .ref md), (3, .int (nI i))] 833 [] := by
  obtain ⟨fs9, hDc⟩ := hD.cell
  obtain ⟨fs10, hMc⟩ := hM.cell
  refine v_aload_n C dL_law_833 rfl ?_
  refine v_aload_n C dL_law_834 rfl ?_
  refine v_iload_n C dL_law_835 rfl ?_
  refine v_iconst C dL_law_836 (v := 1) rfl ?_
  refine v_iadd C dL_law_837 ?_
  rw [show ((nI i) + 1 : Int32) = nI (i + 1) from ix_ad rfl rfl]
  refine v_sld C hSx (vp_in_nI (by omega) (by omega)) dL_law_838 ?_
  rw [nI_clamp (n := i + 1) (by omega)]
  refine v_aload_n C dL_law_839 rfl ?_
  refine v_iload_n C dL_law_840 rfl ?_
  refine v_iconst C dL_law_841 (v := 2) rfl ?_
  refine v_iadd C dL_law_842 ?_
  rw [show ((nI i) + 2 : Int32) = nI (i + 2) from ix_ad rfl rfl]
  refine v_sld C hSx (vp_in_nI (by omega) (by omega)) dL_law_843 ?_
  rw [nI_clamp (n := i + 2) (by omega)]
  refine v_aload_n C dL_law_844 rfl ?_
  refine v_iload_n C dL_law_845 rfl ?_
  refine v_iconst C dL_law_846 (v := 3) rfl ?_
  refine v_iadd C dL_law_847 ?_
  rw [show ((nI i) + 3 : Int32) = nI (i + 3) from ix_ad rfl rfl]
  refine v_sld C hSx (vp_in_nI (by omega) (by omega)) dL_law_848 ?_
  rw [nI_clamp (n := i + 3) (by omega)]
  refine v_callV (As := [.int (xs (i + 1)), .int (xs (i + 2)), .int (xs (i + 3))]) (rest := []) (b := dk) C ((w_X9_all (xl X) (xg X) D dk nT m dB nP pf cB nS sg ln tx fl hD (xs (i + 1)) (xs (i + 2)) (xs (i + 3))).frame hd) pm_X9_all wI_X9_all wS_X9_all wM_L_88 kX9 (mun_l hDc) ⟨by decide, by decide⟩ ⟨show k + 0 ≤ 600000 by omega, show n + 0 ≤ 7302250 by omega⟩ (nle rfl) dL_law_849 rfl ?_
  rintro _ _ ⟨D1, ⟨rfl, hD1⟩, rfl, hd1⟩
  rw [mun_comm hd1]
  show V X room_1 (mun E D1) k n [(0, .ref b), (1, .ref dk), (2, .ref md), (3, .int (nI i))] 852 [.int (aAll nT m nP pf cB ln tx (xs (i + 1)) (xs (i + 2)) (xs (i + 3)))]
  refine v_aload_n C dL_law_852 rfl ?_
  refine v_aload_n C dL_law_853 rfl ?_
  refine v_iload_n C dL_law_854 rfl ?_
  refine v_iconst C dL_law_855 (v := 1) rfl ?_
  refine v_iadd C dL_law_856 ?_
  rw [show ((nI i) + 1 : Int32) = nI (i + 1) from ix_ad rfl rfl]
  refine v_sld C hSx (vp_in_nI (by omega) (by omega)) dL_law_857 ?_
  rw [nI_clamp (n := i + 1) (by omega)]
  refine v_aload_n C dL_law_858 rfl ?_
  refine v_iload_n C dL_law_859 rfl ?_
  refine v_iconst C dL_law_860 (v := 2) rfl ?_
  refine v_iadd C dL_law_861 ?_
  rw [show ((nI i) + 2 : Int32) = nI (i + 2) from ix_ad rfl rfl]
  refine v_sld C hSx (vp_in_nI (by omega) (by omega)) dL_law_862 ?_
  rw [nI_clamp (n := i + 2) (by omega)]
  refine v_aload_n C dL_law_863 rfl ?_
  refine v_iload_n C dL_law_864 rfl ?_
  refine v_iconst C dL_law_865 (v := 3) rfl ?_
  refine v_iadd C dL_law_866 ?_
  rw [show ((nI i) + 3 : Int32) = nI (i + 3) from ix_ad rfl rfl]
  refine v_sld C hSx (vp_in_nI (by omega) (by omega)) dL_law_867 ?_
  rw [nI_clamp (n := i + 3) (by omega)]
  refine v_callV (As := [.int (xs (i + 1)), .int (xs (i + 2)), .int (xs (i + 3))]) (rest := [.int (aAll nT m nP pf cB ln tx (xs (i + 1)) (xs (i + 2)) (xs (i + 3)))]) (b := md) C ((w_X10_all (xl X) (xg X) E md nT m dB nP pf cB nS sg ln tx fl hM (xs (i + 1)) (xs (i + 2)) (xs (i + 3))).frame (mun_dis hd1)) pm_X10_all wI_X10_all wS_X10_all wM_L_91 kX10 (mun_l hMc) ⟨by decide, by decide⟩ ⟨show k + 0 ≤ 600000 by omega, show n + 0 ≤ 7302250 by omega⟩ (nle rfl) dL_law_868 rfl ?_
  rintro _ _ ⟨E1, ⟨rfl, hM1⟩, rfl, hd2⟩
  show V X room_1 (mun E1 D1) k n [(0, .ref b), (1, .ref dk), (2, .ref md), (3, .int (nI i))] 871 [.int (aAll nT m nP pf cB ln tx (xs (i + 1)) (xs (i + 2)) (xs (i + 3))), .int (aAll nT m nP pf cB ln tx (xs (i + 1)) (xs (i + 2)) (xs (i + 3)))]
  refine v_icmp_eq (tgt := 1316) C dL_law_871 (by decide) (fun h871 => ?_) (fun hbad => absurd hbad (not_not_intro rfl))
  rw [mun_comm hd2]
  exact nx _ D1 E1 _ _ hD1 hM1 (mun_dis hd2) (by omega) (by omega)
set_option maxHeartbeats 4000000 in
set_option maxRecDepth 100000 in
theorem law_meet {X : FC} {b dk md L i k n : Nat} {xs : Nat → Int32} {D E : Mem} {nT : Nat} {m : Nat → Nat → Nat} {dB : Nat → Nat → Bool} {nP : Nat} {pf : Nat → Nat → Nat} {cB : Nat → Nat → Bool} {nS : Nat} {sg : Nat → Int32} {ln : Nat → Nat} {tx : Nat → Nat → Int32} {fl : Nat → Nat → Nat} (C : Bx X yL_law cL_law) (hN : xn X = 4) (hSx : Sx X b L xs) (hi : i + 9 ≤ L) (hL : L ≤ 4608) (hk : k ≤ 500000) (hn : n ≤ 7000000) (hD : DeskS (xg X) D dk (nT, m, dB, nP, pf, cB, nS, sg, ln, tx, fl)) (hM : ModS (xg X) E md (nT, m, dB, nP, pf, cB, nS, sg, ln, tx, fl)) (hd : ∀ a, E a ≠ none → D a = none) (nx : ∀ (σ : St) (D' E' : Mem) (k' n' : Nat), DeskS (xg X) D' dk σ → ModS (xg X) E' md σ → (∀ a, E' a ≠ none → D' a = none) → k' ≤ k + 4 → n' ≤ n + 202 → V X room_1 (mun D' E') k' n' [(0, .ref b), (1, .ref dk), (2, .ref md), (3, .int (nI i))] 1316 []) : V X room_1 (mun D E) k n [(0, .ref b), (1, .ref dk), (2, .ref md), (3, .int (nI i))] 876 [] := by
  obtain ⟨fs9, hDc⟩ := hD.cell
  obtain ⟨fs10, hMc⟩ := hM.cell
  refine v_aload_n C dL_law_876 rfl ?_
  refine v_aload_n C dL_law_877 rfl ?_
  refine v_iload_n C dL_law_878 rfl ?_
  refine v_iconst C dL_law_879 (v := 1) rfl ?_
  refine v_iadd C dL_law_880 ?_
  rw [show ((nI i) + 1 : Int32) = nI (i + 1) from ix_ad rfl rfl]
  refine v_sld C hSx (vp_in_nI (by omega) (by omega)) dL_law_881 ?_
  rw [nI_clamp (n := i + 1) (by omega)]
  refine v_aload_n C dL_law_882 rfl ?_
  refine v_iload_n C dL_law_883 rfl ?_
  refine v_iconst C dL_law_884 (v := 2) rfl ?_
  refine v_iadd C dL_law_885 ?_
  rw [show ((nI i) + 2 : Int32) = nI (i + 2) from ix_ad rfl rfl]
  refine v_sld C hSx (vp_in_nI (by omega) (by omega)) dL_law_886 ?_
  rw [nI_clamp (n := i + 2) (by omega)]
  refine v_callV (As := [.int (xs (i + 1)), .int (xs (i + 2))]) (rest := []) (b := dk) C ((w_X9_meet (xl X) (xg X) D dk nT m dB nP pf cB nS sg ln tx fl hD (xs (i + 1)) (xs (i + 2))).frame hd) pm_X9_meet wI_X9_meet wS_X9_meet wM_L_92 kX9 (mun_l hDc) ⟨by decide, by decide⟩ ⟨show k + 0 ≤ 600000 by omega, show n + 0 ≤ 7302250 by omega⟩ (nle rfl) dL_law_887 rfl ?_
  rintro _ _ ⟨D1, ⟨rfl, hD1⟩, rfl, hd1⟩
  rw [mun_comm hd1]
  show V X room_1 (mun E D1) k n [(0, .ref b), (1, .ref dk), (2, .ref md), (3, .int (nI i))] 890 [.int (aMeet nT m (xs (i + 1)) (xs (i + 2)))]
  refine v_aload_n C dL_law_890 rfl ?_
  refine v_aload_n C dL_law_891 rfl ?_
  refine v_iload_n C dL_law_892 rfl ?_
  refine v_iconst C dL_law_893 (v := 1) rfl ?_
  refine v_iadd C dL_law_894 ?_
  rw [show ((nI i) + 1 : Int32) = nI (i + 1) from ix_ad rfl rfl]
  refine v_sld C hSx (vp_in_nI (by omega) (by omega)) dL_law_895 ?_
  rw [nI_clamp (n := i + 1) (by omega)]
  refine v_aload_n C dL_law_896 rfl ?_
  refine v_iload_n C dL_law_897 rfl ?_
  refine v_iconst C dL_law_898 (v := 2) rfl ?_
  refine v_iadd C dL_law_899 ?_
  rw [show ((nI i) + 2 : Int32) = nI (i + 2) from ix_ad rfl rfl]
  refine v_sld C hSx (vp_in_nI (by omega) (by omega)) dL_law_900 ?_
  rw [nI_clamp (n := i + 2) (by omega)]
  refine v_callV (As := [.int (xs (i + 1)), .int (xs (i + 2))]) (rest := [.int (aMeet nT m (xs (i + 1)) (xs (i + 2)))]) (b := md) C ((w_X10_meet (xl X) (xg X) E md nT m dB nP pf cB nS sg ln tx fl hM (xs (i + 1)) (xs (i + 2))).frame (mun_dis hd1)) pm_X10_meet wI_X10_meet wS_X10_meet wM_L_95 kX10 (mun_l hMc) ⟨by decide, by decide⟩ ⟨show k + 0 ≤ 600000 by omega, show n + 0 ≤ 7302250 by omega⟩ (nle rfl) dL_law_901 rfl ?_
  rintro _ _ ⟨E1, ⟨rfl, hM1⟩, rfl, hd2⟩
  show V X room_1 (mun E1 D1) k n [(0, .ref b), (1, .ref dk), (2, .ref md), (3, .int (nI i))] 904 [.int (aMeet nT m (xs (i + 1)) (xs (i + 2))), .int (aMeet nT m (xs (i + 1)) (xs (i + 2)))]
  refine v_icmp_eq (tgt := 1316) C dL_law_904 (by decide) (fun h904 => ?_) (fun hbad => absurd hbad (not_not_intro rfl))
  rw [mun_comm hd2]
  exact nx _ D1 E1 _ _ hD1 hM1 (mun_dis hd2) (by omega) (by omega)
set_option maxHeartbeats 4000000 in
set_option maxRecDepth 100000 in
theorem law_chance {X : FC} {b dk md L i k n : Nat} {xs : Nat → Int32} {D E : Mem} {nT : Nat} {m : Nat → Nat → Nat} {dB : Nat → Nat → Bool} {nP : Nat} {pf : Nat → Nat → Nat} {cB : Nat → Nat → Bool} {nS : Nat} {sg : Nat → Int32} {ln : Nat → Nat} {tx : Nat → Nat → Int32} {fl : Nat → Nat → Nat} (C : Bx X yL_law cL_law) (hN : xn X = 4) (hSx : Sx X b L xs) (hi : i + 9 ≤ L) (hL : L ≤ 4608) (hk : k ≤ 500000) (hn : n ≤ 7000000) (hD : DeskS (xg X) D dk (nT, m, dB, nP, pf, cB, nS, sg, ln, tx, fl)) (hM : ModS (xg X) E md (nT, m, dB, nP, pf, cB, nS, sg, ln, tx, fl)) (hd : ∀ a, E a ≠ none → D a = none) (nx : ∀ (σ : St) (D' E' : Mem) (k' n' : Nat), DeskS (xg X) D' dk σ → ModS (xg X) E' md σ → (∀ a, E' a ≠ none → D' a = none) → k' ≤ k + 4 → n' ≤ n + 202 → V X room_1 (mun D' E') k' n' [(0, .ref b), (1, .ref dk), (2, .ref md), (3, .int (nI i))] 1316 []) : V X room_1 (mun D E) k n [(0, .ref b), (1, .ref dk), (2, .ref md), (3, .int (nI i))] 909 [] := by
  obtain ⟨fs9, hDc⟩ := hD.cell
  obtain ⟨fs10, hMc⟩ := hM.cell
  refine v_aload_n C dL_law_909 rfl ?_
  refine v_aload_n C dL_law_910 rfl ?_
  refine v_iload_n C dL_law_911 rfl ?_
  refine v_iconst C dL_law_912 (v := 1) rfl ?_
  refine v_iadd C dL_law_913 ?_
  rw [show ((nI i) + 1 : Int32) = nI (i + 1) from ix_ad rfl rfl]
  refine v_sld C hSx (vp_in_nI (by omega) (by omega)) dL_law_914 ?_
  rw [nI_clamp (n := i + 1) (by omega)]
  refine v_aload_n C dL_law_915 rfl ?_
  refine v_iload_n C dL_law_916 rfl ?_
  refine v_iconst C dL_law_917 (v := 2) rfl ?_
  refine v_iadd C dL_law_918 ?_
  rw [show ((nI i) + 2 : Int32) = nI (i + 2) from ix_ad rfl rfl]
  refine v_sld C hSx (vp_in_nI (by omega) (by omega)) dL_law_919 ?_
  rw [nI_clamp (n := i + 2) (by omega)]
  refine v_callV (As := [.int (xs (i + 1)), .int (xs (i + 2))]) (rest := []) (b := dk) C ((w_X9_chance (xl X) (xg X) D dk nT m dB nP pf cB nS sg ln tx fl hD (xs (i + 1)) (xs (i + 2))).frame hd) pm_X9_chance wI_X9_chance wS_X9_chance wM_L_96 kX9 (mun_l hDc) ⟨by decide, by decide⟩ ⟨show k + 0 ≤ 600000 by omega, show n + 0 ≤ 7302250 by omega⟩ (nle rfl) dL_law_920 rfl ?_
  rintro _ _ ⟨D1, ⟨rfl, hD1⟩, rfl, hd1⟩
  rw [mun_comm hd1]
  show V X room_1 (mun E D1) k n [(0, .ref b), (1, .ref dk), (2, .ref md), (3, .int (nI i))] 923 [.long (aChance nT m (xs (i + 1)) (xs (i + 2)))]
  refine v_aload_n C dL_law_923 rfl ?_
  refine v_aload_n C dL_law_924 rfl ?_
  refine v_iload_n C dL_law_925 rfl ?_
  refine v_iconst C dL_law_926 (v := 1) rfl ?_
  refine v_iadd C dL_law_927 ?_
  rw [show ((nI i) + 1 : Int32) = nI (i + 1) from ix_ad rfl rfl]
  refine v_sld C hSx (vp_in_nI (by omega) (by omega)) dL_law_928 ?_
  rw [nI_clamp (n := i + 1) (by omega)]
  refine v_aload_n C dL_law_929 rfl ?_
  refine v_iload_n C dL_law_930 rfl ?_
  refine v_iconst C dL_law_931 (v := 2) rfl ?_
  refine v_iadd C dL_law_932 ?_
  rw [show ((nI i) + 2 : Int32) = nI (i + 2) from ix_ad rfl rfl]
  refine v_sld C hSx (vp_in_nI (by omega) (by omega)) dL_law_933 ?_
  rw [nI_clamp (n := i + 2) (by omega)]
  refine v_callV (As := [.int (xs (i + 1)), .int (xs (i + 2))]) (rest := [.long (aChance nT m (xs (i + 1)) (xs (i + 2)))]) (b := md) C ((w_X10_chance (xl X) (xg X) E md nT m dB nP pf cB nS sg ln tx fl hM (xs (i + 1)) (xs (i + 2))).frame (mun_dis hd1)) pm_X10_chance wI_X10_chance wS_X10_chance wM_L_100 kX10 (mun_l hMc) ⟨by decide, by decide⟩ ⟨show k + 0 ≤ 600000 by omega, show n + 0 ≤ 7302250 by omega⟩ (nle rfl) dL_law_934 rfl ?_
  rintro _ _ ⟨E1, ⟨rfl, hM1⟩, rfl, hd2⟩
  show V X room_1 (mun E1 D1) k n [(0, .ref b), (1, .ref dk), (2, .ref md), (3, .int (nI i))] 937 [.long (aChance nT m (xs (i + 1)) (xs (i + 2))), .long (aChance nT m (xs (i + 1)) (xs (i + 2)))]
  refine v_lcmp C dL_law_937 ?_
  refine v_if_eq (tgt := 1316) C dL_law_938 (by decide) (fun h938 => ?_) (fun hbad => absurd hbad (not_not_intro ((lg_cmp_eq _ _).mpr rfl)))
  rw [mun_comm hd2]
  exact nx _ D1 E1 _ _ hD1 hM1 (mun_dis hd2) (by omega) (by omega)
set_option maxHeartbeats 4000000 in
set_option maxRecDepth 100000 in
theorem law_did {X : FC} {b dk md L i k n : Nat} {xs : Nat → Int32} {D E : Mem} {nT : Nat} {m : Nat → Nat → Nat} {dB : Nat → Nat → Bool} {nP : Nat} {pf : Nat → Nat → Nat} {cB : Nat → Nat → Bool} {nS : Nat} {sg : Nat → Int32} {ln : Nat → Nat} {tx : Nat → Nat → Int32} {fl : Nat → Nat → Nat} (C : Bx X yL_law cL_law) (hN : xn X = 4) (hSx : Sx X b L xs) (hi : i + 9 ≤ L) (hL : L ≤ 4608) (hk : k ≤ 500000) (hn : n ≤ 7000000) (hD : DeskS (xg X) D dk (nT, m, dB, nP, pf, cB, nS, sg, ln, tx, fl)) (hM : ModS (xg X) E md (nT, m, dB, nP, pf, cB, nS, sg, ln, tx, fl)) (hd : ∀ a, E a ≠ none → D a = none) (nx : ∀ (σ : St) (D' E' : Mem) (k' n' : Nat), DeskS (xg X) D' dk σ → ModS (xg X) E' md σ → (∀ a, E' a ≠ none → D' a = none) → k' ≤ k + 4 → n' ≤ n + 202 → V X room_1 (mun D' E') k' n' [(0, .ref b), (1, .ref dk), (2, .ref md), (3, .int (nI i))] 1316 []) : V X room_1 (mun D E) k n [(0, .ref b), (1, .ref dk), (2, .ref md), (3, .int (nI i))] 943 [] := by
  obtain ⟨fs9, hDc⟩ := hD.cell
  obtain ⟨fs10, hMc⟩ := hM.cell
  refine v_aload_n C dL_law_943 rfl ?_
  refine v_aload_n C dL_law_944 rfl ?_
  refine v_iload_n C dL_law_945 rfl ?_
  refine v_iconst C dL_law_946 (v := 1) rfl ?_
  refine v_iadd C dL_law_947 ?_
  rw [show ((nI i) + 1 : Int32) = nI (i + 1) from ix_ad rfl rfl]
  refine v_sld C hSx (vp_in_nI (by omega) (by omega)) dL_law_948 ?_
  rw [nI_clamp (n := i + 1) (by omega)]
  refine v_aload_n C dL_law_949 rfl ?_
  refine v_iload_n C dL_law_950 rfl ?_
  refine v_iconst C dL_law_951 (v := 2) rfl ?_
  refine v_iadd C dL_law_952 ?_
  rw [show ((nI i) + 2 : Int32) = nI (i + 2) from ix_ad rfl rfl]
  refine v_sld C hSx (vp_in_nI (by omega) (by omega)) dL_law_953 ?_
  rw [nI_clamp (n := i + 2) (by omega)]
  refine v_aload_n C dL_law_954 rfl ?_
  refine v_iload_n C dL_law_955 rfl ?_
  refine v_iconst C dL_law_956 (v := 3) rfl ?_
  refine v_iadd C dL_law_957 ?_
  rw [show ((nI i) + 3 : Int32) = nI (i + 3) from ix_ad rfl rfl]
  refine v_sld C hSx (vp_in_nI (by omega) (by omega)) dL_law_958 ?_
  rw [nI_clamp (n := i + 3) (by omega)]
  refine v_if_eq (tgt := 966) C dL_law_959 (by decide) (fun h959 => ?_) (fun h959 => ?_)
  · refine v_iconst C dL_law_966 (v := 0) rfl ?_
    refine v_callV (As := [.int (xs (i + 1)), .int (xs (i + 2)), .int 0]) (rest := []) (b := dk) C ((w_X9_did (xl X) (xg X) D dk nT m dB nP pf cB nS sg ln tx fl hD (xs (i + 1)) (xs (i + 2)) false).frame hd) pm_X9_did wI_X9_did wS_X9_did wM_L_101 kX9 (mun_l hDc) ⟨by decide, by decide⟩ ⟨show k + 0 ≤ 600000 by omega, show n + 0 ≤ 7302250 by omega⟩ (nle rfl) dL_law_967 rfl ?_
    rintro _ _ ⟨D1, ⟨rfl, hD1⟩, rfl, hd1⟩
    rw [mun_comm hd1]
    show V X room_1 (mun E D1) k n [(0, .ref b), (1, .ref dk), (2, .ref md), (3, .int (nI i))] 970 [.int (aDid nT dB (xs (i + 1)) (xs (i + 2)))]
    refine v_aload_n C dL_law_970 rfl ?_
    refine v_aload_n C dL_law_971 rfl ?_
    refine v_iload_n C dL_law_972 rfl ?_
    refine v_iconst C dL_law_973 (v := 1) rfl ?_
    refine v_iadd C dL_law_974 ?_
    rw [show ((nI i) + 1 : Int32) = nI (i + 1) from ix_ad rfl rfl]
    refine v_sld C hSx (vp_in_nI (by omega) (by omega)) dL_law_975 ?_
    rw [nI_clamp (n := i + 1) (by omega)]
    refine v_aload_n C dL_law_976 rfl ?_
    refine v_iload_n C dL_law_977 rfl ?_
    refine v_iconst C dL_law_978 (v := 2) rfl ?_
    refine v_iadd C dL_law_979 ?_
    rw [show ((nI i) + 2 : Int32) = nI (i + 2) from ix_ad rfl rfl]
    refine v_sld C hSx (vp_in_nI (by omega) (by omega)) dL_law_980 ?_
    rw [nI_clamp (n := i + 2) (by omega)]
    refine v_aload_n C dL_law_981 rfl ?_
    refine v_iload_n C dL_law_982 rfl ?_
    refine v_iconst C dL_law_983 (v := 3) rfl ?_
    refine v_iadd C dL_law_984 ?_
    rw [show ((nI i) + 3 : Int32) = nI (i + 3) from ix_ad rfl rfl]
    refine v_sld C hSx (vp_in_nI (by omega) (by omega)) dL_law_985 ?_
    rw [nI_clamp (n := i + 3) (by omega)]
    refine v_if_eq (tgt := 993) C dL_law_986 (by decide) (fun h986 => ?_) (fun hbad => absurd hbad (not_not_intro h959))
    refine v_iconst C dL_law_993 (v := 0) rfl ?_
    refine v_callV (As := [.int (xs (i + 1)), .int (xs (i + 2)), .int 0]) (rest := [.int (aDid nT dB (xs (i + 1)) (xs (i + 2)))]) (b := md) C ((w_X10_did (xl X) (xg X) E md nT m dB nP pf cB nS sg ln tx fl hM (xs (i + 1)) (xs (i + 2)) false).frame (mun_dis hd1)) pm_X10_did wI_X10_did wS_X10_did wM_L_104 kX10 (mun_l hMc) ⟨by decide, by decide⟩ ⟨show k + 0 ≤ 600000 by omega, show n + 0 ≤ 7302250 by omega⟩ (nle rfl) dL_law_994 rfl ?_
    rintro _ _ ⟨E1, ⟨rfl, hM1⟩, rfl, hd2⟩
    show V X room_1 (mun E1 D1) k n [(0, .ref b), (1, .ref dk), (2, .ref md), (3, .int (nI i))] 997 [.int (aDid nT dB (xs (i + 1)) (xs (i + 2))), .int (aDid nT dB (xs (i + 1)) (xs (i + 2)))]
    refine v_icmp_eq (tgt := 1316) C dL_law_997 (by decide) (fun h997 => ?_) (fun hbad => absurd hbad (not_not_intro rfl))
    rw [mun_comm hd2]
    exact nx _ D1 E1 _ _ hD1 hM1 (mun_dis hd2) (by omega) (by omega)
  · refine v_iconst C dL_law_962 (v := 1) rfl ?_
    refine v_goto (tgt := 967) C dL_law_963 (by decide) ?_
    refine v_callV (As := [.int (xs (i + 1)), .int (xs (i + 2)), .int 1]) (rest := []) (b := dk) C ((w_X9_did (xl X) (xg X) D dk nT m dB nP pf cB nS sg ln tx fl hD (xs (i + 1)) (xs (i + 2)) true).frame hd) pm_X9_did wI_X9_did wS_X9_did wM_L_101 kX9 (mun_l hDc) ⟨by decide, by decide⟩ ⟨show k + 0 ≤ 600000 by omega, show n + 0 ≤ 7302250 by omega⟩ (nle rfl) dL_law_967 rfl ?_
    rintro _ _ ⟨D1, ⟨rfl, hD1⟩, rfl, hd1⟩
    rw [mun_comm hd1]
    show V X room_1 (mun E D1) k n [(0, .ref b), (1, .ref dk), (2, .ref md), (3, .int (nI i))] 970 [.int (aDid nT dB (xs (i + 1)) (xs (i + 2)))]
    refine v_aload_n C dL_law_970 rfl ?_
    refine v_aload_n C dL_law_971 rfl ?_
    refine v_iload_n C dL_law_972 rfl ?_
    refine v_iconst C dL_law_973 (v := 1) rfl ?_
    refine v_iadd C dL_law_974 ?_
    rw [show ((nI i) + 1 : Int32) = nI (i + 1) from ix_ad rfl rfl]
    refine v_sld C hSx (vp_in_nI (by omega) (by omega)) dL_law_975 ?_
    rw [nI_clamp (n := i + 1) (by omega)]
    refine v_aload_n C dL_law_976 rfl ?_
    refine v_iload_n C dL_law_977 rfl ?_
    refine v_iconst C dL_law_978 (v := 2) rfl ?_
    refine v_iadd C dL_law_979 ?_
    rw [show ((nI i) + 2 : Int32) = nI (i + 2) from ix_ad rfl rfl]
    refine v_sld C hSx (vp_in_nI (by omega) (by omega)) dL_law_980 ?_
    rw [nI_clamp (n := i + 2) (by omega)]
    refine v_aload_n C dL_law_981 rfl ?_
    refine v_iload_n C dL_law_982 rfl ?_
    refine v_iconst C dL_law_983 (v := 3) rfl ?_
    refine v_iadd C dL_law_984 ?_
    rw [show ((nI i) + 3 : Int32) = nI (i + 3) from ix_ad rfl rfl]
    refine v_sld C hSx (vp_in_nI (by omega) (by omega)) dL_law_985 ?_
    rw [nI_clamp (n := i + 3) (by omega)]
    refine v_if_eq (tgt := 993) C dL_law_986 (by decide) (fun hbad => absurd hbad (h959)) (fun h986 => ?_)
    refine v_iconst C dL_law_989 (v := 1) rfl ?_
    refine v_goto (tgt := 994) C dL_law_990 (by decide) ?_
    refine v_callV (As := [.int (xs (i + 1)), .int (xs (i + 2)), .int 1]) (rest := [.int (aDid nT dB (xs (i + 1)) (xs (i + 2)))]) (b := md) C ((w_X10_did (xl X) (xg X) E md nT m dB nP pf cB nS sg ln tx fl hM (xs (i + 1)) (xs (i + 2)) true).frame (mun_dis hd1)) pm_X10_did wI_X10_did wS_X10_did wM_L_104 kX10 (mun_l hMc) ⟨by decide, by decide⟩ ⟨show k + 0 ≤ 600000 by omega, show n + 0 ≤ 7302250 by omega⟩ (nle rfl) dL_law_994 rfl ?_
    rintro _ _ ⟨E1, ⟨rfl, hM1⟩, rfl, hd2⟩
    show V X room_1 (mun E1 D1) k n [(0, .ref b), (1, .ref dk), (2, .ref md), (3, .int (nI i))] 997 [.int (aDid nT dB (xs (i + 1)) (xs (i + 2))), .int (aDid nT dB (xs (i + 1)) (xs (i + 2)))]
    refine v_icmp_eq (tgt := 1316) C dL_law_997 (by decide) (fun h997 => ?_) (fun hbad => absurd hbad (not_not_intro rfl))
    rw [mun_comm hd2]
    exact nx _ D1 E1 _ _ hD1 hM1 (mun_dis hd2) (by omega) (by omega)
set_option maxHeartbeats 4000000 in
set_option maxRecDepth 100000 in
theorem law_decoy {X : FC} {b dk md L i k n : Nat} {xs : Nat → Int32} {D E : Mem} {nT : Nat} {m : Nat → Nat → Nat} {dB : Nat → Nat → Bool} {nP : Nat} {pf : Nat → Nat → Nat} {cB : Nat → Nat → Bool} {nS : Nat} {sg : Nat → Int32} {ln : Nat → Nat} {tx : Nat → Nat → Int32} {fl : Nat → Nat → Nat} (C : Bx X yL_law cL_law) (hN : xn X = 4) (hSx : Sx X b L xs) (hi : i + 9 ≤ L) (hL : L ≤ 4608) (hk : k ≤ 500000) (hn : n ≤ 7000000) (hD : DeskS (xg X) D dk (nT, m, dB, nP, pf, cB, nS, sg, ln, tx, fl)) (hM : ModS (xg X) E md (nT, m, dB, nP, pf, cB, nS, sg, ln, tx, fl)) (hd : ∀ a, E a ≠ none → D a = none) (nx : ∀ (σ : St) (D' E' : Mem) (k' n' : Nat), DeskS (xg X) D' dk σ → ModS (xg X) E' md σ → (∀ a, E' a ≠ none → D' a = none) → k' ≤ k + 4 → n' ≤ n + 202 → V X room_1 (mun D' E') k' n' [(0, .ref b), (1, .ref dk), (2, .ref md), (3, .int (nI i))] 1316 []) : V X room_1 (mun D E) k n [(0, .ref b), (1, .ref dk), (2, .ref md), (3, .int (nI i))] 1002 [] := by
  obtain ⟨fs9, hDc⟩ := hD.cell
  obtain ⟨fs10, hMc⟩ := hM.cell
  refine v_aload_n C dL_law_1002 rfl ?_
  refine v_aload_n C dL_law_1003 rfl ?_
  refine v_iload_n C dL_law_1004 rfl ?_
  refine v_iconst C dL_law_1005 (v := 1) rfl ?_
  refine v_iadd C dL_law_1006 ?_
  rw [show ((nI i) + 1 : Int32) = nI (i + 1) from ix_ad rfl rfl]
  refine v_sld C hSx (vp_in_nI (by omega) (by omega)) dL_law_1007 ?_
  rw [nI_clamp (n := i + 1) (by omega)]
  refine v_aload_n C dL_law_1008 rfl ?_
  refine v_iload_n C dL_law_1009 rfl ?_
  refine v_iconst C dL_law_1010 (v := 2) rfl ?_
  refine v_iadd C dL_law_1011 ?_
  rw [show ((nI i) + 2 : Int32) = nI (i + 2) from ix_ad rfl rfl]
  refine v_sld C hSx (vp_in_nI (by omega) (by omega)) dL_law_1012 ?_
  rw [nI_clamp (n := i + 2) (by omega)]
  refine v_aload_n C dL_law_1013 rfl ?_
  refine v_iload_n C dL_law_1014 rfl ?_
  refine v_iconst C dL_law_1015 (v := 3) rfl ?_
  refine v_iadd C dL_law_1016 ?_
  rw [show ((nI i) + 3 : Int32) = nI (i + 3) from ix_ad rfl rfl]
  refine v_sld C hSx (vp_in_nI (by omega) (by omega)) dL_law_1017 ?_
  rw [nI_clamp (n := i + 3) (by omega)]
  refine v_aload_n C dL_law_1018 rfl ?_
  refine v_iload_n C dL_law_1019 rfl ?_
  refine v_iconst C dL_law_1020 (v := 4) rfl ?_
  refine v_iadd C dL_law_1021 ?_
  rw [show ((nI i) + 4 : Int32) = nI (i + 4) from ix_ad rfl rfl]
  refine v_sld C hSx (vp_in_nI (by omega) (by omega)) dL_law_1022 ?_
  rw [nI_clamp (n := i + 4) (by omega)]
  refine v_aload_n C dL_law_1023 rfl ?_
  refine v_iload_n C dL_law_1024 rfl ?_
  refine v_iconst C dL_law_1025 (v := 5) rfl ?_
  refine v_iadd C dL_law_1026 ?_
  rw [show ((nI i) + 5 : Int32) = nI (i + 5) from ix_ad rfl rfl]
  refine v_sld C hSx (vp_in_nI (by omega) (by omega)) dL_law_1027 ?_
  rw [nI_clamp (n := i + 5) (by omega)]
  refine v_callV (As := [.int (xs (i + 1)), .int (xs (i + 2)), .int (xs (i + 3)), .int (xs (i + 4)), .int (xs (i + 5))]) (rest := []) (b := dk) C ((w_X9_decoy (xl X) (xg X) D dk nT m dB nP pf cB nS sg ln tx fl hD (xs (i + 1)) (xs (i + 2)) (xs (i + 3)) (xs (i + 4)) (xs (i + 5))).frame hd) pm_X9_decoy wI_X9_decoy wS_X9_decoy wM_L_105 kX9 (mun_l hDc) ⟨by decide, by decide⟩ ⟨show k + 0 ≤ 600000 by omega, show n + 0 ≤ 7302250 by omega⟩ (nle rfl) dL_law_1028 rfl ?_
  rintro _ _ ⟨D1, ⟨rfl, hD1⟩, rfl, hd1⟩
  rw [mun_comm hd1]
  show V X room_1 (mun E D1) k n [(0, .ref b), (1, .ref dk), (2, .ref md), (3, .int (nI i))] 1031 [.long (aDecoy nT dB (xs (i + 1)) (xs (i + 2)) (xs (i + 3)) (xs (i + 4)) (xs (i + 5)))]
  refine v_aload_n C dL_law_1031 rfl ?_
  refine v_aload_n C dL_law_1032 rfl ?_
  refine v_iload_n C dL_law_1033 rfl ?_
  refine v_iconst C dL_law_1034 (v := 1) rfl ?_
  refine v_iadd C dL_law_1035 ?_
  rw [show ((nI i) + 1 : Int32) = nI (i + 1) from ix_ad rfl rfl]
  refine v_sld C hSx (vp_in_nI (by omega) (by omega)) dL_law_1036 ?_
  rw [nI_clamp (n := i + 1) (by omega)]
  refine v_aload_n C dL_law_1037 rfl ?_
  refine v_iload_n C dL_law_1038 rfl ?_
  refine v_iconst C dL_law_1039 (v := 2) rfl ?_
  refine v_iadd C dL_law_1040 ?_
  rw [show ((nI i) + 2 : Int32) = nI (i + 2) from ix_ad rfl rfl]
  refine v_sld C hSx (vp_in_nI (by omega) (by omega)) dL_law_1041 ?_
  rw [nI_clamp (n := i + 2) (by omega)]
  refine v_aload_n C dL_law_1042 rfl ?_
  refine v_iload_n C dL_law_1043 rfl ?_
  refine v_iconst C dL_law_1044 (v := 3) rfl ?_
  refine v_iadd C dL_law_1045 ?_
  rw [show ((nI i) + 3 : Int32) = nI (i + 3) from ix_ad rfl rfl]
  refine v_sld C hSx (vp_in_nI (by omega) (by omega)) dL_law_1046 ?_
  rw [nI_clamp (n := i + 3) (by omega)]
  refine v_aload_n C dL_law_1047 rfl ?_
  refine v_iload_n C dL_law_1048 rfl ?_
  refine v_iconst C dL_law_1049 (v := 4) rfl ?_
  refine v_iadd C dL_law_1050 ?_
  rw [show ((nI i) + 4 : Int32) = nI (i + 4) from ix_ad rfl rfl]
  refine v_sld C hSx (vp_in_nI (by omega) (by omega)) dL_law_1051 ?_
  rw [nI_clamp (n := i + 4) (by omega)]
  refine v_aload_n C dL_law_1052 rfl ?_
  refine v_iload_n C dL_law_1053 rfl ?_
  refine v_iconst C dL_law_1054 (v := 5) rfl ?_
  refine v_iadd C dL_law_1055 ?_
  rw [show ((nI i) + 5 : Int32) = nI (i + 5) from ix_ad rfl rfl]
  refine v_sld C hSx (vp_in_nI (by omega) (by omega)) dL_law_1056 ?_
  rw [nI_clamp (n := i + 5) (by omega)]
  refine v_callV (As := [.int (xs (i + 1)), .int (xs (i + 2)), .int (xs (i + 3)), .int (xs (i + 4)), .int (xs (i + 5))]) (rest := [.long (aDecoy nT dB (xs (i + 1)) (xs (i + 2)) (xs (i + 3)) (xs (i + 4)) (xs (i + 5)))]) (b := md) C ((w_X10_decoy (xl X) (xg X) E md nT m dB nP pf cB nS sg ln tx fl hM (xs (i + 1)) (xs (i + 2)) (xs (i + 3)) (xs (i + 4)) (xs (i + 5))).frame (mun_dis hd1)) pm_X10_decoy wI_X10_decoy wS_X10_decoy wM_L_109 kX10 (mun_l hMc) ⟨by decide, by decide⟩ ⟨show k + 0 ≤ 600000 by omega, show n + 0 ≤ 7302250 by omega⟩ (nle rfl) dL_law_1057 rfl ?_
  rintro _ _ ⟨E1, ⟨rfl, hM1⟩, rfl, hd2⟩
  show V X room_1 (mun E1 D1) k n [(0, .ref b), (1, .ref dk), (2, .ref md), (3, .int (nI i))] 1060 [.long (aDecoy nT dB (xs (i + 1)) (xs (i + 2)) (xs (i + 3)) (xs (i + 4)) (xs (i + 5))), .long (aDecoy nT dB (xs (i + 1)) (xs (i + 2)) (xs (i + 3)) (xs (i + 4)) (xs (i + 5)))]
  refine v_lcmp C dL_law_1060 ?_
  refine v_if_eq (tgt := 1316) C dL_law_1061 (by decide) (fun h1061 => ?_) (fun hbad => absurd hbad (not_not_intro ((lg_cmp_eq _ _).mpr rfl)))
  rw [mun_comm hd2]
  exact nx _ D1 E1 _ _ hD1 hM1 (mun_dis hd2) (by omega) (by omega)
set_option maxHeartbeats 4000000 in
set_option maxRecDepth 100000 in
theorem law_sure {X : FC} {b dk md L i k n : Nat} {xs : Nat → Int32} {D E : Mem} {nT : Nat} {m : Nat → Nat → Nat} {dB : Nat → Nat → Bool} {nP : Nat} {pf : Nat → Nat → Nat} {cB : Nat → Nat → Bool} {nS : Nat} {sg : Nat → Int32} {ln : Nat → Nat} {tx : Nat → Nat → Int32} {fl : Nat → Nat → Nat} (C : Bx X yL_law cL_law) (hN : xn X = 4) (hSx : Sx X b L xs) (hi : i + 9 ≤ L) (hL : L ≤ 4608) (hk : k ≤ 500000) (hn : n ≤ 7000000) (hD : DeskS (xg X) D dk (nT, m, dB, nP, pf, cB, nS, sg, ln, tx, fl)) (hM : ModS (xg X) E md (nT, m, dB, nP, pf, cB, nS, sg, ln, tx, fl)) (hd : ∀ a, E a ≠ none → D a = none) (nx : ∀ (σ : St) (D' E' : Mem) (k' n' : Nat), DeskS (xg X) D' dk σ → ModS (xg X) E' md σ → (∀ a, E' a ≠ none → D' a = none) → k' ≤ k + 4 → n' ≤ n + 202 → V X room_1 (mun D' E') k' n' [(0, .ref b), (1, .ref dk), (2, .ref md), (3, .int (nI i))] 1316 []) : V X room_1 (mun D E) k n [(0, .ref b), (1, .ref dk), (2, .ref md), (3, .int (nI i))] 1066 [] := by
  obtain ⟨fs9, hDc⟩ := hD.cell
  obtain ⟨fs10, hMc⟩ := hM.cell
  refine v_aload_n C dL_law_1066 rfl ?_
  refine v_aload_n C dL_law_1067 rfl ?_
  refine v_iload_n C dL_law_1068 rfl ?_
  refine v_iconst C dL_law_1069 (v := 1) rfl ?_
  refine v_iadd C dL_law_1070 ?_
  rw [show ((nI i) + 1 : Int32) = nI (i + 1) from ix_ad rfl rfl]
  refine v_sld C hSx (vp_in_nI (by omega) (by omega)) dL_law_1071 ?_
  rw [nI_clamp (n := i + 1) (by omega)]
  refine v_aload_n C dL_law_1072 rfl ?_
  refine v_iload_n C dL_law_1073 rfl ?_
  refine v_iconst C dL_law_1074 (v := 2) rfl ?_
  refine v_iadd C dL_law_1075 ?_
  rw [show ((nI i) + 2 : Int32) = nI (i + 2) from ix_ad rfl rfl]
  refine v_sld C hSx (vp_in_nI (by omega) (by omega)) dL_law_1076 ?_
  rw [nI_clamp (n := i + 2) (by omega)]
  refine v_callV (As := [.int (xs (i + 1)), .int (xs (i + 2))]) (rest := []) (b := dk) C ((w_X9_sure (xl X) (xg X) D dk nT m dB nP pf cB nS sg ln tx fl hD (xs (i + 1)) (xs (i + 2))).frame hd) pm_X9_sure wI_X9_sure wS_X9_sure wM_L_110 kX9 (mun_l hDc) ⟨by decide, by decide⟩ ⟨show k + 0 ≤ 600000 by omega, show n + 0 ≤ 7302250 by omega⟩ (nle rfl) dL_law_1077 rfl ?_
  rintro _ _ ⟨D1, ⟨rfl, hD1⟩, rfl, hd1⟩
  rw [mun_comm hd1]
  show V X room_1 (mun E D1) k n [(0, .ref b), (1, .ref dk), (2, .ref md), (3, .int (nI i))] 1080 [.int (aSure (xs (i + 1)) (xs (i + 2)))]
  refine v_aload_n C dL_law_1080 rfl ?_
  refine v_aload_n C dL_law_1081 rfl ?_
  refine v_iload_n C dL_law_1082 rfl ?_
  refine v_iconst C dL_law_1083 (v := 1) rfl ?_
  refine v_iadd C dL_law_1084 ?_
  rw [show ((nI i) + 1 : Int32) = nI (i + 1) from ix_ad rfl rfl]
  refine v_sld C hSx (vp_in_nI (by omega) (by omega)) dL_law_1085 ?_
  rw [nI_clamp (n := i + 1) (by omega)]
  refine v_aload_n C dL_law_1086 rfl ?_
  refine v_iload_n C dL_law_1087 rfl ?_
  refine v_iconst C dL_law_1088 (v := 2) rfl ?_
  refine v_iadd C dL_law_1089 ?_
  rw [show ((nI i) + 2 : Int32) = nI (i + 2) from ix_ad rfl rfl]
  refine v_sld C hSx (vp_in_nI (by omega) (by omega)) dL_law_1090 ?_
  rw [nI_clamp (n := i + 2) (by omega)]
  refine v_callV (As := [.int (xs (i + 1)), .int (xs (i + 2))]) (rest := [.int (aSure (xs (i + 1)) (xs (i + 2)))]) (b := md) C ((w_X10_sure (xl X) (xg X) E md nT m dB nP pf cB nS sg ln tx fl hM (xs (i + 1)) (xs (i + 2))).frame (mun_dis hd1)) pm_X10_sure wI_X10_sure wS_X10_sure wM_L_113 kX10 (mun_l hMc) ⟨by decide, by decide⟩ ⟨show k + 0 ≤ 600000 by omega, show n + 0 ≤ 7302250 by omega⟩ (nle rfl) dL_law_1091 rfl ?_
  rintro _ _ ⟨E1, ⟨rfl, hM1⟩, rfl, hd2⟩
  show V X room_1 (mun E1 D1) k n [(0, .ref b), (1, .ref dk), (2, .ref md), (3, .int (nI i))] 1094 [.int (aSure (xs (i + 1)) (xs (i + 2))), .int (aSure (xs (i + 1)) (xs (i + 2)))]
  refine v_icmp_eq (tgt := 1316) C dL_law_1094 (by decide) (fun h1094 => ?_) (fun hbad => absurd hbad (not_not_intro rfl))
  rw [mun_comm hd2]
  exact nx _ D1 E1 _ _ hD1 hM1 (mun_dis hd2) (by omega) (by omega)
set_option maxHeartbeats 4000000 in
set_option maxRecDepth 100000 in
theorem law_flight {X : FC} {b dk md L i k n : Nat} {xs : Nat → Int32} {D E : Mem} {nT : Nat} {m : Nat → Nat → Nat} {dB : Nat → Nat → Bool} {nP : Nat} {pf : Nat → Nat → Nat} {cB : Nat → Nat → Bool} {nS : Nat} {sg : Nat → Int32} {ln : Nat → Nat} {tx : Nat → Nat → Int32} {fl : Nat → Nat → Nat} (C : Bx X yL_law cL_law) (hN : xn X = 4) (hSx : Sx X b L xs) (hi : i + 9 ≤ L) (hL : L ≤ 4608) (hk : k ≤ 500000) (hn : n ≤ 7000000) (hD : DeskS (xg X) D dk (nT, m, dB, nP, pf, cB, nS, sg, ln, tx, fl)) (hM : ModS (xg X) E md (nT, m, dB, nP, pf, cB, nS, sg, ln, tx, fl)) (hd : ∀ a, E a ≠ none → D a = none) (nx : ∀ (σ : St) (D' E' : Mem) (k' n' : Nat), DeskS (xg X) D' dk σ → ModS (xg X) E' md σ → (∀ a, E' a ≠ none → D' a = none) → k' ≤ k + 4 → n' ≤ n + 202 → V X room_1 (mun D' E') k' n' [(0, .ref b), (1, .ref dk), (2, .ref md), (3, .int (nI i))] 1316 []) : V X room_1 (mun D E) k n [(0, .ref b), (1, .ref dk), (2, .ref md), (3, .int (nI i))] 1099 [] := by
  obtain ⟨fs9, hDc⟩ := hD.cell
  obtain ⟨fs10, hMc⟩ := hM.cell
  refine v_aload_n C dL_law_1099 rfl ?_
  refine v_aload_n C dL_law_1100 rfl ?_
  refine v_iload_n C dL_law_1101 rfl ?_
  refine v_iconst C dL_law_1102 (v := 1) rfl ?_
  refine v_iadd C dL_law_1103 ?_
  rw [show ((nI i) + 1 : Int32) = nI (i + 1) from ix_ad rfl rfl]
  refine v_sld C hSx (vp_in_nI (by omega) (by omega)) dL_law_1104 ?_
  rw [nI_clamp (n := i + 1) (by omega)]
  refine v_aload_n C dL_law_1105 rfl ?_
  refine v_iload_n C dL_law_1106 rfl ?_
  refine v_iconst C dL_law_1107 (v := 2) rfl ?_
  refine v_iadd C dL_law_1108 ?_
  rw [show ((nI i) + 2 : Int32) = nI (i + 2) from ix_ad rfl rfl]
  refine v_sld C hSx (vp_in_nI (by omega) (by omega)) dL_law_1109 ?_
  rw [nI_clamp (n := i + 2) (by omega)]
  refine v_aload_n C dL_law_1110 rfl ?_
  refine v_iload_n C dL_law_1111 rfl ?_
  refine v_iconst C dL_law_1112 (v := 3) rfl ?_
  refine v_iadd C dL_law_1113 ?_
  rw [show ((nI i) + 3 : Int32) = nI (i + 3) from ix_ad rfl rfl]
  refine v_sld C hSx (vp_in_nI (by omega) (by omega)) dL_law_1114 ?_
  rw [nI_clamp (n := i + 3) (by omega)]
  refine v_aload_n C dL_law_1115 rfl ?_
  refine v_iload_n C dL_law_1116 rfl ?_
  refine v_iconst C dL_law_1117 (v := 4) rfl ?_
  refine v_iadd C dL_law_1118 ?_
  rw [show ((nI i) + 4 : Int32) = nI (i + 4) from ix_ad rfl rfl]
  refine v_sld C hSx (vp_in_nI (by omega) (by omega)) dL_law_1119 ?_
  rw [nI_clamp (n := i + 4) (by omega)]
  refine v_aload_n C dL_law_1120 rfl ?_
  refine v_iload_n C dL_law_1121 rfl ?_
  refine v_iconst C dL_law_1122 (v := 5) rfl ?_
  refine v_iadd C dL_law_1123 ?_
  rw [show ((nI i) + 5 : Int32) = nI (i + 5) from ix_ad rfl rfl]
  refine v_sld C hSx (vp_in_nI (by omega) (by omega)) dL_law_1124 ?_
  rw [nI_clamp (n := i + 5) (by omega)]
  refine v_callV (As := [.int (xs (i + 1)), .int (xs (i + 2)), .int (xs (i + 3)), .int (xs (i + 4)), .int (xs (i + 5))]) (rest := []) (b := dk) C ((w_X9_flight (xl X) (xg X) D dk nT m dB nP pf cB nS sg ln tx fl hD (xs (i + 1)) (xs (i + 2)) (xs (i + 3)) (xs (i + 4)) (xs (i + 5))).frame hd) pm_X9_flight wI_X9_flight wS_X9_flight wM_L_114 kX9 (mun_l hDc) ⟨by decide, by decide⟩ ⟨show k + 0 ≤ 600000 by omega, show n + 0 ≤ 7302250 by omega⟩ (nle rfl) dL_law_1125 rfl ?_
  rintro _ _ ⟨D1, ⟨rfl, hD1⟩, rfl, hd1⟩
  rw [mun_comm hd1]
  show V X room_1 (mun E D1) k n [(0, .ref b), (1, .ref dk), (2, .ref md), (3, .int (nI i))] 1128 [.int (aFlight (xs (i + 1)) (xs (i + 2)) (xs (i + 3)) (xs (i + 4)) (xs (i + 5)))]
  refine v_aload_n C dL_law_1128 rfl ?_
  refine v_aload_n C dL_law_1129 rfl ?_
  refine v_iload_n C dL_law_1130 rfl ?_
  refine v_iconst C dL_law_1131 (v := 1) rfl ?_
  refine v_iadd C dL_law_1132 ?_
  rw [show ((nI i) + 1 : Int32) = nI (i + 1) from ix_ad rfl rfl]
  refine v_sld C hSx (vp_in_nI (by omega) (by omega)) dL_law_1133 ?_
  rw [nI_clamp (n := i + 1) (by omega)]
  refine v_aload_n C dL_law_1134 rfl ?_
  refine v_iload_n C dL_law_1135 rfl ?_
  refine v_iconst C dL_law_1136 (v := 2) rfl ?_
  refine v_iadd C dL_law_1137 ?_
  rw [show ((nI i) + 2 : Int32) = nI (i + 2) from ix_ad rfl rfl]
  refine v_sld C hSx (vp_in_nI (by omega) (by omega)) dL_law_1138 ?_
  rw [nI_clamp (n := i + 2) (by omega)]
  refine v_aload_n C dL_law_1139 rfl ?_
  refine v_iload_n C dL_law_1140 rfl ?_
  refine v_iconst C dL_law_1141 (v := 3) rfl ?_
  refine v_iadd C dL_law_1142 ?_
  rw [show ((nI i) + 3 : Int32) = nI (i + 3) from ix_ad rfl rfl]
  refine v_sld C hSx (vp_in_nI (by omega) (by omega)) dL_law_1143 ?_
  rw [nI_clamp (n := i + 3) (by omega)]
  refine v_aload_n C dL_law_1144 rfl ?_
  refine v_iload_n C dL_law_1145 rfl ?_
  refine v_iconst C dL_law_1146 (v := 4) rfl ?_
  refine v_iadd C dL_law_1147 ?_
  rw [show ((nI i) + 4 : Int32) = nI (i + 4) from ix_ad rfl rfl]
  refine v_sld C hSx (vp_in_nI (by omega) (by omega)) dL_law_1148 ?_
  rw [nI_clamp (n := i + 4) (by omega)]
  refine v_aload_n C dL_law_1149 rfl ?_
  refine v_iload_n C dL_law_1150 rfl ?_
  refine v_iconst C dL_law_1151 (v := 5) rfl ?_
  refine v_iadd C dL_law_1152 ?_
  rw [show ((nI i) + 5 : Int32) = nI (i + 5) from ix_ad rfl rfl]
  refine v_sld C hSx (vp_in_nI (by omega) (by omega)) dL_law_1153 ?_
  rw [nI_clamp (n := i + 5) (by omega)]
  refine v_callV (As := [.int (xs (i + 1)), .int (xs (i + 2)), .int (xs (i + 3)), .int (xs (i + 4)), .int (xs (i + 5))]) (rest := [.int (aFlight (xs (i + 1)) (xs (i + 2)) (xs (i + 3)) (xs (i + 4)) (xs (i + 5)))]) (b := md) C ((w_X10_flight (xl X) (xg X) E md nT m dB nP pf cB nS sg ln tx fl hM (xs (i + 1)) (xs (i + 2)) (xs (i + 3)) (xs (i + 4)) (xs (i + 5))).frame (mun_dis hd1)) pm_X10_flight wI_X10_flight wS_X10_flight wM_L_117 kX10 (mun_l hMc) ⟨by decide, by decide⟩ ⟨show k + 0 ≤ 600000 by omega, show n + 0 ≤ 7302250 by omega⟩ (nle rfl) dL_law_1154 rfl ?_
  rintro _ _ ⟨E1, ⟨rfl, hM1⟩, rfl, hd2⟩
  show V X room_1 (mun E1 D1) k n [(0, .ref b), (1, .ref dk), (2, .ref md), (3, .int (nI i))] 1157 [.int (aFlight (xs (i + 1)) (xs (i + 2)) (xs (i + 3)) (xs (i + 4)) (xs (i + 5))), .int (aFlight (xs (i + 1)) (xs (i + 2)) (xs (i + 3)) (xs (i + 4)) (xs (i + 5)))]
  refine v_icmp_eq (tgt := 1316) C dL_law_1157 (by decide) (fun h1157 => ?_) (fun hbad => absurd hbad (not_not_intro rfl))
  rw [mun_comm hd2]
  exact nx _ D1 E1 _ _ hD1 hM1 (mun_dis hd2) (by omega) (by omega)
set_option maxHeartbeats 4000000 in
set_option maxRecDepth 100000 in
theorem law_worth {X : FC} {b dk md L i k n : Nat} {xs : Nat → Int32} {D E : Mem} {nT : Nat} {m : Nat → Nat → Nat} {dB : Nat → Nat → Bool} {nP : Nat} {pf : Nat → Nat → Nat} {cB : Nat → Nat → Bool} {nS : Nat} {sg : Nat → Int32} {ln : Nat → Nat} {tx : Nat → Nat → Int32} {fl : Nat → Nat → Nat} (C : Bx X yL_law cL_law) (hN : xn X = 4) (hSx : Sx X b L xs) (hi : i + 9 ≤ L) (hL : L ≤ 4608) (hk : k ≤ 500000) (hn : n ≤ 7000000) (hD : DeskS (xg X) D dk (nT, m, dB, nP, pf, cB, nS, sg, ln, tx, fl)) (hM : ModS (xg X) E md (nT, m, dB, nP, pf, cB, nS, sg, ln, tx, fl)) (hd : ∀ a, E a ≠ none → D a = none) (nx : ∀ (σ : St) (D' E' : Mem) (k' n' : Nat), DeskS (xg X) D' dk σ → ModS (xg X) E' md σ → (∀ a, E' a ≠ none → D' a = none) → k' ≤ k + 4 → n' ≤ n + 202 → V X room_1 (mun D' E') k' n' [(0, .ref b), (1, .ref dk), (2, .ref md), (3, .int (nI i))] 1316 []) : V X room_1 (mun D E) k n [(0, .ref b), (1, .ref dk), (2, .ref md), (3, .int (nI i))] 1162 [] := by
  obtain ⟨fs9, hDc⟩ := hD.cell
  obtain ⟨fs10, hMc⟩ := hM.cell
  refine v_aload_n C dL_law_1162 rfl ?_
  refine v_aload_n C dL_law_1163 rfl ?_
  refine v_iload_n C dL_law_1164 rfl ?_
  refine v_iconst C dL_law_1165 (v := 1) rfl ?_
  refine v_iadd C dL_law_1166 ?_
  rw [show ((nI i) + 1 : Int32) = nI (i + 1) from ix_ad rfl rfl]
  refine v_sld C hSx (vp_in_nI (by omega) (by omega)) dL_law_1167 ?_
  rw [nI_clamp (n := i + 1) (by omega)]
  refine v_aload_n C dL_law_1168 rfl ?_
  refine v_iload_n C dL_law_1169 rfl ?_
  refine v_iconst C dL_law_1170 (v := 2) rfl ?_
  refine v_iadd C dL_law_1171 ?_
  rw [show ((nI i) + 2 : Int32) = nI (i + 2) from ix_ad rfl rfl]
  refine v_sld C hSx (vp_in_nI (by omega) (by omega)) dL_law_1172 ?_
  rw [nI_clamp (n := i + 2) (by omega)]
  refine v_callV (As := [.int (xs (i + 1)), .int (xs (i + 2))]) (rest := []) (b := dk) C ((w_X9_worth (xl X) (xg X) D dk nT m dB nP pf cB nS sg ln tx fl hD (xs (i + 1)) (xs (i + 2))).frame hd) pm_X9_worth wI_X9_worth wS_X9_worth wM_L_118 kX9 (mun_l hDc) ⟨by decide, by decide⟩ ⟨show k + 0 ≤ 600000 by omega, show n + 0 ≤ 7302250 by omega⟩ (nle rfl) dL_law_1173 rfl ?_
  rintro _ _ ⟨D1, ⟨rfl, hD1⟩, rfl, hd1⟩
  rw [mun_comm hd1]
  show V X room_1 (mun E D1) k n [(0, .ref b), (1, .ref dk), (2, .ref md), (3, .int (nI i))] 1176 [.long (aWorth nT m fl (xs (i + 1)) (xs (i + 2)))]
  refine v_aload_n C dL_law_1176 rfl ?_
  refine v_aload_n C dL_law_1177 rfl ?_
  refine v_iload_n C dL_law_1178 rfl ?_
  refine v_iconst C dL_law_1179 (v := 1) rfl ?_
  refine v_iadd C dL_law_1180 ?_
  rw [show ((nI i) + 1 : Int32) = nI (i + 1) from ix_ad rfl rfl]
  refine v_sld C hSx (vp_in_nI (by omega) (by omega)) dL_law_1181 ?_
  rw [nI_clamp (n := i + 1) (by omega)]
  refine v_aload_n C dL_law_1182 rfl ?_
  refine v_iload_n C dL_law_1183 rfl ?_
  refine v_iconst C dL_law_1184 (v := 2) rfl ?_
  refine v_iadd C dL_law_1185 ?_
  rw [show ((nI i) + 2 : Int32) = nI (i + 2) from ix_ad rfl rfl]
  refine v_sld C hSx (vp_in_nI (by omega) (by omega)) dL_law_1186 ?_
  rw [nI_clamp (n := i + 2) (by omega)]
  refine v_callV (As := [.int (xs (i + 1)), .int (xs (i + 2))]) (rest := [.long (aWorth nT m fl (xs (i + 1)) (xs (i + 2)))]) (b := md) C ((w_X10_worth (xl X) (xg X) E md nT m dB nP pf cB nS sg ln tx fl hM (xs (i + 1)) (xs (i + 2))).frame (mun_dis hd1)) pm_X10_worth wI_X10_worth wS_X10_worth wM_L_121 kX10 (mun_l hMc) ⟨by decide, by decide⟩ ⟨show k + 0 ≤ 600000 by omega, show n + 0 ≤ 7302250 by omega⟩ (nle rfl) dL_law_1187 rfl ?_
  rintro _ _ ⟨E1, ⟨rfl, hM1⟩, rfl, hd2⟩
  show V X room_1 (mun E1 D1) k n [(0, .ref b), (1, .ref dk), (2, .ref md), (3, .int (nI i))] 1190 [.long (aWorth nT m fl (xs (i + 1)) (xs (i + 2))), .long (aWorth nT m fl (xs (i + 1)) (xs (i + 2)))]
  refine v_lcmp C dL_law_1190 ?_
  refine v_if_eq (tgt := 1316) C dL_law_1191 (by decide) (fun h1191 => ?_) (fun hbad => absurd hbad (not_not_intro ((lg_cmp_eq _ _).mpr rfl)))
  rw [mun_comm hd2]
  exact nx _ D1 E1 _ _ hD1 hM1 (mun_dis hd2) (by omega) (by omega)
set_option maxHeartbeats 4000000 in
set_option maxRecDepth 100000 in
theorem law_best {X : FC} {b dk md L i k n : Nat} {xs : Nat → Int32} {D E : Mem} {nT : Nat} {m : Nat → Nat → Nat} {dB : Nat → Nat → Bool} {nP : Nat} {pf : Nat → Nat → Nat} {cB : Nat → Nat → Bool} {nS : Nat} {sg : Nat → Int32} {ln : Nat → Nat} {tx : Nat → Nat → Int32} {fl : Nat → Nat → Nat} (C : Bx X yL_law cL_law) (hN : xn X = 4) (hSx : Sx X b L xs) (hi : i + 9 ≤ L) (hL : L ≤ 4608) (hk : k ≤ 500000) (hn : n ≤ 7000000) (hD : DeskS (xg X) D dk (nT, m, dB, nP, pf, cB, nS, sg, ln, tx, fl)) (hM : ModS (xg X) E md (nT, m, dB, nP, pf, cB, nS, sg, ln, tx, fl)) (hd : ∀ a, E a ≠ none → D a = none) (nx : ∀ (σ : St) (D' E' : Mem) (k' n' : Nat), DeskS (xg X) D' dk σ → ModS (xg X) E' md σ → (∀ a, E' a ≠ none → D' a = none) → k' ≤ k + 4 → n' ≤ n + 202 → V X room_1 (mun D' E') k' n' [(0, .ref b), (1, .ref dk), (2, .ref md), (3, .int (nI i))] 1316 []) : V X room_1 (mun D E) k n [(0, .ref b), (1, .ref dk), (2, .ref md), (3, .int (nI i))] 1196 [] := by
  obtain ⟨fs9, hDc⟩ := hD.cell
  obtain ⟨fs10, hMc⟩ := hM.cell
  refine v_aload_n C dL_law_1196 rfl ?_
  refine v_aload_n C dL_law_1197 rfl ?_
  refine v_iload_n C dL_law_1198 rfl ?_
  refine v_iconst C dL_law_1199 (v := 1) rfl ?_
  refine v_iadd C dL_law_1200 ?_
  rw [show ((nI i) + 1 : Int32) = nI (i + 1) from ix_ad rfl rfl]
  refine v_sld C hSx (vp_in_nI (by omega) (by omega)) dL_law_1201 ?_
  rw [nI_clamp (n := i + 1) (by omega)]
  refine v_aload_n C dL_law_1202 rfl ?_
  refine v_iload_n C dL_law_1203 rfl ?_
  refine v_iconst C dL_law_1204 (v := 2) rfl ?_
  refine v_iadd C dL_law_1205 ?_
  rw [show ((nI i) + 2 : Int32) = nI (i + 2) from ix_ad rfl rfl]
  refine v_sld C hSx (vp_in_nI (by omega) (by omega)) dL_law_1206 ?_
  rw [nI_clamp (n := i + 2) (by omega)]
  refine v_callV (As := [.int (xs (i + 1)), .int (xs (i + 2))]) (rest := []) (b := dk) C ((w_X9_best (xl X) (xg X) D dk nT m dB nP pf cB nS sg ln tx fl hD (xs (i + 1)) (xs (i + 2))).frame hd) pm_X9_best wI_X9_best wS_X9_best wM_L_122 kX9 (mun_l hDc) ⟨by decide, by decide⟩ ⟨show k + 0 ≤ 600000 by omega, show n + 0 ≤ 7302250 by omega⟩ (nle rfl) dL_law_1207 rfl ?_
  rintro _ _ ⟨D1, ⟨rfl, hD1⟩, rfl, hd1⟩
  rw [mun_comm hd1]
  show V X room_1 (mun E D1) k n [(0, .ref b), (1, .ref dk), (2, .ref md), (3, .int (nI i))] 1210 [.int (aBest nT m fl (xs (i + 1)) (xs (i + 2)))]
  refine v_aload_n C dL_law_1210 rfl ?_
  refine v_aload_n C dL_law_1211 rfl ?_
  refine v_iload_n C dL_law_1212 rfl ?_
  refine v_iconst C dL_law_1213 (v := 1) rfl ?_
  refine v_iadd C dL_law_1214 ?_
  rw [show ((nI i) + 1 : Int32) = nI (i + 1) from ix_ad rfl rfl]
  refine v_sld C hSx (vp_in_nI (by omega) (by omega)) dL_law_1215 ?_
  rw [nI_clamp (n := i + 1) (by omega)]
  refine v_aload_n C dL_law_1216 rfl ?_
  refine v_iload_n C dL_law_1217 rfl ?_
  refine v_iconst C dL_law_1218 (v := 2) rfl ?_
  refine v_iadd C dL_law_1219 ?_
  rw [show ((nI i) + 2 : Int32) = nI (i + 2) from ix_ad rfl rfl]
  refine v_sld C hSx (vp_in_nI (by omega) (by omega)) dL_law_1220 ?_
  rw [nI_clamp (n := i + 2) (by omega)]
  refine v_callV (As := [.int (xs (i + 1)), .int (xs (i + 2))]) (rest := [.int (aBest nT m fl (xs (i + 1)) (xs (i + 2)))]) (b := md) C ((w_X10_best (xl X) (xg X) E md nT m dB nP pf cB nS sg ln tx fl hM (xs (i + 1)) (xs (i + 2))).frame (mun_dis hd1)) pm_X10_best wI_X10_best wS_X10_best wM_L_125 kX10 (mun_l hMc) ⟨by decide, by decide⟩ ⟨show k + 0 ≤ 600000 by omega, show n + 0 ≤ 7302250 by omega⟩ (nle rfl) dL_law_1221 rfl ?_
  rintro _ _ ⟨E1, ⟨rfl, hM1⟩, rfl, hd2⟩
  show V X room_1 (mun E1 D1) k n [(0, .ref b), (1, .ref dk), (2, .ref md), (3, .int (nI i))] 1224 [.int (aBest nT m fl (xs (i + 1)) (xs (i + 2))), .int (aBest nT m fl (xs (i + 1)) (xs (i + 2)))]
  refine v_icmp_eq (tgt := 1316) C dL_law_1224 (by decide) (fun h1224 => ?_) (fun hbad => absurd hbad (not_not_intro rfl))
  rw [mun_comm hd2]
  exact nx _ D1 E1 _ _ hD1 hM1 (mun_dis hd2) (by omega) (by omega)
set_option maxHeartbeats 4000000 in
set_option maxRecDepth 100000 in
theorem law_lean {X : FC} {b dk md L i k n : Nat} {xs : Nat → Int32} {D E : Mem} {nT : Nat} {m : Nat → Nat → Nat} {dB : Nat → Nat → Bool} {nP : Nat} {pf : Nat → Nat → Nat} {cB : Nat → Nat → Bool} {nS : Nat} {sg : Nat → Int32} {ln : Nat → Nat} {tx : Nat → Nat → Int32} {fl : Nat → Nat → Nat} (C : Bx X yL_law cL_law) (hN : xn X = 4) (hSx : Sx X b L xs) (hi : i + 9 ≤ L) (hL : L ≤ 4608) (hk : k ≤ 500000) (hn : n ≤ 7000000) (hD : DeskS (xg X) D dk (nT, m, dB, nP, pf, cB, nS, sg, ln, tx, fl)) (hM : ModS (xg X) E md (nT, m, dB, nP, pf, cB, nS, sg, ln, tx, fl)) (hd : ∀ a, E a ≠ none → D a = none) (nx : ∀ (σ : St) (D' E' : Mem) (k' n' : Nat), DeskS (xg X) D' dk σ → ModS (xg X) E' md σ → (∀ a, E' a ≠ none → D' a = none) → k' ≤ k + 4 → n' ≤ n + 202 → V X room_1 (mun D' E') k' n' [(0, .ref b), (1, .ref dk), (2, .ref md), (3, .int (nI i))] 1316 []) : V X room_1 (mun D E) k n [(0, .ref b), (1, .ref dk), (2, .ref md), (3, .int (nI i))] 1229 [] := by
  obtain ⟨fs9, hDc⟩ := hD.cell
  obtain ⟨fs10, hMc⟩ := hM.cell
  refine v_aload_n C dL_law_1229 rfl ?_
  refine v_aload_n C dL_law_1230 rfl ?_
  refine v_iload_n C dL_law_1231 rfl ?_
  refine v_iconst C dL_law_1232 (v := 1) rfl ?_
  refine v_iadd C dL_law_1233 ?_
  rw [show ((nI i) + 1 : Int32) = nI (i + 1) from ix_ad rfl rfl]
  refine v_sld C hSx (vp_in_nI (by omega) (by omega)) dL_law_1234 ?_
  rw [nI_clamp (n := i + 1) (by omega)]
  refine v_aload_n C dL_law_1235 rfl ?_
  refine v_iload_n C dL_law_1236 rfl ?_
  refine v_iconst C dL_law_1237 (v := 2) rfl ?_
  refine v_iadd C dL_law_1238 ?_
  rw [show ((nI i) + 2 : Int32) = nI (i + 2) from ix_ad rfl rfl]
  refine v_sld C hSx (vp_in_nI (by omega) (by omega)) dL_law_1239 ?_
  rw [nI_clamp (n := i + 2) (by omega)]
  refine v_aload_n C dL_law_1240 rfl ?_
  refine v_iload_n C dL_law_1241 rfl ?_
  refine v_iconst C dL_law_1242 (v := 3) rfl ?_
  refine v_iadd C dL_law_1243 ?_
  rw [show ((nI i) + 3 : Int32) = nI (i + 3) from ix_ad rfl rfl]
  refine v_sld C hSx (vp_in_nI (by omega) (by omega)) dL_law_1244 ?_
  rw [nI_clamp (n := i + 3) (by omega)]
  refine v_aload_n C dL_law_1245 rfl ?_
  refine v_iload_n C dL_law_1246 rfl ?_
  refine v_iconst C dL_law_1247 (v := 4) rfl ?_
  refine v_iadd C dL_law_1248 ?_
  rw [show ((nI i) + 4 : Int32) = nI (i + 4) from ix_ad rfl rfl]
  refine v_sld C hSx (vp_in_nI (by omega) (by omega)) dL_law_1249 ?_
  rw [nI_clamp (n := i + 4) (by omega)]
  refine v_aload_n C dL_law_1250 rfl ?_
  refine v_iload_n C dL_law_1251 rfl ?_
  refine v_iconst C dL_law_1252 (v := 5) rfl ?_
  refine v_iadd C dL_law_1253 ?_
  rw [show ((nI i) + 5 : Int32) = nI (i + 5) from ix_ad rfl rfl]
  refine v_sld C hSx (vp_in_nI (by omega) (by omega)) dL_law_1254 ?_
  rw [nI_clamp (n := i + 5) (by omega)]
  refine v_callV (As := [.int (xs (i + 1)), .int (xs (i + 2)), .int (xs (i + 3)), .int (xs (i + 4)), .int (xs (i + 5))]) (rest := []) (b := dk) C ((w_X9_lean (xl X) (xg X) D dk nT m dB nP pf cB nS sg ln tx fl hD (xs (i + 1)) (xs (i + 2)) (xs (i + 3)) (xs (i + 4)) (xs (i + 5))).frame hd) pm_X9_lean wI_X9_lean wS_X9_lean wM_L_126 kX9 (mun_l hDc) ⟨by decide, by decide⟩ ⟨show k + 0 ≤ 600000 by omega, show n + 0 ≤ 7302250 by omega⟩ (nle rfl) dL_law_1255 rfl ?_
  rintro _ _ ⟨D1, ⟨rfl, hD1⟩, rfl, hd1⟩
  rw [mun_comm hd1]
  show V X room_1 (mun E D1) k n [(0, .ref b), (1, .ref dk), (2, .ref md), (3, .int (nI i))] 1258 [.long (aLean (xs (i + 1)) (xs (i + 2)) (xs (i + 3)) (xs (i + 4)) (xs (i + 5)))]
  refine v_aload_n C dL_law_1258 rfl ?_
  refine v_aload_n C dL_law_1259 rfl ?_
  refine v_iload_n C dL_law_1260 rfl ?_
  refine v_iconst C dL_law_1261 (v := 1) rfl ?_
  refine v_iadd C dL_law_1262 ?_
  rw [show ((nI i) + 1 : Int32) = nI (i + 1) from ix_ad rfl rfl]
  refine v_sld C hSx (vp_in_nI (by omega) (by omega)) dL_law_1263 ?_
  rw [nI_clamp (n := i + 1) (by omega)]
  refine v_aload_n C dL_law_1264 rfl ?_
  refine v_iload_n C dL_law_1265 rfl ?_
  refine v_iconst C dL_law_1266 (v := 2) rfl ?_
  refine v_iadd C dL_law_1267 ?_
  rw [show ((nI i) + 2 : Int32) = nI (i + 2) from ix_ad rfl rfl]
  refine v_sld C hSx (vp_in_nI (by omega) (by omega)) dL_law_1268 ?_
  rw [nI_clamp (n := i + 2) (by omega)]
  refine v_aload_n C dL_law_1269 rfl ?_
  refine v_iload_n C dL_law_1270 rfl ?_
  refine v_iconst C dL_law_1271 (v := 3) rfl ?_
  refine v_iadd C dL_law_1272 ?_
  rw [show ((nI i) + 3 : Int32) = nI (i + 3) from ix_ad rfl rfl]
  refine v_sld C hSx (vp_in_nI (by omega) (by omega)) dL_law_1273 ?_
  rw [nI_clamp (n := i + 3) (by omega)]
  refine v_aload_n C dL_law_1274 rfl ?_
  refine v_iload_n C dL_law_1275 rfl ?_
  refine v_iconst C dL_law_1276 (v := 4) rfl ?_
  refine v_iadd C dL_law_1277 ?_
  rw [show ((nI i) + 4 : Int32) = nI (i + 4) from ix_ad rfl rfl]
  refine v_sld C hSx (vp_in_nI (by omega) (by omega)) dL_law_1278 ?_
  rw [nI_clamp (n := i + 4) (by omega)]
  refine v_aload_n C dL_law_1279 rfl ?_
  refine v_iload_n C dL_law_1280 rfl ?_
  refine v_iconst C dL_law_1281 (v := 5) rfl ?_
  refine v_iadd C dL_law_1282 ?_
  rw [show ((nI i) + 5 : Int32) = nI (i + 5) from ix_ad rfl rfl]
  refine v_sld C hSx (vp_in_nI (by omega) (by omega)) dL_law_1283 ?_
  rw [nI_clamp (n := i + 5) (by omega)]
  refine v_callV (As := [.int (xs (i + 1)), .int (xs (i + 2)), .int (xs (i + 3)), .int (xs (i + 4)), .int (xs (i + 5))]) (rest := [.long (aLean (xs (i + 1)) (xs (i + 2)) (xs (i + 3)) (xs (i + 4)) (xs (i + 5)))]) (b := md) C ((w_X10_lean (xl X) (xg X) E md nT m dB nP pf cB nS sg ln tx fl hM (xs (i + 1)) (xs (i + 2)) (xs (i + 3)) (xs (i + 4)) (xs (i + 5))).frame (mun_dis hd1)) pm_X10_lean wI_X10_lean wS_X10_lean wM_L_129 kX10 (mun_l hMc) ⟨by decide, by decide⟩ ⟨show k + 0 ≤ 600000 by omega, show n + 0 ≤ 7302250 by omega⟩ (nle rfl) dL_law_1284 rfl ?_
  rintro _ _ ⟨E1, ⟨rfl, hM1⟩, rfl, hd2⟩
  show V X room_1 (mun E1 D1) k n [(0, .ref b), (1, .ref dk), (2, .ref md), (3, .int (nI i))] 1287 [.long (aLean (xs (i + 1)) (xs (i + 2)) (xs (i + 3)) (xs (i + 4)) (xs (i + 5))), .long (aLean (xs (i + 1)) (xs (i + 2)) (xs (i + 3)) (xs (i + 4)) (xs (i + 5)))]
  refine v_lcmp C dL_law_1287 ?_
  refine v_if_eq (tgt := 1316) C dL_law_1288 (by decide) (fun h1288 => ?_) (fun hbad => absurd hbad (not_not_intro ((lg_cmp_eq _ _).mpr rfl)))
  rw [mun_comm hd2]
  exact nx _ D1 E1 _ _ hD1 hM1 (mun_dis hd2) (by omega) (by omega)
set_option maxHeartbeats 4000000 in
set_option maxRecDepth 100000 in
theorem law_told {X : FC} {b dk md L i k n : Nat} {xs : Nat → Int32} {D E : Mem} {nT : Nat} {m : Nat → Nat → Nat} {dB : Nat → Nat → Bool} {nP : Nat} {pf : Nat → Nat → Nat} {cB : Nat → Nat → Bool} {nS : Nat} {sg : Nat → Int32} {ln : Nat → Nat} {tx : Nat → Nat → Int32} {fl : Nat → Nat → Nat} (C : Bx X yL_law cL_law) (hN : xn X = 4) (hSx : Sx X b L xs) (hi : i + 9 ≤ L) (hL : L ≤ 4608) (hk : k ≤ 500000) (hn : n ≤ 7000000) (hD : DeskS (xg X) D dk (nT, m, dB, nP, pf, cB, nS, sg, ln, tx, fl)) (hM : ModS (xg X) E md (nT, m, dB, nP, pf, cB, nS, sg, ln, tx, fl)) (hd : ∀ a, E a ≠ none → D a = none) (nx : ∀ (σ : St) (D' E' : Mem) (k' n' : Nat), DeskS (xg X) D' dk σ → ModS (xg X) E' md σ → (∀ a, E' a ≠ none → D' a = none) → k' ≤ k + 4 → n' ≤ n + 202 → V X room_1 (mun D' E') k' n' [(0, .ref b), (1, .ref dk), (2, .ref md), (3, .int (nI i))] 1316 []) : V X room_1 (mun D E) k n [(0, .ref b), (1, .ref dk), (2, .ref md), (3, .int (nI i))] 1293 [] := by
  obtain ⟨fs9, hDc⟩ := hD.cell
  obtain ⟨fs10, hMc⟩ := hM.cell
  refine v_aload_n C dL_law_1293 rfl ?_
  refine v_aload_n C dL_law_1294 rfl ?_
  refine v_iload_n C dL_law_1295 rfl ?_
  refine v_iconst C dL_law_1296 (v := 1) rfl ?_
  refine v_iadd C dL_law_1297 ?_
  rw [show ((nI i) + 1 : Int32) = nI (i + 1) from ix_ad rfl rfl]
  refine v_sld C hSx (vp_in_nI (by omega) (by omega)) dL_law_1298 ?_
  rw [nI_clamp (n := i + 1) (by omega)]
  refine v_callV (As := [.int (xs (i + 1))]) (rest := []) (b := dk) C ((w_X9_told (xl X) (xg X) D dk nT m dB nP pf cB nS sg ln tx fl hD (xs (i + 1))).frame hd) pm_X9_told wI_X9_told wS_X9_told wM_L_130 kX9 (mun_l hDc) ⟨by decide, by decide⟩ ⟨show k + 0 ≤ 600000 by omega, show n + 0 ≤ 7302250 by omega⟩ (nle rfl) dL_law_1299 rfl ?_
  rintro _ _ ⟨D1, ⟨rfl, hD1⟩, rfl, hd1⟩
  rw [mun_comm hd1]
  show V X room_1 (mun E D1) k n [(0, .ref b), (1, .ref dk), (2, .ref md), (3, .int (nI i))] 1302 [.int (aTold nT nP nS ln (xs (i + 1)))]
  refine v_aload_n C dL_law_1302 rfl ?_
  refine v_aload_n C dL_law_1303 rfl ?_
  refine v_iload_n C dL_law_1304 rfl ?_
  refine v_iconst C dL_law_1305 (v := 1) rfl ?_
  refine v_iadd C dL_law_1306 ?_
  rw [show ((nI i) + 1 : Int32) = nI (i + 1) from ix_ad rfl rfl]
  refine v_sld C hSx (vp_in_nI (by omega) (by omega)) dL_law_1307 ?_
  rw [nI_clamp (n := i + 1) (by omega)]
  refine v_callV (As := [.int (xs (i + 1))]) (rest := [.int (aTold nT nP nS ln (xs (i + 1)))]) (b := md) C ((w_X10_told (xl X) (xg X) E md nT m dB nP pf cB nS sg ln tx fl hM (xs (i + 1))).frame (mun_dis hd1)) pm_X10_told wI_X10_told wS_X10_told wM_L_133 kX10 (mun_l hMc) ⟨by decide, by decide⟩ ⟨show k + 0 ≤ 600000 by omega, show n + 0 ≤ 7302250 by omega⟩ (nle rfl) dL_law_1308 rfl ?_
  rintro _ _ ⟨E1, ⟨rfl, hM1⟩, rfl, hd2⟩
  show V X room_1 (mun E1 D1) k n [(0, .ref b), (1, .ref dk), (2, .ref md), (3, .int (nI i))] 1311 [.int (aTold nT nP nS ln (xs (i + 1))), .int (aTold nT nP nS ln (xs (i + 1)))]
  refine v_icmp_eq (tgt := 1316) C dL_law_1311 (by decide) (fun h1311 => ?_) (fun hbad => absurd hbad (not_not_intro rfl))
  rw [mun_comm hd2]
  exact nx _ D1 E1 _ _ hD1 hM1 (mun_dis hd2) (by omega) (by omega)

/-! Rows of V: one an instruction. C: what holds along the walk; the decode row; the goal behind the instruction. -/
section VRows
variable {X : FC} {y : MethodName} {cc : ByteArray} {R : Room} {M : Mem} {k n : Nat} {lv lv' : List (Nat × Value)} {pc tgt : Nat} {rest : List Value}
/-- the locals' value at a place -/
def lvg (lv : List (Nat × Value)) (i : Nat) : Option Value := (lv.find? (fun q => q.1 == i)).map (·.2)
theorem lvg_has {ls : Array Slot} {nL : Nat} {lv : List (Nat × Value)} {i : Nat} {v : Value} (h : lv_has ls nL lv) (hv : lvg lv i = some v) : ls[i]? = some (.val v) := by
  unfold lvg at hv
  rw [Option.map_eq_some_iff] at hv
  obtain ⟨q, hq, rfl⟩ := hv
  have h1 := List.find?_some hq
  have h2 : q.1 = i := by simpa using h1
  rw [← h2]
  exact h.2.2 q (List.mem_of_find?_eq_some hq)
theorem v_iconst (C : Bx X y cc) {z : Int} {v : Int32} (hd : decode cc pc = .ok (.iconst z, 1)) (hv : Int32.ofInt z = v) (kk : V X R M k n lv (pc + 1) (.int v :: rest)) : V X R M k n lv pc (rest) := by
  obtain ⟨p, l, e, s, m, args, below, meth, c, Q, g, nL, A⟩ := X
  obtain ⟨hx, hb, hml, hown, hE, hZ, hB⟩ := C
  intro H locs ls h1 h2 h3
  exact lv_iconst hx hb hd hv (kk H locs ls h1 h2 h3)
theorem v_bipush (C : Bx X y cc) {z : Int} {v : Int32} (hd : decode cc pc = .ok (.bipush z, 2)) (hv : (Int8.ofInt z).toInt32 = v) (kk : V X R M k n lv (pc + 2) (.int v :: rest)) : V X R M k n lv pc (rest) := by
  obtain ⟨p, l, e, s, m, args, below, meth, c, Q, g, nL, A⟩ := X
  obtain ⟨hx, hb, hml, hown, hE, hZ, hB⟩ := C
  intro H locs ls h1 h2 h3
  exact lv_bipush hx hb hd hv (kk H locs ls h1 h2 h3)
theorem v_sipush (C : Bx X y cc) {z : Int} {v : Int32} (hd : decode cc pc = .ok (.sipush z, 3)) (hv : (Int16.ofInt z).toInt32 = v) (kk : V X R M k n lv (pc + 3) (.int v :: rest)) : V X R M k n lv pc (rest) := by
  obtain ⟨p, l, e, s, m, args, below, meth, c, Q, g, nL, A⟩ := X
  obtain ⟨hx, hb, hml, hown, hE, hZ, hB⟩ := C
  intro H locs ls h1 h2 h3
  exact lv_sipush hx hb hd hv (kk H locs ls h1 h2 h3)
theorem v_lconst (C : Bx X y cc) {z : Fin 2} {v : Int64} (hd : decode cc pc = .ok (.lconst z, 1)) (hv : Int64.ofNat (z : Nat) = v) (kk : V X R M k n lv (pc + 1) (.long v :: rest)) : V X R M k n lv pc (rest) := by
  obtain ⟨p, l, e, s, m, args, below, meth, c, Q, g, nL, A⟩ := X
  obtain ⟨hx, hb, hml, hown, hE, hZ, hB⟩ := C
  intro H locs ls h1 h2 h3
  exact lv_lconst hx hb hd hv (kk H locs ls h1 h2 h3)
theorem v_null (C : Bx X y cc)  (hd : decode cc pc = .ok (.aconst_null, 1)) (kk : V X R M k n lv (pc + 1) (.null :: rest)) : V X R M k n lv pc (rest) := by
  obtain ⟨p, l, e, s, m, args, below, meth, c, Q, g, nL, A⟩ := X
  obtain ⟨hx, hb, hml, hown, hE, hZ, hB⟩ := C
  intro H locs ls h1 h2 h3
  exact lv_null hx hb hd (kk H locs ls h1 h2 h3)
theorem v_ldc2 (C : Bx X y cc) {ix : Nat} {v : Int64} (hd : decode cc pc = .ok (.ldc2_w ix, 3)) (hw : Cond.constantLong y.cls ix v ∈ tbl) (kk : V X R M k n lv (pc + 3) (.long v :: rest)) : V X R M k n lv pc (rest) := by
  obtain ⟨p, l, e, s, m, args, below, meth, c, Q, g, nL, A⟩ := X
  obtain ⟨hx, hb, hml, hown, hE, hZ, hB⟩ := C
  intro H locs ls h1 h2 h3
  exact lv_ldc2 hx hb hown (hE.use args _ hw) hd (kk H locs ls h1 h2 h3)
theorem v_iload_n (C : Bx X y cc) {i : Fin 4} {x : Int32} (hd : decode cc pc = .ok (.iload_n i, 1)) (hg : lvg lv (i : Nat) = some (.int x)) (kk : V X R M k n lv (pc + 1) (.int x :: rest)) : V X R M k n lv pc (rest) := by
  obtain ⟨p, l, e, s, m, args, below, meth, c, Q, g, nL, A⟩ := X
  obtain ⟨hx, hb, hml, hown, hE, hZ, hB⟩ := C
  intro H locs ls h1 h2 h3
  exact lv_iload_n hx hb hd rfl (lvg_has h3 hg) (kk H locs ls h1 h2 h3)
theorem v_iload (C : Bx X y cc) {i : Nat} {x : Int32} (hd : decode cc pc = .ok (.iload i, 2)) (hg : lvg lv i = some (.int x)) (kk : V X R M k n lv (pc + 2) (.int x :: rest)) : V X R M k n lv pc (rest) := by
  obtain ⟨p, l, e, s, m, args, below, meth, c, Q, g, nL, A⟩ := X
  obtain ⟨hx, hb, hml, hown, hE, hZ, hB⟩ := C
  intro H locs ls h1 h2 h3
  exact lv_iload hx hb hd (lvg_has h3 hg) (kk H locs ls h1 h2 h3)
theorem v_lload_n (C : Bx X y cc) {i : Fin 4} {x : Int64} (hd : decode cc pc = .ok (.lload_n i, 1)) (hg : lvg lv (i : Nat) = some (.long x)) (kk : V X R M k n lv (pc + 1) (.long x :: rest)) : V X R M k n lv pc (rest) := by
  obtain ⟨p, l, e, s, m, args, below, meth, c, Q, g, nL, A⟩ := X
  obtain ⟨hx, hb, hml, hown, hE, hZ, hB⟩ := C
  intro H locs ls h1 h2 h3
  exact lv_lload_n hx hb hd rfl (lvg_has h3 hg) (kk H locs ls h1 h2 h3)
theorem v_lload (C : Bx X y cc) {i : Nat} {x : Int64} (hd : decode cc pc = .ok (.lload i, 2)) (hg : lvg lv i = some (.long x)) (kk : V X R M k n lv (pc + 2) (.long x :: rest)) : V X R M k n lv pc (rest) := by
  obtain ⟨p, l, e, s, m, args, below, meth, c, Q, g, nL, A⟩ := X
  obtain ⟨hx, hb, hml, hown, hE, hZ, hB⟩ := C
  intro H locs ls h1 h2 h3
  exact lv_lload hx hb hd (lvg_has h3 hg) (kk H locs ls h1 h2 h3)
theorem v_aload_n (C : Bx X y cc) {i : Fin 4} {x : Nat} (hd : decode cc pc = .ok (.aload_n i, 1)) (hg : lvg lv (i : Nat) = some (.ref x)) (kk : V X R M k n lv (pc + 1) (.ref x :: rest)) : V X R M k n lv pc (rest) := by
  obtain ⟨p, l, e, s, m, args, below, meth, c, Q, g, nL, A⟩ := X
  obtain ⟨hx, hb, hml, hown, hE, hZ, hB⟩ := C
  intro H locs ls h1 h2 h3
  exact lv_aload_n hx hb hd rfl (lvg_has h3 hg) (kk H locs ls h1 h2 h3)
theorem v_aload (C : Bx X y cc) {i : Nat} {x : Nat} (hd : decode cc pc = .ok (.aload i, 2)) (hg : lvg lv i = some (.ref x)) (kk : V X R M k n lv (pc + 2) (.ref x :: rest)) : V X R M k n lv pc (rest) := by
  obtain ⟨p, l, e, s, m, args, below, meth, c, Q, g, nL, A⟩ := X
  obtain ⟨hx, hb, hml, hown, hE, hZ, hB⟩ := C
  intro H locs ls h1 h2 h3
  exact lv_aload hx hb hd (lvg_has h3 hg) (kk H locs ls h1 h2 h3)
theorem v_aload_nN (C : Bx X y cc) {i : Fin 4} (hd : decode cc pc = .ok (.aload_n i, 1)) (hg : lvg lv (i : Nat) = some .null) (kk : V X R M k n lv (pc + 1) (.null :: rest)) : V X R M k n lv pc (rest) := by
  obtain ⟨p, l, e, s, m, args, below, meth, c, Q, g, nL, A⟩ := X
  obtain ⟨hx, hb, hml, hown, hE, hZ, hB⟩ := C
  intro H locs ls h1 h2 h3
  exact lv_aload_nN hx hb hd rfl (lvg_has h3 hg) (kk H locs ls h1 h2 h3)
theorem v_aloadN (C : Bx X y cc) {i : Nat} (hd : decode cc pc = .ok (.aload i, 2)) (hg : lvg lv i = some .null) (kk : V X R M k n lv (pc + 2) (.null :: rest)) : V X R M k n lv pc (rest) := by
  obtain ⟨p, l, e, s, m, args, below, meth, c, Q, g, nL, A⟩ := X
  obtain ⟨hx, hb, hml, hown, hE, hZ, hB⟩ := C
  intro H locs ls h1 h2 h3
  exact lv_aloadN hx hb hd (lvg_has h3 hg) (kk H locs ls h1 h2 h3)
theorem v_istore_n (C : Bx X y cc) {i : Fin 4} {x : Int32} (hd : decode cc pc = .ok (.istore_n i, 1)) {nl0 : Nat} (hN : xn X = nl0) (hn : (i : Nat) < nl0) (hl : ((i : Nat), Value.int x) :: lv.filter (fun q => !(q.1 == (i : Nat)) && !(q.1 + 1 == (i : Nat) && q.2.category == 2)) = lv') (kk : V X R M k n lv' (pc + 1) (rest)) : V X R M k n lv pc (.int x :: rest) := by
  obtain ⟨p, l, e, s, m, args, below, meth, c, Q, g, nL, A⟩ := X
  obtain ⟨hx, hb, hml, hown, hE, hZ, hB⟩ := C
  intro H locs ls h1 h2 h3
  exact lv_istore_n hx hb hd rfl h3 (Nat.lt_of_lt_of_eq hn (Eq.symm hN)) hl (fun ls' h' => kk H locs ls' h1 h2 h')
theorem v_istore (C : Bx X y cc) {i : Nat} {x : Int32} (hd : decode cc pc = .ok (.istore i, 2)) {nl0 : Nat} (hN : xn X = nl0) (hn : i < nl0) (hl : (i, Value.int x) :: lv.filter (fun q => !(q.1 == i) && !(q.1 + 1 == i && q.2.category == 2)) = lv') (kk : V X R M k n lv' (pc + 2) (rest)) : V X R M k n lv pc (.int x :: rest) := by
  obtain ⟨p, l, e, s, m, args, below, meth, c, Q, g, nL, A⟩ := X
  obtain ⟨hx, hb, hml, hown, hE, hZ, hB⟩ := C
  intro H locs ls h1 h2 h3
  exact lv_istore hx hb hd h3 (Nat.lt_of_lt_of_eq hn (Eq.symm hN)) hl (fun ls' h' => kk H locs ls' h1 h2 h')
theorem v_astore_n (C : Bx X y cc) {i : Fin 4} {x : Nat} (hd : decode cc pc = .ok (.astore_n i, 1)) {nl0 : Nat} (hN : xn X = nl0) (hn : (i : Nat) < nl0) (hl : ((i : Nat), Value.ref x) :: lv.filter (fun q => !(q.1 == (i : Nat)) && !(q.1 + 1 == (i : Nat) && q.2.category == 2)) = lv') (kk : V X R M k n lv' (pc + 1) (rest)) : V X R M k n lv pc (.ref x :: rest) := by
  obtain ⟨p, l, e, s, m, args, below, meth, c, Q, g, nL, A⟩ := X
  obtain ⟨hx, hb, hml, hown, hE, hZ, hB⟩ := C
  intro H locs ls h1 h2 h3
  exact lv_astore_n hx hb hd rfl h3 (Nat.lt_of_lt_of_eq hn (Eq.symm hN)) hl (fun ls' h' => kk H locs ls' h1 h2 h')
theorem v_astore (C : Bx X y cc) {i : Nat} {x : Nat} (hd : decode cc pc = .ok (.astore i, 2)) {nl0 : Nat} (hN : xn X = nl0) (hn : i < nl0) (hl : (i, Value.ref x) :: lv.filter (fun q => !(q.1 == i) && !(q.1 + 1 == i && q.2.category == 2)) = lv') (kk : V X R M k n lv' (pc + 2) (rest)) : V X R M k n lv pc (.ref x :: rest) := by
  obtain ⟨p, l, e, s, m, args, below, meth, c, Q, g, nL, A⟩ := X
  obtain ⟨hx, hb, hml, hown, hE, hZ, hB⟩ := C
  intro H locs ls h1 h2 h3
  exact lv_astore hx hb hd h3 (Nat.lt_of_lt_of_eq hn (Eq.symm hN)) hl (fun ls' h' => kk H locs ls' h1 h2 h')
theorem v_lstore_n (C : Bx X y cc) {i : Fin 4} {x : Int64} (hd : decode cc pc = .ok (.lstore_n i, 1)) {nl0 : Nat} (hN : xn X = nl0) (hn : (i : Nat) + 1 < nl0) (hl : ((i : Nat), Value.long x) :: lv.filter (fun q => !(q.1 == (i : Nat)) && (!(q.1 == (i : Nat) + 1) && !(q.1 + 1 == (i : Nat) && q.2.category == 2))) = lv') (kk : V X R M k n lv' (pc + 1) (rest)) : V X R M k n lv pc (.long x :: rest) := by
  obtain ⟨p, l, e, s, m, args, below, meth, c, Q, g, nL, A⟩ := X
  obtain ⟨hx, hb, hml, hown, hE, hZ, hB⟩ := C
  intro H locs ls h1 h2 h3
  exact lv_lstore_n hx hb hd rfl h3 (Nat.lt_of_lt_of_eq hn (Eq.symm hN)) hl (fun ls' h' => kk H locs ls' h1 h2 h')
theorem v_lstore (C : Bx X y cc) {i : Nat} {x : Int64} (hd : decode cc pc = .ok (.lstore i, 2)) {nl0 : Nat} (hN : xn X = nl0) (hn : i + 1 < nl0) (hl : (i, Value.long x) :: lv.filter (fun q => !(q.1 == i) && (!(q.1 == i + 1) && !(q.1 + 1 == i && q.2.category == 2))) = lv') (kk : V X R M k n lv' (pc + 2) (rest)) : V X R M k n lv pc (.long x :: rest) := by
  obtain ⟨p, l, e, s, m, args, below, meth, c, Q, g, nL, A⟩ := X
  obtain ⟨hx, hb, hml, hown, hE, hZ, hB⟩ := C
  intro H locs ls h1 h2 h3
  exact lv_lstore hx hb hd h3 (Nat.lt_of_lt_of_eq hn (Eq.symm hN)) hl (fun ls' h' => kk H locs ls' h1 h2 h')
theorem v_astore_nN (C : Bx X y cc) {i : Fin 4} (hd : decode cc pc = .ok (.astore_n i, 1)) {nl0 : Nat} (hN : xn X = nl0) (hn : (i : Nat) < nl0) (hl : ((i : Nat), Value.null) :: lv.filter (fun q => !(q.1 == (i : Nat)) && !(q.1 + 1 == (i : Nat) && q.2.category == 2)) = lv') (kk : V X R M k n lv' (pc + 1) (rest)) : V X R M k n lv pc (.null :: rest) := by
  obtain ⟨p, l, e, s, m, args, below, meth, c, Q, g, nL, A⟩ := X
  obtain ⟨hx, hb, hml, hown, hE, hZ, hB⟩ := C
  intro H locs ls h1 h2 h3
  exact lv_astore_nN hx hb hd rfl h3 (Nat.lt_of_lt_of_eq hn (Eq.symm hN)) hl (fun ls' h' => kk H locs ls' h1 h2 h')
theorem v_astoreN (C : Bx X y cc) {i : Nat} (hd : decode cc pc = .ok (.astore i, 2)) {nl0 : Nat} (hN : xn X = nl0) (hn : i < nl0) (hl : (i, Value.null) :: lv.filter (fun q => !(q.1 == i) && !(q.1 + 1 == i && q.2.category == 2)) = lv') (kk : V X R M k n lv' (pc + 2) (rest)) : V X R M k n lv pc (.null :: rest) := by
  obtain ⟨p, l, e, s, m, args, below, meth, c, Q, g, nL, A⟩ := X
  obtain ⟨hx, hb, hml, hown, hE, hZ, hB⟩ := C
  intro H locs ls h1 h2 h3
  exact lv_astoreN hx hb hd h3 (Nat.lt_of_lt_of_eq hn (Eq.symm hN)) hl (fun ls' h' => kk H locs ls' h1 h2 h')
theorem v_iinc (C : Bx X y cc) {i : Nat} {z : Int} {x v : Int32} (hd : decode cc pc = .ok (.iinc i z, 3)) (j : Nat) (hg : lv[j]? = some (i, .int x)) (hv : x + Int32.ofInt z = v) {nl0 : Nat} (hN : xn X = nl0) (hn : i < nl0) (hl : (i, Value.int v) :: lv.filter (fun q => !(q.1 == i) && !(q.1 + 1 == i && q.2.category == 2)) = lv') (kk : V X R M k n lv' (pc + 3) rest) : V X R M k n lv pc rest := by
  obtain ⟨p, l, e, s, m, args, below, meth, c, Q, g, nL, A⟩ := X
  obtain ⟨hx, hb, hml, hown, hE, hZ, hB⟩ := C
  intro H locs ls h1 h2 h3
  exact lv_iinc hx hb hd h3 hg hv (Nat.lt_of_lt_of_eq hn (Eq.symm hN)) hl (fun ls' h' => kk H locs ls' h1 h2 h')
theorem v_iadd (C : Bx X y cc) {a b : Int32} (hd : decode cc pc = .ok (.iadd, 1)) (kk : V X R M k n lv (pc + 1) (.int (a + b) :: rest)) : V X R M k n lv pc (.int b :: .int a :: rest) := by
  obtain ⟨p, l, e, s, m, args, below, meth, c, Q, g, nL, A⟩ := X
  obtain ⟨hx, hb, hml, hown, hE, hZ, hB⟩ := C
  intro H locs ls h1 h2 h3
  exact lv_iadd hx hb hd (kk H locs ls h1 h2 h3)
theorem v_isub (C : Bx X y cc) {a b : Int32} (hd : decode cc pc = .ok (.isub, 1)) (kk : V X R M k n lv (pc + 1) (.int (a - b) :: rest)) : V X R M k n lv pc (.int b :: .int a :: rest) := by
  obtain ⟨p, l, e, s, m, args, below, meth, c, Q, g, nL, A⟩ := X
  obtain ⟨hx, hb, hml, hown, hE, hZ, hB⟩ := C
  intro H locs ls h1 h2 h3
  exact lv_isub hx hb hd (kk H locs ls h1 h2 h3)
theorem v_imul (C : Bx X y cc) {a b : Int32} (hd : decode cc pc = .ok (.imul, 1)) (kk : V X R M k n lv (pc + 1) (.int (a * b) :: rest)) : V X R M k n lv pc (.int b :: .int a :: rest) := by
  obtain ⟨p, l, e, s, m, args, below, meth, c, Q, g, nL, A⟩ := X
  obtain ⟨hx, hb, hml, hown, hE, hZ, hB⟩ := C
  intro H locs ls h1 h2 h3
  exact lv_imul hx hb hd (kk H locs ls h1 h2 h3)
theorem v_iand (C : Bx X y cc) {a b : Int32} (hd : decode cc pc = .ok (.iand, 1)) (kk : V X R M k n lv (pc + 1) (.int (a &&& b) :: rest)) : V X R M k n lv pc (.int b :: .int a :: rest) := by
  obtain ⟨p, l, e, s, m, args, below, meth, c, Q, g, nL, A⟩ := X
  obtain ⟨hx, hb, hml, hown, hE, hZ, hB⟩ := C
  intro H locs ls h1 h2 h3
  exact lv_iand hx hb hd (kk H locs ls h1 h2 h3)
theorem v_ior (C : Bx X y cc) {a b : Int32} (hd : decode cc pc = .ok (.ior, 1)) (kk : V X R M k n lv (pc + 1) (.int (a ||| b) :: rest)) : V X R M k n lv pc (.int b :: .int a :: rest) := by
  obtain ⟨p, l, e, s, m, args, below, meth, c, Q, g, nL, A⟩ := X
  obtain ⟨hx, hb, hml, hown, hE, hZ, hB⟩ := C
  intro H locs ls h1 h2 h3
  exact lv_ior hx hb hd (kk H locs ls h1 h2 h3)
theorem v_ishl (C : Bx X y cc) {a b : Int32} (hd : decode cc pc = .ok (.ishl, 1)) (kk : V X R M k n lv (pc + 1) (.int (a <<< (b &&& 31)) :: rest)) : V X R M k n lv pc (.int b :: .int a :: rest) := by
  obtain ⟨p, l, e, s, m, args, below, meth, c, Q, g, nL, A⟩ := X
  obtain ⟨hx, hb, hml, hown, hE, hZ, hB⟩ := C
  intro H locs ls h1 h2 h3
  exact lv_ishl hx hb hd (kk H locs ls h1 h2 h3)
theorem v_ishr (C : Bx X y cc) {a b : Int32} (hd : decode cc pc = .ok (.ishr, 1)) (kk : V X R M k n lv (pc + 1) (.int (a >>> (b &&& 31)) :: rest)) : V X R M k n lv pc (.int b :: .int a :: rest) := by
  obtain ⟨p, l, e, s, m, args, below, meth, c, Q, g, nL, A⟩ := X
  obtain ⟨hx, hb, hml, hown, hE, hZ, hB⟩ := C
  intro H locs ls h1 h2 h3
  exact lv_ishr hx hb hd (kk H locs ls h1 h2 h3)
theorem v_ladd (C : Bx X y cc) {a b : Int64} (hd : decode cc pc = .ok (.ladd, 1)) (kk : V X R M k n lv (pc + 1) (.long (a + b) :: rest)) : V X R M k n lv pc (.long b :: .long a :: rest) := by
  obtain ⟨p, l, e, s, m, args, below, meth, c, Q, g, nL, A⟩ := X
  obtain ⟨hx, hb, hml, hown, hE, hZ, hB⟩ := C
  intro H locs ls h1 h2 h3
  exact lv_ladd hx hb hd (kk H locs ls h1 h2 h3)
theorem v_lsub (C : Bx X y cc) {a b : Int64} (hd : decode cc pc = .ok (.lsub, 1)) (kk : V X R M k n lv (pc + 1) (.long (a - b) :: rest)) : V X R M k n lv pc (.long b :: .long a :: rest) := by
  obtain ⟨p, l, e, s, m, args, below, meth, c, Q, g, nL, A⟩ := X
  obtain ⟨hx, hb, hml, hown, hE, hZ, hB⟩ := C
  intro H locs ls h1 h2 h3
  exact lv_lsub hx hb hd (kk H locs ls h1 h2 h3)
theorem v_lmul (C : Bx X y cc) {a b : Int64} (hd : decode cc pc = .ok (.lmul, 1)) (kk : V X R M k n lv (pc + 1) (.long (a * b) :: rest)) : V X R M k n lv pc (.long b :: .long a :: rest) := by
  obtain ⟨p, l, e, s, m, args, below, meth, c, Q, g, nL, A⟩ := X
  obtain ⟨hx, hb, hml, hown, hE, hZ, hB⟩ := C
  intro H locs ls h1 h2 h3
  exact lv_lmul hx hb hd (kk H locs ls h1 h2 h3)
theorem v_land (C : Bx X y cc) {a b : Int64} (hd : decode cc pc = .ok (.land, 1)) (kk : V X R M k n lv (pc + 1) (.long (a &&& b) :: rest)) : V X R M k n lv pc (.long b :: .long a :: rest) := by
  obtain ⟨p, l, e, s, m, args, below, meth, c, Q, g, nL, A⟩ := X
  obtain ⟨hx, hb, hml, hown, hE, hZ, hB⟩ := C
  intro H locs ls h1 h2 h3
  exact lv_land hx hb hd (kk H locs ls h1 h2 h3)
theorem v_lxor (C : Bx X y cc) {a b : Int64} (hd : decode cc pc = .ok (.lxor, 1)) (kk : V X R M k n lv (pc + 1) (.long (a ^^^ b) :: rest)) : V X R M k n lv pc (.long b :: .long a :: rest) := by
  obtain ⟨p, l, e, s, m, args, below, meth, c, Q, g, nL, A⟩ := X
  obtain ⟨hx, hb, hml, hown, hE, hZ, hB⟩ := C
  intro H locs ls h1 h2 h3
  exact lv_lxor hx hb hd (kk H locs ls h1 h2 h3)
theorem v_ineg (C : Bx X y cc) {a : Int32} (hd : decode cc pc = .ok (.ineg, 1)) (kk : V X R M k n lv (pc + 1) (.int (-a) :: rest)) : V X R M k n lv pc (.int a :: rest) := by
  obtain ⟨p, l, e, s, m, args, below, meth, c, Q, g, nL, A⟩ := X
  obtain ⟨hx, hb, hml, hown, hE, hZ, hB⟩ := C
  intro H locs ls h1 h2 h3
  exact lv_ineg hx hb hd (kk H locs ls h1 h2 h3)
theorem v_idiv (C : Bx X y cc) {a b : Int32} (hd : decode cc pc = .ok (.idiv, 1)) (hz : ¬ b = 0) (kk : V X R M k n lv (pc + 1) (.int (a / b) :: rest)) : V X R M k n lv pc (.int b :: .int a :: rest) := by
  obtain ⟨p, l, e, s, m, args, below, meth, c, Q, g, nL, A⟩ := X
  obtain ⟨hx, hb, hml, hown, hE, hZ, hB⟩ := C
  intro H locs ls h1 h2 h3
  exact lv_idiv hx hb hd hz (kk H locs ls h1 h2 h3)
theorem v_irem (C : Bx X y cc) {a b : Int32} (hd : decode cc pc = .ok (.irem, 1)) (hz : ¬ b = 0) (kk : V X R M k n lv (pc + 1) (.int (a - a / b * b) :: rest)) : V X R M k n lv pc (.int b :: .int a :: rest) := by
  obtain ⟨p, l, e, s, m, args, below, meth, c, Q, g, nL, A⟩ := X
  obtain ⟨hx, hb, hml, hown, hE, hZ, hB⟩ := C
  intro H locs ls h1 h2 h3
  exact lv_irem hx hb hd hz (kk H locs ls h1 h2 h3)
theorem v_ldiv (C : Bx X y cc) {a b : Int64} (hd : decode cc pc = .ok (.ldiv, 1)) (hz : ¬ b = 0) (kk : V X R M k n lv (pc + 1) (.long (a / b) :: rest)) : V X R M k n lv pc (.long b :: .long a :: rest) := by
  obtain ⟨p, l, e, s, m, args, below, meth, c, Q, g, nL, A⟩ := X
  obtain ⟨hx, hb, hml, hown, hE, hZ, hB⟩ := C
  intro H locs ls h1 h2 h3
  exact lv_ldiv hx hb hd hz (kk H locs ls h1 h2 h3)
theorem v_lrem (C : Bx X y cc) {a b : Int64} (hd : decode cc pc = .ok (.lrem, 1)) (hz : ¬ b = 0) (kk : V X R M k n lv (pc + 1) (.long (a - a / b * b) :: rest)) : V X R M k n lv pc (.long b :: .long a :: rest) := by
  obtain ⟨p, l, e, s, m, args, below, meth, c, Q, g, nL, A⟩ := X
  obtain ⟨hx, hb, hml, hown, hE, hZ, hB⟩ := C
  intro H locs ls h1 h2 h3
  exact lv_lrem hx hb hd hz (kk H locs ls h1 h2 h3)
theorem v_lushr (C : Bx X y cc) {a : Int64} {b : Int32} (hd : decode cc pc = .ok (.lushr, 1)) (kk : V X R M k n lv (pc + 1) (.long ((a.toUInt64 >>> (b.toInt64.toUInt64 &&& Int64.toUInt64 63)).toInt64) :: rest)) : V X R M k n lv pc (.int b :: .long a :: rest) := by
  obtain ⟨p, l, e, s, m, args, below, meth, c, Q, g, nL, A⟩ := X
  obtain ⟨hx, hb, hml, hown, hE, hZ, hB⟩ := C
  intro H locs ls h1 h2 h3
  exact lv_lushr hx hb hd rfl (kk H locs ls h1 h2 h3)
theorem v_lshl (C : Bx X y cc) {a : Int64} {b : Int32} (hd : decode cc pc = .ok (.lshl, 1)) (kk : V X R M k n lv (pc + 1) (.long (a <<< (b.toInt64 &&& 63)) :: rest)) : V X R M k n lv pc (.int b :: .long a :: rest) := by
  obtain ⟨p, l, e, s, m, args, below, meth, c, Q, g, nL, A⟩ := X
  obtain ⟨hx, hb, hml, hown, hE, hZ, hB⟩ := C
  intro H locs ls h1 h2 h3
  exact lv_lshl hx hb hd rfl (kk H locs ls h1 h2 h3)
theorem v_i2l (C : Bx X y cc) {a : Int32} (hd : decode cc pc = .ok (.i2l, 1)) (kk : V X R M k n lv (pc + 1) (.long a.toInt64 :: rest)) : V X R M k n lv pc (.int a :: rest) := by
  obtain ⟨p, l, e, s, m, args, below, meth, c, Q, g, nL, A⟩ := X
  obtain ⟨hx, hb, hml, hown, hE, hZ, hB⟩ := C
  intro H locs ls h1 h2 h3
  exact lv_i2l hx hb hd rfl (kk H locs ls h1 h2 h3)
theorem v_lcmp (C : Bx X y cc) {a b : Int64} (hd : decode cc pc = .ok (.lcmp, 1)) (kk : V X R M k n lv (pc + 1) (.int (lg_cmp a b) :: rest)) : V X R M k n lv pc (.long b :: .long a :: rest) := by
  obtain ⟨p, l, e, s, m, args, below, meth, c, Q, g, nL, A⟩ := X
  obtain ⟨hx, hb, hml, hown, hE, hZ, hB⟩ := C
  intro H locs ls h1 h2 h3
  exact W.lcmp hx hb hd (kk H locs ls h1 h2 h3)
theorem v_dup (C : Bx X y cc) {v : Value} (hd : decode cc pc = .ok (.dup, 1)) (hc : v.category = 1) (kk : V X R M k n lv (pc + 1) (v :: v :: rest)) : V X R M k n lv pc (v :: rest) := by
  obtain ⟨p, l, e, s, m, args, below, meth, c, Q, g, nL, A⟩ := X
  obtain ⟨hx, hb, hml, hown, hE, hZ, hB⟩ := C
  intro H locs ls h1 h2 h3
  exact lv_dup hx hb hd hc (kk H locs ls h1 h2 h3)
theorem v_dup2 (C : Bx X y cc) {v w : Value} (hd : decode cc pc = .ok (.dup2, 1)) (hc : v.category = 1) (hc2 : w.category = 1) (kk : V X R M k n lv (pc + 1) (v :: w :: v :: w :: rest)) : V X R M k n lv pc (v :: w :: rest) := by
  obtain ⟨p, l, e, s, m, args, below, meth, c, Q, g, nL, A⟩ := X
  obtain ⟨hx, hb, hml, hown, hE, hZ, hB⟩ := C
  intro H locs ls h1 h2 h3
  exact lv_dup2_11 hx hb hd hc hc2 (kk H locs ls h1 h2 h3)
theorem v_goto (C : Bx X y cc) {off : Int} (hd : decode cc pc = .ok (.goto off, 3)) (ht : (pc : Int) + off = (tgt : Int)) (kk : V X R M k n lv (tgt) (rest)) : V X R M k n lv pc (rest) := by
  obtain ⟨p, l, e, s, m, args, below, meth, c, Q, g, nL, A⟩ := X
  obtain ⟨hx, hb, hml, hown, hE, hZ, hB⟩ := C
  intro H locs ls h1 h2 h3
  exact lv_goto hx hb hd ht (kk H locs ls h1 h2 h3)
theorem v_icmp_eq (C : Bx X y cc) {a b : Int32} {off : Int} (hd : decode cc pc = .ok (.if_icmp .eq off, 3)) (ht : (pc : Int) + off = (tgt : Int)) (kt : a = b → V X R M k n lv tgt rest) (kf : ¬ a = b → V X R M k n lv (pc + 3) rest) : V X R M k n lv pc (.int b :: .int a :: rest) := by
  obtain ⟨p, l, e, s, m, args, below, meth, c, Q, g, nL, A⟩ := X
  obtain ⟨hx, hb, hml, hown, hE, hZ, hB⟩ := C
  intro H locs ls h1 h2 h3
  exact lv_icmp_eq hx hb hd ht (fun q => kt q H locs ls h1 h2 h3) (fun q => kf q H locs ls h1 h2 h3)
theorem v_icmp_ne (C : Bx X y cc) {a b : Int32} {off : Int} (hd : decode cc pc = .ok (.if_icmp .ne off, 3)) (ht : (pc : Int) + off = (tgt : Int)) (kt : ¬ a = b → V X R M k n lv tgt rest) (kf : a = b → V X R M k n lv (pc + 3) rest) : V X R M k n lv pc (.int b :: .int a :: rest) := by
  obtain ⟨p, l, e, s, m, args, below, meth, c, Q, g, nL, A⟩ := X
  obtain ⟨hx, hb, hml, hown, hE, hZ, hB⟩ := C
  intro H locs ls h1 h2 h3
  exact lv_icmp_ne hx hb hd ht (fun q => kt q H locs ls h1 h2 h3) (fun q => kf q H locs ls h1 h2 h3)
theorem v_icmp_lt (C : Bx X y cc) {a b : Int32} {off : Int} (hd : decode cc pc = .ok (.if_icmp .lt off, 3)) (ht : (pc : Int) + off = (tgt : Int)) (kt : a < b → V X R M k n lv tgt rest) (kf : ¬ a < b → V X R M k n lv (pc + 3) rest) : V X R M k n lv pc (.int b :: .int a :: rest) := by
  obtain ⟨p, l, e, s, m, args, below, meth, c, Q, g, nL, A⟩ := X
  obtain ⟨hx, hb, hml, hown, hE, hZ, hB⟩ := C
  intro H locs ls h1 h2 h3
  exact lv_icmp_lt hx hb hd ht (fun q => kt q H locs ls h1 h2 h3) (fun q => kf q H locs ls h1 h2 h3)
theorem v_icmp_ge (C : Bx X y cc) {a b : Int32} {off : Int} (hd : decode cc pc = .ok (.if_icmp .ge off, 3)) (ht : (pc : Int) + off = (tgt : Int)) (kt : b ≤ a → V X R M k n lv tgt rest) (kf : ¬ b ≤ a → V X R M k n lv (pc + 3) rest) : V X R M k n lv pc (.int b :: .int a :: rest) := by
  obtain ⟨p, l, e, s, m, args, below, meth, c, Q, g, nL, A⟩ := X
  obtain ⟨hx, hb, hml, hown, hE, hZ, hB⟩ := C
  intro H locs ls h1 h2 h3
  exact lv_icmp_ge hx hb hd ht (fun q => kt q H locs ls h1 h2 h3) (fun q => kf q H locs ls h1 h2 h3)
theorem v_icmp_gt (C : Bx X y cc) {a b : Int32} {off : Int} (hd : decode cc pc = .ok (.if_icmp .gt off, 3)) (ht : (pc : Int) + off = (tgt : Int)) (kt : b < a → V X R M k n lv tgt rest) (kf : ¬ b < a → V X R M k n lv (pc + 3) rest) : V X R M k n lv pc (.int b :: .int a :: rest) := by
  obtain ⟨p, l, e, s, m, args, below, meth, c, Q, g, nL, A⟩ := X
  obtain ⟨hx, hb, hml, hown, hE, hZ, hB⟩ := C
  intro H locs ls h1 h2 h3
  exact lv_icmp_gt hx hb hd ht (fun q => kt q H locs ls h1 h2 h3) (fun q => kf q H locs ls h1 h2 h3)
theorem v_icmp_le (C : Bx X y cc) {a b : Int32} {off : Int} (hd : decode cc pc = .ok (.if_icmp .le off, 3)) (ht : (pc : Int) + off = (tgt : Int)) (kt : a ≤ b → V X R M k n lv tgt rest) (kf : ¬ a ≤ b → V X R M k n lv (pc + 3) rest) : V X R M k n lv pc (.int b :: .int a :: rest) := by
  obtain ⟨p, l, e, s, m, args, below, meth, c, Q, g, nL, A⟩ := X
  obtain ⟨hx, hb, hml, hown, hE, hZ, hB⟩ := C
  intro H locs ls h1 h2 h3
  exact lv_icmp_le hx hb hd ht (fun q => kt q H locs ls h1 h2 h3) (fun q => kf q H locs ls h1 h2 h3)
theorem v_if_eq (C : Bx X y cc) {a : Int32} {off : Int} (hd : decode cc pc = .ok (.ifCond .eq off, 3)) (ht : (pc : Int) + off = (tgt : Int)) (kt : a = 0 → V X R M k n lv tgt rest) (kf : ¬ a = 0 → V X R M k n lv (pc + 3) rest) : V X R M k n lv pc (.int a :: rest) := by
  obtain ⟨p, l, e, s, m, args, below, meth, c, Q, g, nL, A⟩ := X
  obtain ⟨hx, hb, hml, hown, hE, hZ, hB⟩ := C
  intro H locs ls h1 h2 h3
  exact lv_if_eq hx hb hd ht (fun q => kt q H locs ls h1 h2 h3) (fun q => kf q H locs ls h1 h2 h3)
theorem v_if_ne (C : Bx X y cc) {a : Int32} {off : Int} (hd : decode cc pc = .ok (.ifCond .ne off, 3)) (ht : (pc : Int) + off = (tgt : Int)) (kt : ¬ a = 0 → V X R M k n lv tgt rest) (kf : a = 0 → V X R M k n lv (pc + 3) rest) : V X R M k n lv pc (.int a :: rest) := by
  obtain ⟨p, l, e, s, m, args, below, meth, c, Q, g, nL, A⟩ := X
  obtain ⟨hx, hb, hml, hown, hE, hZ, hB⟩ := C
  intro H locs ls h1 h2 h3
  exact lv_if_ne hx hb hd ht (fun q => kt q H locs ls h1 h2 h3) (fun q => kf q H locs ls h1 h2 h3)
theorem v_if_lt (C : Bx X y cc) {a : Int32} {off : Int} (hd : decode cc pc = .ok (.ifCond .lt off, 3)) (ht : (pc : Int) + off = (tgt : Int)) (kt : a < 0 → V X R M k n lv tgt rest) (kf : ¬ a < 0 → V X R M k n lv (pc + 3) rest) : V X R M k n lv pc (.int a :: rest) := by
  obtain ⟨p, l, e, s, m, args, below, meth, c, Q, g, nL, A⟩ := X
  obtain ⟨hx, hb, hml, hown, hE, hZ, hB⟩ := C
  intro H locs ls h1 h2 h3
  exact lv_if_lt hx hb hd ht (fun q => kt q H locs ls h1 h2 h3) (fun q => kf q H locs ls h1 h2 h3)
theorem v_if_ge (C : Bx X y cc) {a : Int32} {off : Int} (hd : decode cc pc = .ok (.ifCond .ge off, 3)) (ht : (pc : Int) + off = (tgt : Int)) (kt : 0 ≤ a → V X R M k n lv tgt rest) (kf : ¬ 0 ≤ a → V X R M k n lv (pc + 3) rest) : V X R M k n lv pc (.int a :: rest) := by
  obtain ⟨p, l, e, s, m, args, below, meth, c, Q, g, nL, A⟩ := X
  obtain ⟨hx, hb, hml, hown, hE, hZ, hB⟩ := C
  intro H locs ls h1 h2 h3
  exact lv_if_ge hx hb hd ht (fun q => kt q H locs ls h1 h2 h3) (fun q => kf q H locs ls h1 h2 h3)
theorem v_if_gt (C : Bx X y cc) {a : Int32} {off : Int} (hd : decode cc pc = .ok (.ifCond .gt off, 3)) (ht : (pc : Int) + off = (tgt : Int)) (kt : 0 < a → V X R M k n lv tgt rest) (kf : ¬ 0 < a → V X R M k n lv (pc + 3) rest) : V X R M k n lv pc (.int a :: rest) := by
  obtain ⟨p, l, e, s, m, args, below, meth, c, Q, g, nL, A⟩ := X
  obtain ⟨hx, hb, hml, hown, hE, hZ, hB⟩ := C
  intro H locs ls h1 h2 h3
  exact lv_if_gt hx hb hd ht (fun q => kt q H locs ls h1 h2 h3) (fun q => kf q H locs ls h1 h2 h3)
theorem v_if_le (C : Bx X y cc) {a : Int32} {off : Int} (hd : decode cc pc = .ok (.ifCond .le off, 3)) (ht : (pc : Int) + off = (tgt : Int)) (kt : a ≤ 0 → V X R M k n lv tgt rest) (kf : ¬ a ≤ 0 → V X R M k n lv (pc + 3) rest) : V X R M k n lv pc (.int a :: rest) := by
  obtain ⟨p, l, e, s, m, args, below, meth, c, Q, g, nL, A⟩ := X
  obtain ⟨hx, hb, hml, hown, hE, hZ, hB⟩ := C
  intro H locs ls h1 h2 h3
  exact lv_if_le hx hb hd ht (fun q => kt q H locs ls h1 h2 h3) (fun q => kf q H locs ls h1 h2 h3)
theorem v_ifb_eq (C : Bx X y cc) {b : Bool} {off : Int} (hd : decode cc pc = .ok (.ifCond .eq off, 3)) (ht : (pc : Int) + off = (tgt : Int)) (kt : b = false → V X R M k n lv tgt rest) (kf : b = true → V X R M k n lv (pc + 3) rest) : V X R M k n lv pc (.int (bI b) :: rest) :=
  v_if_eq C hd ht (fun h => kt ((bI_eq0 b).mp h)) (fun h => kf (by cases b with | false => exact absurd rfl h | true => rfl))
theorem v_ifb_ne (C : Bx X y cc) {b : Bool} {off : Int} (hd : decode cc pc = .ok (.ifCond .ne off, 3)) (ht : (pc : Int) + off = (tgt : Int)) (kt : b = true → V X R M k n lv tgt rest) (kf : b = false → V X R M k n lv (pc + 3) rest) : V X R M k n lv pc (.int (bI b) :: rest) :=
  v_if_ne C hd ht (fun h => kt (by cases b with | false => exact absurd rfl h | true => rfl)) (fun h => kf ((bI_eq0 b).mp h))
theorem v_ifnull (C : Bx X y cc) {a : Nat} {off : Int} (hd : decode cc pc = .ok (.ifnull off, 3)) (kk : V X R M k n lv (pc + 3) rest) : V X R M k n lv pc (.ref a :: rest) := by
  obtain ⟨p, l, e, s, m, args, below, meth, c, Q, g, nL, A⟩ := X
  obtain ⟨hx, hb, hml, hown, hE, hZ, hB⟩ := C
  intro H locs ls h1 h2 h3
  exact lv_ifnull hx hb hd (kk H locs ls h1 h2 h3)
theorem v_ifnullN (C : Bx X y cc) {off : Int} (hd : decode cc pc = .ok (.ifnull off, 3)) (ht : (pc : Int) + off = (tgt : Int)) (kk : V X R M k n lv tgt rest) : V X R M k n lv pc (.null :: rest) := by
  obtain ⟨p, l, e, s, m, args, below, meth, c, Q, g, nL, A⟩ := X
  obtain ⟨hx, hb, hml, hown, hE, hZ, hB⟩ := C
  intro H locs ls h1 h2 h3
  exact lv_ifnullN hx hb hd ht (kk H locs ls h1 h2 h3)
theorem v_ifnonnull (C : Bx X y cc) {a : Nat} {off : Int} (hd : decode cc pc = .ok (.ifnonnull off, 3)) (ht : (pc : Int) + off = (tgt : Int)) (kk : V X R M k n lv tgt rest) : V X R M k n lv pc (.ref a :: rest) := by
  obtain ⟨p, l, e, s, m, args, below, meth, c, Q, g, nL, A⟩ := X
  obtain ⟨hx, hb, hml, hown, hE, hZ, hB⟩ := C
  intro H locs ls h1 h2 h3
  exact lv_ifnonnull hx hb hd ht (kk H locs ls h1 h2 h3)
theorem v_ifnonnullN (C : Bx X y cc) {off : Int} (hd : decode cc pc = .ok (.ifnonnull off, 3)) (kk : V X R M k n lv (pc + 3) rest) : V X R M k n lv pc (.null :: rest) := by
  obtain ⟨p, l, e, s, m, args, below, meth, c, Q, g, nL, A⟩ := X
  obtain ⟨hx, hb, hml, hown, hE, hZ, hB⟩ := C
  intro H locs ls h1 h2 h3
  exact lv_ifnonnullN hx hb hd (kk H locs ls h1 h2 h3)
theorem v_tableIn (C : Bx X y cc) {dflt lo hi : Int} {offs : Array Int} {len : Nat} {a : Int32} {off : Int} (hd : decode cc pc = .ok (.tableswitch dflt lo hi offs, len)) (q1 : ¬ a.toInt < lo) (q2 : ¬ hi < a.toInt) (q3 : offs[(a.toInt - lo).toNat]? = some off) (ht : (pc : Int) + off = (tgt : Int)) (kk : V X R M k n lv tgt rest) : V X R M k n lv pc (.int a :: rest) := by
  obtain ⟨p, l, e, s, m, args, below, meth, c, Q, g, nL, A⟩ := X
  obtain ⟨hx, hb, hml, hown, hE, hZ, hB⟩ := C
  intro H locs ls h1 h2 h3
  exact lv_tableIn hx hb hd q1 q2 q3 ht (kk H locs ls h1 h2 h3)
theorem v_tableOut (C : Bx X y cc) {dflt lo hi : Int} {offs : Array Int} {len : Nat} {a : Int32} (hd : decode cc pc = .ok (.tableswitch dflt lo hi offs, len)) (q1 : a.toInt < lo ∨ hi < a.toInt) (ht : (pc : Int) + dflt = (tgt : Int)) (kk : V X R M k n lv tgt rest) : V X R M k n lv pc (.int a :: rest) := by
  obtain ⟨p, l, e, s, m, args, below, meth, c, Q, g, nL, A⟩ := X
  obtain ⟨hx, hb, hml, hown, hE, hZ, hB⟩ := C
  intro H locs ls h1 h2 h3
  exact lv_tableOut hx hb hd q1 ht (kk H locs ls h1 h2 h3)
theorem v_iret (C : Bx X y cc) {mc ms : Nat} {post : Option Value → Mem → Prop} (E : Rx X y (some .int) mc ms post) {a : Int32} (hd : decode cc pc = .ok (.ireturn, 1)) (hk : k ≤ mc) (hn : n ≤ ms) (hp : post (some (.int a)) M) : V X R M k n lv pc [.int a] := by
  obtain ⟨p, l, e, s, m, args, below, meth, c, Q, g, nL, A⟩ := X
  obtain ⟨hx, hb, hml, hown, hE, hZ, hB⟩ := C
  obtain ⟨hr, hlk, hnm, M0, rfl, rfl⟩ := E
  intro H locs ls h1 h2 h3
  exact W.widen hk hn (W.iret hx hb hr (fun t ht hW => ⟨_, M, rfl, hp, by rw [ht]; exact h1.1, h1.2, h2.F ht⟩) h2.2.2 hd hlk)
theorem v_lret (C : Bx X y cc) {mc ms : Nat} {post : Option Value → Mem → Prop} (E : Rx X y (some .long) mc ms post) {a : Int64} (hd : decode cc pc = .ok (.lreturn, 1)) (hk : k ≤ mc) (hn : n ≤ ms) (hp : post (some (.long a)) M) : V X R M k n lv pc [.long a] := by
  obtain ⟨p, l, e, s, m, args, below, meth, c, Q, g, nL, A⟩ := X
  obtain ⟨hx, hb, hml, hown, hE, hZ, hB⟩ := C
  obtain ⟨hr, hlk, hnm, M0, rfl, rfl⟩ := E
  intro H locs ls h1 h2 h3
  exact W.widen hk hn (W.lret hx hb hr (fun t ht hW => ⟨_, M, rfl, hp, by rw [ht]; exact h1.1, h1.2, h2.F ht⟩) h2.2.2 hd hlk)
theorem v_zret (C : Bx X y cc) {mc ms : Nat} {post : Option Value → Mem → Prop} (E : Rx X y (some .boolean) mc ms post) {a : Int32} (hd : decode cc pc = .ok (.ireturn, 1)) (hk : k ≤ mc) (hn : n ≤ ms) (ha : a = 0 ∨ a = 1) (hp : post (some (.int a)) M) : V X R M k n lv pc [.int a] := by
  obtain ⟨p, l, e, s, m, args, below, meth, c, Q, g, nL, A⟩ := X
  obtain ⟨hx, hb, hml, hown, hE, hZ, hB⟩ := C
  obtain ⟨hr, hlk, hnm, M0, rfl, rfl⟩ := E
  intro H locs ls h1 h2 h3
  exact W.widen hk hn (W.zret hx hb hr (narrow_b01 ha) (fun t ht hW => ⟨_, M, rfl, hp, by rw [ht]; exact h1.1, h1.2, h2.F ht⟩) h2.2.2 hd hlk)
theorem v_vret (C : Bx X y cc) {mc ms : Nat} {post : Option Value → Mem → Prop} (E : Rx X y none mc ms post) (hd : decode cc pc = .ok (.return_, 1)) (hk : k ≤ mc) (hn : n ≤ ms) (hp : post none M) : V X R M k n lv pc [] := by
  obtain ⟨p, l, e, s, m, args, below, meth, c, Q, g, nL, A⟩ := X
  obtain ⟨hx, hb, hml, hown, hE, hZ, hB⟩ := C
  obtain ⟨hr, hlk, hnm, M0, rfl, rfl⟩ := E
  intro H locs ls h1 h2 h3
  exact W.widen hk hn (W.vret hx hb hr (fun t ht hW => ⟨_, M, rfl, hp, by rw [ht]; exact h1.1, h1.2, h2.F ht⟩) h2.2.2 hd hlk)
theorem v_aret (C : Bx X y cc) {mc ms : Nat} {post : Option Value → Mem → Prop} {cn : String} (E : Rx X y (some (.object cn)) mc ms post) {r : Option Nat} (hd : decode cc pc = .ok (.areturn, 1)) (hk : k ≤ mc) (hn : n ≤ ms) (hp : post (some (va_rf r)) M) : V X R M k n lv pc [va_rf r] := by
  obtain ⟨p, l, e, s, m, args, below, meth, c, Q, g, nL, A⟩ := X
  obtain ⟨hx, hb, hml, hown, hE, hZ, hB⟩ := C
  obtain ⟨hr, hlk, hnm, M0, rfl, rfl⟩ := E
  intro H locs ls h1 h2 h3
  exact W.widen hk hn (W.aret hx hb hr (Or.inl ⟨cn, rfl⟩) (va_rf_or r) (fun t ht hW => ⟨_, M, rfl, hp, by rw [ht]; exact h1.1, h1.2, h2.F ht⟩) h2.2.2 hd hlk)
/-- more cells than were made -/
theorem v_widen {k' n' : Nat} (hk : k ≤ k') (hn : n ≤ n') {st : List Value} (kk : V X R M k' n' lv pc st) : V X R M k n lv pc st := by
  obtain ⟨p, l, e, s, m, args, below, meth, c, Q, g, nL, A⟩ := X
  intro H locs ls h1 h2 h3
  exact W.widen hk hn (kk H locs ls h1 h2 h3)
/-- fewer locals -/
theorem v_sub (ks : List Nat) {st : List Value} (hl : lv_pick lv ks = lv') (kk : V X R M k n lv' pc st) : V X R M k n lv pc st := by
  obtain ⟨p, l, e, s, m, args, below, meth, c, Q, g, nL, A⟩ := X
  intro H locs ls h1 h2 h3
  exact kk H locs ls h1 h2 (lv_sub h3 ks hl)
end VRows

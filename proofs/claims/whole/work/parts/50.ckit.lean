/-! constructors: worlds in the raw -/
def kc_ar (cA : ClassId) (n : Nat) (f : Int → Int) : va_E := .inl (cA, n, .inl (fun k : Nat => kb_J (f (k : Int))))
def kc_X (p : Program) (s : State) (m : MethodId) (c : Code) (cc : ByteArray) (nL : Nat) (args : Array Value) (Ts : List Cond) (own : String) (D : va_G) (cy : Nat → ClassId) (A : Nat → Prop) : Prop :=
  CallFix p m c cc nL s args Ts own ∧ va_K D vwCl (kb_ty cy) s ∧ (∀ q, s.heap.size ≤ q → A q)
def kc_B (p : Program) (l : Launch) (e : Env) (R : Room) (s : State) (m : MethodId) (args : Array Value) (below : List Frame) (meth : Method) (c : Code) (D : va_G) (A : Nat → Prop) (nL cells slots : Nat) (Q : State → Prop) (pc : Nat) (lv : List (Nat × Value)) (st : List Value) (ws : va_W) : Prop :=
  ∀ (H : Heap) (locs : List Loc) (ls : Array Slot), va_P D vwCl ws H → va_D A ws → va_S A s.heap H locs → lv_has ls nL lv → W p l e R s m args below meth c H locs cells slots Q (F0 m pc ls st)
def kc_st (D : va_G) (cy : Nat → ClassId) (sz : Nat) (W0 : va_W) (U : State) : Prop := U.heap.size = sz ∧ va_P D vwCl W0 U.heap ∧ va_K D vwCl (kb_ty cy) U ∧ va_D (fun _ => True) W0
def kc_en (D : va_G) (A : Nat → Prop) (W1 : (Nat → Nat) → va_W) (u : Nat → Nat) (t : State) : Prop := va_P D vwCl (W1 u) t.heap ∧ va_D A (W1 u)
def kc_Cv (l : Launch) (D : va_G) (cy : Nat → ClassId) (y : MethodName) (ws : List Cond) (fr lo mc ms : Nat) (args : List Value) (W0 : va_W) (W1 : (Nat → Nat) → va_W) : Prop :=
  ∀ sz, Met l y ws ({ frames := fr, cells := mc, slots := ms, locals := lo }) (va_Pc args (kc_st D cy sz W0)) (va_Qv (fun _ : Nat → Nat => True) (kc_en D (va_A W0 sz) W1) (va_A W0 sz)) mc ms (va_A W0 sz)
section kc_rows
variable {p : Program} {l : Launch} {e : Env} {R : Room} {s : State} {m : MethodId} {args : Array Value} {below : List Frame} {meth : Method} {c : Code} {D : va_G} {cy : Nat → ClassId} {A : Nat → Prop} {nL cells slots : Nat} {Q : State → Prop}
variable {cc : ByteArray} {own : String} {Ts : List Cond} {pc : Nat} {lv : List (Nat × Value)} {st : List Value} {ws : va_W}
theorem kc_aload_n (X : kc_X p s m c cc nL args Ts own D cy A) {i : Fin 4} {q : Nat} (j : Nat) (hj : lv[j]? = some ((i : Nat), .ref q)) (hd : decode cc pc = .ok (.aload_n i, 1)) (k : kc_B p l e R s m args below meth c D A nL cells slots Q (pc + 1) lv (.ref q :: st) ws) : kc_B p l e R s m args below meth c D A nL cells slots Q pc lv st ws := by
  intro H locs ls hP hD hS hl
  exact lv_aload_n X.1.1 X.1.2.1 hd rfl (lv_at hl j hj) (k H locs ls hP hD hS hl)
theorem kc_iload_n (X : kc_X p s m c cc nL args Ts own D cy A) {i : Fin 4} {a : Int} (j : Nat) (hj : lv[j]? = some ((i : Nat), kb_i a)) (hd : decode cc pc = .ok (.iload_n i, 1)) (k : kc_B p l e R s m args below meth c D A nL cells slots Q (pc + 1) lv (kb_i a :: st) ws) : kc_B p l e R s m args below meth c D A nL cells slots Q pc lv st ws := by
  intro H locs ls hP hD hS hl
  exact lv_iload_n X.1.1 X.1.2.1 hd rfl (lv_at hl j hj) (k H locs ls hP hD hS hl)
theorem kc_iload (X : kc_X p s m c cc nL args Ts own D cy A) {i : Nat} {a : Int} (j : Nat) (hj : lv[j]? = some (i, kb_i a)) (hd : decode cc pc = .ok (.iload i, 2)) (k : kc_B p l e R s m args below meth c D A nL cells slots Q (pc + 2) lv (kb_i a :: st) ws) : kc_B p l e R s m args below meth c D A nL cells slots Q pc lv st ws := by
  intro H locs ls hP hD hS hl
  exact lv_iload X.1.1 X.1.2.1 hd (lv_at hl j hj) (k H locs ls hP hD hS hl)
theorem kc_istore (X : kc_X p s m c cc nL args Ts own D cy A) {i : Nat} {a : Int} {lv' : List (Nat × Value)} (hd : decode cc pc = .ok (.istore i, 2)) (hn : i < nL) (hv : (i, (kb_i a : Value)) :: lv.filter (fun q => !(q.1 == i) && !(q.1 + 1 == i && q.2.category == 2)) = lv') (k : kc_B p l e R s m args below meth c D A nL cells slots Q (pc + 2) lv' st ws) : kc_B p l e R s m args below meth c D A nL cells slots Q pc lv (kb_i a :: st) ws := by
  intro H locs ls hP hD hS hl
  exact lv_istore X.1.1 X.1.2.1 hd hl hn hv (fun ls' hl' => k H locs ls' hP hD hS hl')
theorem kc_iinc (X : kc_X p s m c cc nL args Ts own D cy A) {i : Nat} {n a b : Int} {lv' : List (Nat × Value)} (j : Nat) (hj : lv[j]? = some (i, kb_i a)) (hd : decode cc pc = .ok (.iinc i n, 3)) (hb : a + n = b) (hn : i < nL) (hv : (i, kb_i b) :: lv.filter (fun q => !(q.1 == i) && !(q.1 + 1 == i && q.2.category == 2)) = lv') (k : kc_B p l e R s m args below meth c D A nL cells slots Q (pc + 3) lv' st ws) : kc_B p l e R s m args below meth c D A nL cells slots Q pc lv st ws := by
  intro H locs ls hP hD hS hl
  subst hb
  exact lv_iinc X.1.1 X.1.2.1 hd hl hj (kb_Jadd a n).symm hn hv (fun ls' hl' => k H locs ls' hP hD hS hl')
theorem kc_iconst (X : kc_X p s m c cc nL args Ts own D cy A) {n : Int} (hd : decode cc pc = .ok (.iconst n, 1)) (k : kc_B p l e R s m args below meth c D A nL cells slots Q (pc + 1) lv (kb_i n :: st) ws) : kc_B p l e R s m args below meth c D A nL cells slots Q pc lv st ws := by
  intro H locs ls hP hD hS hl
  exact lv_iconst X.1.1 X.1.2.1 hd rfl (k H locs ls hP hD hS hl)
theorem kc_bipush (X : kc_X p s m c cc nL args Ts own D cy A) {n : Int} (hv : (Int8.ofInt n).toInt32 = kb_J n) (hd : decode cc pc = .ok (.bipush n, 2)) (k : kc_B p l e R s m args below meth c D A nL cells slots Q (pc + 2) lv (kb_i n :: st) ws) : kc_B p l e R s m args below meth c D A nL cells slots Q pc lv st ws := by
  intro H locs ls hP hD hS hl
  exact lv_bipush X.1.1 X.1.2.1 hd hv (k H locs ls hP hD hS hl)
theorem kc_sipush (X : kc_X p s m c cc nL args Ts own D cy A) {n : Int} (hv : (Int16.ofInt n).toInt32 = kb_J n) (hd : decode cc pc = .ok (.sipush n, 3)) (k : kc_B p l e R s m args below meth c D A nL cells slots Q (pc + 3) lv (kb_i n :: st) ws) : kc_B p l e R s m args below meth c D A nL cells slots Q pc lv st ws := by
  intro H locs ls hP hD hS hl
  exact lv_sipush X.1.1 X.1.2.1 hd hv (k H locs ls hP hD hS hl)
theorem kc_ldc (X : kc_X p s m c cc nL args Ts own D cy A) {index : Nat} {v : Int32} (n : Int) (hw : Cond.constant own index v ∈ Ts) (hv : v = kb_J n) (hd : decode cc pc = .ok (.ldc index, 2)) (k : kc_B p l e R s m args below meth c D A nL cells slots Q (pc + 2) lv (kb_i n :: st) ws) : kc_B p l e R s m args below meth c D A nL cells slots Q pc lv st ws := by
  intro H locs ls hP hD hS hl
  subst hv
  exact lv_ldc X.1.1 X.1.2.1 X.1.2.2.2.1 (X.1.2.2.2.2 _ hw) hd (k H locs ls hP hD hS hl)
theorem kc_iadd (X : kc_X p s m c cc nL args Ts own D cy A) {a b r : Int} (hr : a + b = r) (hd : decode cc pc = .ok (.iadd, 1)) (k : kc_B p l e R s m args below meth c D A nL cells slots Q (pc + 1) lv (kb_i r :: st) ws) : kc_B p l e R s m args below meth c D A nL cells slots Q pc lv (kb_i b :: kb_i a :: st) ws := by
  intro H locs ls hP hD hS hl
  subst hr
  refine lv_iadd X.1.1 X.1.2.1 hd ?_
  rw [← kb_Jadd]
  exact k H locs ls hP hD hS hl
theorem kc_imul (X : kc_X p s m c cc nL args Ts own D cy A) {a b r : Int} (hr : a * b = r) (hd : decode cc pc = .ok (.imul, 1)) (k : kc_B p l e R s m args below meth c D A nL cells slots Q (pc + 1) lv (kb_i r :: st) ws) : kc_B p l e R s m args below meth c D A nL cells slots Q pc lv (kb_i b :: kb_i a :: st) ws := by
  intro H locs ls hP hD hS hl
  subst hr
  refine lv_imul X.1.1 X.1.2.1 hd ?_
  rw [← kb_Jmul]
  exact k H locs ls hP hD hS hl
theorem kc_goto (X : kc_X p s m c cc nL args Ts own D cy A) {off : Int} {tgt : Nat} (hd : decode cc pc = .ok (.goto off, 3)) (ht : (pc : Int) + off = (tgt : Int)) (k : kc_B p l e R s m args below meth c D A nL cells slots Q tgt lv st ws) : kc_B p l e R s m args below meth c D A nL cells slots Q pc lv st ws := by
  intro H locs ls hP hD hS hl
  exact lv_goto X.1.1 X.1.2.1 hd ht (k H locs ls hP hD hS hl)
theorem kc_ge1 (X : kc_X p s m c cc nL args Ts own D cy A) {a b off : Int} {tgt : Nat} (h : kb_J b ≤ kb_J a) (hd : decode cc pc = .ok (.if_icmp .ge off, 3)) (ht : (pc : Int) + off = (tgt : Int)) (k : kc_B p l e R s m args below meth c D A nL cells slots Q tgt lv st ws) : kc_B p l e R s m args below meth c D A nL cells slots Q pc lv (kb_i b :: kb_i a :: st) ws := by
  intro H locs ls hP hD hS hl
  exact lv_icmp_ge X.1.1 X.1.2.1 hd ht (fun _ => k H locs ls hP hD hS hl) (fun h2 => absurd h h2)
theorem kc_ge0 (X : kc_X p s m c cc nL args Ts own D cy A) {a b off : Int} (h : ¬ kb_J b ≤ kb_J a) {tgt : Nat} (hd : decode cc pc = .ok (.if_icmp .ge off, 3)) (ht : (pc : Int) + off = (tgt : Int)) (k : kc_B p l e R s m args below meth c D A nL cells slots Q (pc + 3) lv st ws) : kc_B p l e R s m args below meth c D A nL cells slots Q pc lv (kb_i b :: kb_i a :: st) ws := by
  intro H locs ls hP hD hS hl
  exact lv_icmp_ge X.1.1 X.1.2.1 hd ht (fun h2 => absurd h2 h) (fun _ => k H locs ls hP hD hS hl)
theorem kc_mmax (X : kc_X p s m c cc nL args Ts own D cy A) {a b r : Int} (ha : kb_rg a) (hb : kb_rg b) (hr : max a b = r) {index : Nat} (hlink : Cond.methodLink own index Lib.Math.max.name ∈ Ts) (hstat : Cond.static Lib.Math.max.name ∈ Ts) (hini : Cond.initialized "java/lang/Math" ∈ Ts) (hcode : Cond.code Lib.Math.max.name Lib.Math.max.code 2 (some .int) ∈ Ts) (hframes : 1 ≤ R.frames) (hlocals : (st.map fun v => v.category).sum + 13 ≤ R.locals) (hc : cells ≤ R.cells) (hs : slots ≤ R.slots) (hd : decode cc pc = .ok (.invokestatic index, 3)) (k : kc_B p l e R s m args below meth c D A nL cells slots Q (pc + 3) lv (kb_i r :: st) ws) : kc_B p l e R s m args below meth c D A nL cells slots Q pc lv (kb_i b :: kb_i a :: st) ws := by
  intro H locs ls hP hD hS hl
  subst hr
  refine va_mmax X.1.1 X.1.2.1 (by rw [X.1.2.2.1]; exact hl.1.symm) X.1.2.2.2.1 (X.1.2.2.2.2 _ hlink) (X.1.2.2.2.2 _ hstat) (X.1.2.2.2.2 _ hini) (X.1.2.2.2.2 _ hcode) hframes hlocals hc hs hd ?_
  rw [← kb_Jmax ha hb]
  exact k H locs ls hP hD hS hl
theorem kc_mmin (X : kc_X p s m c cc nL args Ts own D cy A) {a b r : Int} (ha : kb_rg a) (hb : kb_rg b) (hr : min a b = r) {index : Nat} (hlink : Cond.methodLink own index Lib.Math.min.name ∈ Ts) (hstat : Cond.static Lib.Math.min.name ∈ Ts) (hini : Cond.initialized "java/lang/Math" ∈ Ts) (hcode : Cond.code Lib.Math.min.name Lib.Math.min.code 2 (some .int) ∈ Ts) (hframes : 1 ≤ R.frames) (hlocals : (st.map fun v => v.category).sum + 13 ≤ R.locals) (hc : cells ≤ R.cells) (hs : slots ≤ R.slots) (hd : decode cc pc = .ok (.invokestatic index, 3)) (k : kc_B p l e R s m args below meth c D A nL cells slots Q (pc + 3) lv (kb_i r :: st) ws) : kc_B p l e R s m args below meth c D A nL cells slots Q pc lv (kb_i b :: kb_i a :: st) ws := by
  intro H locs ls hP hD hS hl
  subst hr
  refine va_mmin X.1.1 X.1.2.1 (by rw [X.1.2.2.1]; exact hl.1.symm) X.1.2.2.2.1 (X.1.2.2.2.2 _ hlink) (X.1.2.2.2.2 _ hstat) (X.1.2.2.2.2 _ hini) (X.1.2.2.2.2 _ hcode) hframes hlocals hc hs hd ?_
  rw [← kb_Jmin ha hb]
  exact k H locs ls hP hD hS hl
theorem kc_newi (X : kc_X p s m c cc nL args Ts own D cy A) {n : Int} (N : Nat) (hN : (N : Int) = n) (hw : Cond.arrayClass .int ∈ Ts) (hn : N ≤ 100000) (hcells : cells + 1 ≤ R.cells) (hslots : slots + N ≤ R.slots) (hd : decode cc pc = .ok (.newarray .int, 2)) (k : ∀ q : Nat, kc_B p l e R s m args below meth c D A nL (cells + 1) (slots + N) Q (pc + 2) lv (.ref q :: st) (ws ++ [(q, kc_ar (cy 0) N (fun _ => 0))])) : kc_B p l e R s m args below meth c D A nL cells slots Q pc lv (kb_i n :: st) ws := by
  intro H locs ls hP hD hS hl
  subst hN
  have hr : kb_rg (N : Int) := ⟨by omega, by omega⟩
  refine va_newa (atype := .int) X.1.1 X.1.2.1 (X.1.2.2.2.2 _ hw) rfl X.2.1 hP hD hS X.2.2 (a0 := (N, .inl (fun _ => kb_J 0))) (fun cA => ?_) ?_ ?_ ?_ hcells hslots hd (fun q cA H1 hK1 hP1 hD1 hS1 => ?_)
  · rw [kb_J0]
    rfl
  · intro h
    have h2 := (kb_Jlt hr kb_rg0).mp (by rw [kb_J0]; exact h)
    omega
  · rw [kb_Jcl hr]
    rfl
  · show N * _ ≤ _
    have : componentBytes .int ≤ 4 := by decide
    have := Nat.mul_le_mul_left N this
    show N * componentBytes .int ≤ _
    omega
  · have h1 : va_RA s cA .int := (hK1.2 2 _ rfl).2
    have h2 : va_RA s (cy 0) .int := (X.2.1.2 0 _ rfl).2
    have e1 : cA = cy 0 := Option.some.inj (Eq.trans (Eq.symm h1) h2)
    subst e1
    exact k q H1 locs ls hP1 hD1 hS1 hl
theorem kc_newz (X : kc_X p s m c cc nL args Ts own D cy A) {n : Int} (N : Nat) (hN : (N : Int) = n) (hw : Cond.arrayClass .boolean ∈ Ts) (hn : N ≤ 100000) (hcells : cells + 1 ≤ R.cells) (hslots : slots + N ≤ R.slots) (hd : decode cc pc = .ok (.newarray .boolean, 2)) (k : ∀ q : Nat, kc_B p l e R s m args below meth c D A nL (cells + 1) (slots + N) Q (pc + 2) lv (.ref q :: st) (ws ++ [(q, kc_ar (cy 1) N (fun _ => 0))])) : kc_B p l e R s m args below meth c D A nL cells slots Q pc lv (kb_i n :: st) ws := by
  intro H locs ls hP hD hS hl
  subst hN
  have hr : kb_rg (N : Int) := ⟨by omega, by omega⟩
  refine va_newa (atype := .boolean) X.1.1 X.1.2.1 (X.1.2.2.2.2 _ hw) rfl X.2.1 hP hD hS X.2.2 (a0 := (N, .inl (fun _ => kb_J 0))) (fun cA => ?_) ?_ ?_ ?_ hcells hslots hd (fun q cA H1 hK1 hP1 hD1 hS1 => ?_)
  · rw [kb_J0]
    rfl
  · intro h
    have h2 := (kb_Jlt hr kb_rg0).mp (by rw [kb_J0]; exact h)
    omega
  · rw [kb_Jcl hr]
    rfl
  · show N * _ ≤ _
    have : componentBytes .boolean ≤ 4 := by decide
    have := Nat.mul_le_mul_left N this
    show N * componentBytes .boolean ≤ _
    omega
  · have h1 : va_RA s cA .boolean := (hK1.2 2 _ rfl).2
    have h2 : va_RA s (cy 1) .boolean := (X.2.1.2 1 _ rfl).2
    have e1 : cA = cy 1 := Option.some.inj (Eq.trans (Eq.symm h1) h2)
    subst e1
    exact k q H1 locs ls hP1 hD1 hS1 hl
theorem kc_get (X : kc_X p s m c cc nL args Ts own D cy A) {ref C : String} {T : u_T} {N ci index : Nat} (hin : ∀ w ∈ u_ws C T N, w ∈ Ts) (q0 k0 : Nat) {a : Nat} {fs : List Value} (he : ws[q0]? = some (a, .inr (ci, fs))) (hc : vwCl[ci]? = some (C, T, N)) (hk : k0 < N) (hw : Cond.fieldLink own index ref (T k0).2.1 (T k0).2.2.1 ∈ Ts) (href : (T k0).1 = ref) {v : Value} (hv : fs[k0]? = some v) (hd : decode cc pc = .ok (.getfield index, 3)) (k : kc_B p l e R s m args below meth c D A nL cells slots Q (pc + 3) lv (v :: st) ws) : kc_B p l e R s m args below meth c D A nL cells slots Q pc lv (.ref a :: st) ws := by
  intro H locs ls hP hD hS hl
  subst href
  exact va_get X.1.1 X.1.2.1 X.1.2.2.2.2 hin X.1.2.2.2.1 X.2.1 hP q0 he hc k0 hk (X.1.2.2.2.2 _ hw) (fun _ h9 => h9) hv hd (k H locs ls hP hD hS hl)
theorem kc_put (X : kc_X p s m c cc nL args Ts own D cy A) {ref C : String} {T : u_T} {N ci index : Nat} (hin : ∀ w ∈ u_ws C T N, w ∈ Ts) (q0 k0 : Nat) {a : Nat} {fs : List Value} (he : ws[q0]? = some (a, .inr (ci, fs))) (hc : vwCl[ci]? = some (C, T, N)) (hk : k0 < N) (hw : Cond.fieldLink own index ref (T k0).2.1 (T k0).2.2.1 ∈ Ts) (href : (T k0).1 = ref) (ty0 : Nat → FieldType) (hty : ∀ k, k < N → parseFieldDescriptor (T k).2.2.1 = some (ty0 k)) (hnm : ∀ a, a < N → ∀ b, b < N → a ≠ b → (T a).2.1 ≠ (T b).2.1) (hfin : (T k0).2.2.2 = false) {ty : FieldType} {v : Value} (hpd : parseFieldDescriptor (T k0).2.2.1 = some ty) (hna : narrow ty v = v) (hfit : fits ty v = true) (hlen : k0 < fs.length) {ws' : va_W} (hws : ws.set q0 (a, .inr (ci, fs.set k0 v)) = ws') (hd : decode cc pc = .ok (.putfield index, 3)) (k : kc_B p l e R s m args below meth c D A nL cells slots Q (pc + 3) lv st ws') : kc_B p l e R s m args below meth c D A nL cells slots Q pc lv (v :: .ref a :: st) ws := by
  intro H locs ls hP hD hS hl
  subst href hws
  exact va_put X.1.1 X.1.2.1 X.1.2.2.2.2 hin ty0 hty hnm X.1.2.2.2.1 X.2.1 hP hD hS q0 he hc k0 hk (X.1.2.2.2.2 _ hw) (fun _ h9 => h9) hfin hpd hna hfit hlen hd (fun H1 locs1 hP1 hD1 hS1 => k H1 locs1 ls hP1 hD1 hS1 hl)
theorem kc_putF (X : kc_X p s m c cc nL args Ts own D cy A) {ref C : String} {T : u_T} {N ci index : Nat} (hin : ∀ w ∈ u_ws C T N, w ∈ Ts) (q0 k0 : Nat) {a : Nat} {fs : List Value} (he : ws[q0]? = some (a, .inr (ci, fs))) (hc : vwCl[ci]? = some (C, T, N)) (hk : k0 < N) (hw : Cond.fieldLink own index ref (T k0).2.1 (T k0).2.2.1 ∈ Ts) (href : (T k0).1 = ref) (ty0 : Nat → FieldType) (hty : ∀ k, k < N → parseFieldDescriptor (T k).2.2.1 = some (ty0 k)) (hnm : ∀ a, a < N → ∀ b, b < N → a ≠ b → (T a).2.1 ≠ (T b).2.1) (hfin : (T k0).2.2.2 = true) (hin2 : meth.name = "<init>") (hdecl : (T k0).1 = own) {ty : FieldType} {v : Value} (hpd : parseFieldDescriptor (T k0).2.2.1 = some ty) (hna : narrow ty v = v) (hfit : fits ty v = true) (hlen : k0 < fs.length) {ws' : va_W} (hws : ws.set q0 (a, .inr (ci, fs.set k0 v)) = ws') (hd : decode cc pc = .ok (.putfield index, 3)) (k : kc_B p l e R s m args below meth c D A nL cells slots Q (pc + 3) lv st ws') : kc_B p l e R s m args below meth c D A nL cells slots Q pc lv (v :: .ref a :: st) ws := by
  intro H locs ls hP hD hS hl
  subst href hws
  exact va_putF X.1.1 X.1.2.1 X.1.2.2.2.2 hin ty0 hty hnm X.1.2.2.2.1 X.2.1 hP hD hS q0 he hc k0 hk (X.1.2.2.2.2 _ hw) (fun _ h9 => h9) hfin hin2 hdecl hpd hna hfit hlen hd (fun H1 locs1 hP1 hD1 hS1 => k H1 locs1 ls hP1 hD1 hS1 hl)
theorem kc_iast (X : kc_X p s m c cc nL args Ts own D cy A) (q0 : Nat) {a N : Nat} {f : Int → Int} {i x : Int} (ha : ws[q0]? = some (a, kc_ar (cy 0) N f)) (hi : 0 ≤ i ∧ i < (N : Int)) (hN : N ≤ 65536)  {ws' : va_W} (hws : ws.set q0 (a, kc_ar (cy 0) N (fun j => if j = i then x else f j)) = ws') (hd : decode cc pc = .ok (.iastore, 1)) (k : kc_B p l e R s m args below meth c D A nL cells slots Q (pc + 1) lv st ws') : kc_B p l e R s m args below meth c D A nL cells slots Q pc lv (kb_i x :: kb_i i :: .ref a :: st) ws := by
  intro H locs ls hP hD hS hl
  subst hws
  have hr : kb_rg i := ⟨by omega, by omega⟩
  have e1 : upd (fun k : Nat => kb_J (f (k : Int))) i.toNat (kb_J x) = fun k : Nat => kb_J ((fun j : Int => if j = i then x else f j) (k : Int)) := by
    funext k
    show (if k = i.toNat then kb_J x else kb_J (f k)) = kb_J (if ((k : Int) = i) then x else f k)
    by_cases hk : k = i.toNat
    · rw [if_pos hk, if_pos (by omega)]
    · rw [if_neg hk, if_neg (by omega)]
  refine va_iast X.1.1 X.1.2.1 X.2.1 hP hD hS q0 0 ha rfl (kb_Jin hr hi) hd (fun H1 locs1 hP1 hD1 hS1 => ?_)
  rw [kb_Jcl hr, e1] at hP1 hD1
  exact k H1 locs1 ls hP1 hD1 hS1 hl
theorem kc_zast (X : kc_X p s m c cc nL args Ts own D cy A) (q0 : Nat) {a N : Nat} {f : Int → Int} {i x : Int} (ha : ws[q0]? = some (a, kc_ar (cy 1) N f)) (hi : 0 ≤ i ∧ i < (N : Int)) (hN : N ≤ 65536) (hz : vp_nar .boolean (kb_J x) = kb_J x) {ws' : va_W} (hws : ws.set q0 (a, kc_ar (cy 1) N (fun j => if j = i then x else f j)) = ws') (hd : decode cc pc = .ok (.bastore, 1)) (k : kc_B p l e R s m args below meth c D A nL cells slots Q (pc + 1) lv st ws') : kc_B p l e R s m args below meth c D A nL cells slots Q pc lv (kb_i x :: kb_i i :: .ref a :: st) ws := by
  intro H locs ls hP hD hS hl
  subst hws
  have hr : kb_rg i := ⟨by omega, by omega⟩
  have e1 : upd (fun k : Nat => kb_J (f (k : Int))) i.toNat (kb_J x) = fun k : Nat => kb_J ((fun j : Int => if j = i then x else f j) (k : Int)) := by
    funext k
    show (if k = i.toNat then kb_J x else kb_J (f k)) = kb_J (if ((k : Int) = i) then x else f k)
    by_cases hk : k = i.toNat
    · rw [if_pos hk, if_pos (by omega)]
    · rw [if_neg hk, if_neg (by omega)]
  refine va_zast X.1.1 X.1.2.1 X.2.1 hP hD hS q0 1 ha rfl (kb_Jin hr hi) hd (fun H1 locs1 hP1 hD1 hS1 => ?_)
  rw [kb_Jcl hr, hz, e1] at hP1 hD1
  exact k H1 locs1 ls hP1 hD1 hS1 hl
theorem kc_dup (X : kc_X p s m c cc nL args Ts own D cy A) {v : Value} (hv : v.category = 1) (hd : decode cc pc = .ok (.dup, 1)) (k : kc_B p l e R s m args below meth c D A nL cells slots Q (pc + 1) lv (v :: v :: st) ws) : kc_B p l e R s m args below meth c D A nL cells slots Q pc lv (v :: st) ws := by
  intro H locs ls hP hD hS hl
  exact lv_dup X.1.1 X.1.2.1 hd hv (k H locs ls hP hD hS hl)
theorem kc_obj (X : kc_X p s m c cc nL args Ts own D cy A) {a index : Nat} (h1 : Cond.methodLink own index objectInit ∈ Ts) (h2 : Cond.instanceMethod objectInit ∈ Ts) (h3 : Cond.code objectInit ⟨#[0xb1]⟩ 1 none ∈ Ts) (hframes : 1 ≤ R.frames) (hlocals : 2 * 0 + (st.map fun v => v.category).sum + 12 ≤ R.locals) (hd : decode cc pc = .ok (.invokespecial index, 3)) (k : kc_B p l e R s m args below meth c D A nL cells slots Q (pc + 3) lv st ws) : kc_B p l e R s m args below meth c D A nL cells slots Q pc lv (.ref a :: st) ws := by
  intro H locs ls hP hD hS hl
  refine W.objInit X.1.1 X.1.2.1 X.1.2.2.2.1 (X.1.2.2.2.2 _ h1) (X.1.2.2.2.2 _ h2) (X.1.2.2.2.2 _ h3) rfl (by rw [X.1.2.2.1]; exact hl.1) rfl hd hframes hlocals ?_
  exact W.eq (g2 := F0 m (pc + 3) ls st) rfl (k H locs ls hP hD hS hl)
theorem kc_new (X : kc_X p s m c cc nL args Ts own D cy A) {C : String} {T : u_T} {N ci index : Nat} (hin : ∀ w ∈ u_ws C T N, w ∈ Ts) (ty : Nat → FieldType) (hty : ∀ k, k < N → parseFieldDescriptor (T k).2.2.1 = some (ty k)) (h1 : Cond.classLink own index C ∈ Ts) (h2 : Cond.instantiable C N ∈ Ts) (h3 : Cond.initialized C ∈ Ts) (hc : vwCl[ci]? = some (C, T, N)) {fs : List Value} (hfs : ∀ j, j < N → defaultValue (ty j) = vp_V fs j) (hcells : cells + 1 ≤ R.cells) (hslots : slots + N ≤ R.slots) (hd : decode cc pc = .ok (.new index, 3)) (k : ∀ q : Nat, kc_B p l e R s m args below meth c D A nL (cells + 1) (slots + N) Q (pc + 3) lv (.ref q :: st) (ws ++ [(q, .inr (ci, fs))])) : kc_B p l e R s m args below meth c D A nL cells slots Q pc lv st ws := by
  intro H locs ls hP hD hS hl
  exact va_new X.1.1 X.1.2.1 X.1.2.2.2.2 hin ty hty X.1.2.2.2.1 (X.1.2.2.2.2 _ h1) (X.1.2.2.2.2 _ h2) (X.1.2.2.2.2 _ h3) X.2.1 hP hD hS X.2.2 hc hfs hcells hslots hd (fun q H1 hP1 hD1 hS1 => k q H1 locs ls hP1 hD1 hS1 hl)
theorem kc_callI (X : kc_X p s m c cc nL args Ts own D cy A) {y : MethodName} {ws1 ws' : List Cond} {fr lo mc ms index maxL q : Nat} {bytes : ByteArray} {wr : va_W} {e0 : va_E} {W1 : (Nat → Nat) → va_W} (hM9 : kc_Cv l D cy y ws1 fr lo mc ms [.ref q] [(q, e0)] W1) (isR : List Nat) (hR1 : isR.map (fun i => (wr ++ [(q, e0)])[i]?) = wr.map some) (hnd : va_nd isR = true) (hdi : isR.all (fun i => Nat.blt i wr.length) = true) (hG : GoodIn Ts ws1) (hws : ws1 = Cond.code y bytes maxL none :: ws') (hini : Cond.initialized y.cls ∈ Ts) (hlink : Cond.methodLink own index y ∈ Ts) (hinst : Cond.instanceMethod y ∈ Ts) (hname : y.name = "<init>") (hy : y.cls ≠ "java/lang/invoke/MethodHandle" ∧ y.cls ≠ "java/lang/invoke/VarHandle" ∧ (parseMethodDescriptor y.desc).map (fun d => d.parameters.length) = some 0) (hR : fr + 1 ≤ R.frames ∧ 8 + (maxL + 11) + lo ≤ R.locals) (hcat : (st.map fun v => v.category).sum ≤ 8) (hf : cells + mc ≤ R.cells ∧ slots + ms ≤ R.slots) (hd : decode cc pc = .ok (.invokespecial index, 3)) (k : ∀ u : Nat → Nat, kc_B p l e R s m args below meth c D A nL (cells + mc) (slots + ms) Q (pc + 3) lv st (wr ++ W1 u)) : kc_B p l e R s m args below meth c D A nL cells slots Q pc lv (.ref q :: st) (wr ++ [(q, e0)]) := by
  intro H locs ls hP hD hS hl
  have hdis : ∀ i ∈ isR, i ∉ [wr.length] := by
    intro i hi h
    have h1 := List.all_eq_true.mp hdi i hi
    have h2 : i < wr.length := Nat.le_of_ble_eq_true h1
    rw [List.mem_singleton] at h
    omega
  have hblind : FrameBlind (va_Pc [.ref q] (kc_st D cy H.size [(q, e0)])) := fun a U g mk h => ⟨h.1, h.2.1, h.2.2.1, va_K.moved (u := U) (U := U.calling g mk a) (Vm.Alike.refl U.vm) h.2.2.2.1, h.2.2.2.2⟩
  have hC1 : [wr.length].map (fun i => (wr ++ [(q, e0)])[i]?) = [(q, e0)].map some := by simp
  have hPc : va_P D vwCl [(q, e0)] H := fun i x hx => hP (wr.length + i) x (by rw [List.getElem?_append_right (by omega)]; rw [← hx]; congr 1; omega)
  have hDc : va_D (fun _ => True) [(q, e0)] := ⟨fun i j x y hx hy _ => by
    have h1 := (List.getElem?_eq_some_iff.mp hx).1
    have h2 := (List.getElem?_eq_some_iff.mp hy).1
    simp at h1 h2
    omega, fun _ _ _ => trivial⟩
  have hFc := va_free (wc := [(q, e0)]) hD hS X.2.2 [wr.length] hC1
  have hgo : ∀ U : State, U.heap = H → s.WarmedH U.vm → va_Pc [.ref q] (kc_st D cy H.size [(q, e0)]) [Value.ref q].toArray U := fun U hU hW => ⟨rfl, by rw [hU], by rw [hU]; exact hPc, va_K.moved hW.alike X.2.1, hDc⟩
  refine va_callv (va_runI (As := []) (rest := st) X.1 (hM9 H.size) (cwI 0 X.1.2.2.2.2 hG hws rfl rfl (X.1.2.2.2.2 _ hini) (X.1.2.2.2.2 _ hlink) (X.1.2.2.2.2 _ hinst) hname hy hR) ⟨hblind, hgo⟩ rfl rfl hl.1 rfl (lv_room hcat) hd hf) hS (fun q _ h => hFc q h) hFc (fun u t H1 locs1 ht hvm hw hB hz1 hk1 hS1 => ?_)
  obtain ⟨hP1, hD1⟩ := hB
  rw [ht] at hP1
  obtain ⟨hP2, hD2⟩ := va_join (wr := wr) (w1 := W1 u) hP hD [wr.length] isR hC1 hR1 hnd hdis hk1 hFc hP1 hD1
  exact k u H1 locs1 ls hP2 hD2 hS1 hl
theorem kc_callV (X : kc_X p s m c cc nL args Ts own D cy A) {y : MethodName} {ws1 ws' : List Cond} {fr lo mc ms index maxL n q : Nat} {bytes : ByteArray} {W1 : (Nat → Nat) → va_W} (As : List Value) {ci : Nat} {fs : List Value} {C : String} {T : u_T} {N : Nat} (q0 : Nat) (he : ws[q0]? = some (q, .inr (ci, fs))) (hc : vwCl[ci]? = some (C, T, N)) {rest stk : List Value} (hM9 : kc_Cv l D cy y ws1 fr lo mc ms (.ref q :: As) ws W1) (hG : GoodIn Ts (wsV own index C y ws1)) (hws : ws1 = Cond.code y bytes maxL none :: ws') (hy : y.cls = C ∧ y.cls ≠ "java/lang/invoke/MethodHandle" ∧ y.cls ≠ "java/lang/invoke/VarHandle" ∧ (parseMethodDescriptor y.desc).map (fun d => d.parameters.length) = some n) (hR : fr + 1 ≤ R.frames ∧ 8 + (maxL + 11) + lo ≤ R.locals) (hn : As.length = n) (hcat : (rest.map fun v => v.category).sum ≤ 8) (hf : cells + mc ≤ R.cells ∧ slots + ms ≤ R.slots) (hd : decode cc pc = .ok (.invokevirtual index, 3)) (hstk : stk = (As.reverse ++ .ref q :: rest)) (k : ∀ u : Nat → Nat, kc_B p l e R s m args below meth c D A nL (cells + mc) (slots + ms) Q (pc + 3) lv rest (W1 u)) : kc_B p l e R s m args below meth c D A nL cells slots Q pc lv stk ws := by
  intro H locs ls hP hD hS hl
  subst hstk
  have hblind : FrameBlind (va_Pc (.ref q :: As) (kc_st D cy H.size ws)) := fun a U g mk h => ⟨h.1, h.2.1, h.2.2.1, va_K.moved (u := U) (U := U.calling g mk a) (Vm.Alike.refl U.vm) h.2.2.2.1, h.2.2.2.2⟩
  have hFc : ∀ q, va_A ws H.size q → A q := by
    intro q hq
    rcases hq with ⟨k0, e0, h1⟩ | hq
    · exact hD.2 k0 _ h1
    · exact X.2.2 q (Nat.le_trans hS.1 hq)
  have hgo : ∀ U : State, U.heap = H → s.WarmedH U.vm → va_Pc (.ref q :: As) (kc_st D cy H.size ws) (.ref q :: As).toArray U := fun U hU hW => ⟨rfl, by rw [hU], by rw [hU]; exact hP, va_K.moved hW.alike X.2.1, hD.weaken (fun _ _ _ _ => trivial)⟩
  refine va_callv (va_runV (As := As) (rest := rest) X.1 (hM9 H.size) (cwV n X.1.2.2.2.2 hG hws rfl rfl hy hR) ⟨hblind, va_recv X.2.1 hP hc he, hgo⟩ rfl hn hl.1 rfl (lv_room hcat) hd hf) hS (fun q _ h => hFc q h) hFc (fun u t H1 locs1 ht hvm hw hB hz1 hk1 hS1 => ?_)
  obtain ⟨hP1, hD1⟩ := hB
  rw [ht] at hP1
  exact k u H1 locs1 ls hP1 (hD1.weaken (fun i x _ h => hFc x.1 h)) hS1 hl
theorem kc_eqw {ws' : va_W} (h : ws = ws') (k : kc_B p l e R s m args below meth c D A nL cells slots Q pc lv st ws') : kc_B p l e R s m args below meth c D A nL cells slots Q pc lv st ws := by
  subst h
  exact k
theorem kc_widen (X : kc_X p s m c cc nL args Ts own D cy A) {k1 n1 : Nat} (h1 : cells ≤ k1) (h2 : slots ≤ n1) (k : kc_B p l e R s m args below meth c D A nL k1 n1 Q pc lv st ws) : kc_B p l e R s m args below meth c D A nL cells slots Q pc lv st ws := by
  intro H locs ls hP hD hS hl
  exact W.widen h1 h2 (k H locs ls hP hD hS hl)
end kc_rows
theorem kc_vret {p : Program} {l : Launch} {e : Env} {R : Room} {s : State} {m : MethodId} {args : Array Value} {below : List Frame} {meth : Method} {c : Code} {D : va_G} {cy : Nat → ClassId} {nL mc ms : Nat} {cc : ByteArray} {own : String} {Ts : List Cond} {pc : Nat} {lv : List (Nat × Value)} {ws W0 : va_W} {W1 : (Nat → Nat) → va_W} (X : kc_X p s m c cc nL args Ts own D cy (va_A W0 s.heap.size)) (hr : meth.sig.returnType = none) (hlocks : meth.locks = false) (u : Nat → Nat) (hu : ws = W1 u) (hd : decode cc pc = .ok (.return_, 1)) : kc_B p l e R s m args below meth c D (va_A W0 s.heap.size) nL mc ms (MQ below (va_Qv (fun _ : Nat → Nat => True) (kc_en D (va_A W0 s.heap.size) W1) (va_A W0 s.heap.size)) args s mc ms (va_A W0 s.heap.size)) pc lv [] ws := by
  intro H locs ls hP hD hS hl
  subst hu
  exact W.vret X.1.1 X.1.2.1 hr (fun t ht hW => ⟨⟨u, rfl, trivial, by rw [ht]; exact hP, hD⟩, hS.F ht⟩) hS.2.2 hd hlocks
theorem kc_mkCv {l : Launch} {D : va_G} {cy : Nat → ClassId} {y : MethodName} {ws ws' : List Cond} {fr lo mc ms maxL : Nat} {cc : ByteArray} {av : List Value} {lv : List (Nat × Value)} {W0 : va_W} {W1 : (Nat → Nat) → va_W} (hy : plainFor y = true) (hw : ws = Cond.code y cc maxL none :: ws') (hlen : (lg_sl av).length ≤ maxL) (hlv : lv_args 0 av = lv) (h : ∀ (p : Program) (e : Env) (s : State) (m : MethodId) (args : Array Value) (below : List Frame) (meth : Method) (c : Code), kc_X p s m c cc maxL args ws y.cls D cy (va_A W0 s.heap.size) → meth.sig.returnType = none → meth.locks = false → meth.name = y.name → kc_B p l e ({ frames := fr, cells := mc, slots := ms, locals := lo }) s m args below meth c D (va_A W0 s.heap.size) maxL 0 0 (MQ below (va_Qv (fun _ : Nat → Nat => True) (kc_en D (va_A W0 s.heap.size) W1) (va_A W0 s.heap.size)) args s mc ms (va_A W0 s.heap.size)) 0 lv [] W0) : kc_Cv l D cy y ws fr lo mc ms av W0 W1 := by
  intro sz
  refine kb_ofW (cc := cc) (maxL := maxL) (ret := none) hy hw ?_
  intro p e s m args below meth c s₁ B hml hv
  obtain ⟨rfl, hsz, hP, hK, hD0⟩ := hv
  have hts := atoms_spec (ws := ws) B.pre
  have hown : s.vm.findClass y.cls = some m.cls := findClass_of_methodNamed B.named
  have hnm : meth.name = y.name := (name_of_methodNamed B.named B.method).1
  subst hsz
  have X : kc_X p s m c cc maxL av.toArray ws y.cls D cy (va_A W0 s.heap.size) := ⟨⟨B.exec, B.bytes, hml, hown, hts⟩, hK, fun q hq => Or.inr hq⟩
  have hl := lv_entry av (n := maxL) hlen
  rw [hlv] at hl
  rw [lg_entry_eq]
  exact h p e s m _ below meth c X B.returns B.notSynchronized hnm _ _ _ hP hD0.self va_S.rf hl

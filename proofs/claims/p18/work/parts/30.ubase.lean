/-! constructors: a world that grows -/
def kK (D : va_G) (cy : Nat → ClassId) (U : State) : Prop := sh_K (D, (fun _ => 0), cy, []) U
def uG (p : Program) (s : State) (m : MethodId) (args : Array Value) (meth : Method) (c : Code) (D : va_G) (cy : Nat → ClassId) (A : Nat → Prop) (own : String) (cc : ByteArray) (nL : Nat) : Prop :=
  p.tables.exec = Jvm.exec ∧ c.code = cc ∧ c.maxLocals = nL ∧ s.vm.findClass own = some m.cls ∧ (∀ w ∈ tw, w.before args s = true) ∧ kK D cy s ∧ (∀ q, s.heap.size ≤ q → A q) ∧ meth.sig.returnType = none ∧ meth.locks = false ∧ meth.name = "<init>"
def U (p : Program) (l : Launch) (e : Env) (R : Room) (s : State) (m : MethodId) (args : Array Value) (below : List Frame) (meth : Method) (c : Code) (D : va_G) (A : Nat → Prop) (nL : Nat) (Q : State → Prop) (ws : va_W) (cells slots : Nat) (pc : Nat) (lv : List (Nat × Value)) (st : List Value) : Prop :=
  ∀ (H : Heap) (locs : List Loc) (ls : Array Slot), va_P D cls ws H → va_D A ws → va_S A s.heap H locs → lv_has ls nL lv → W p l e R s m args below meth c H locs cells slots Q (F0 m pc ls st)
/-- a constructor's contract: out of its own blank cell (h0, e0) it makes the cells 'post ad', ad 0 its own -/
def ConI (l : Launch) (D : va_G) (cy : Nat → ClassId) (y : MethodName) (cc : ByteArray) (n : Nat) (rm : Room) (h0 : Nat) (e0 : va_E) (As : List Value) (post : (Nat → Nat) → va_W) : Prop :=
  ∀ sz : Nat, Met l y (uw y cc n none) rm (va_Pc (.ref h0 :: As) (fun U => U.heap.size = sz ∧ va_P D cls [(h0, e0)] U.heap ∧ kK D cy U)) (va_Qv (fun ad : Nat → Nat => ad 0 = h0) (fun ad t => va_P D cls (post ad) t.heap ∧ va_D (va_A [(h0, e0)] sz) (post ad)) (va_A [(h0, e0)] sz)) rm.cells rm.slots (va_A [(h0, e0)] sz)
def rmi (d cells slots : Nat) : Room := { frames := d, cells := cells, slots := slots, locals := 36 * d }
theorem va_D1 {A : Nat → Prop} {a : Nat} {e : va_E} (h : A a) : va_D A [(a, e)] := by
  refine ⟨fun i j x y hi hj _ => ?_, fun k q hk => ?_⟩
  · have h1 := (List.getElem?_eq_some_iff.mp hi).1
    have h2 := (List.getElem?_eq_some_iff.mp hj).1
    simp at h1 h2
    omega
  · have h1 := (List.getElem?_eq_some_iff.mp hk).1
    have h2 : k = 0 := by simp at h1; omega
    subst h2
    cases hk
    exact h
section UROWS
variable {p : Program} {l : Launch} {e : Env} {R : Room} {s : State} {m : MethodId} {args : Array Value} {below : List Frame} {meth : Method} {c : Code} {D : va_G} {cy : Nat → ClassId} {A : Nat → Prop} {own : String} {cc : ByteArray} {nL : Nat} {Q : State → Prop} {ws : va_W} {cells slots pc : Nat} {lv : List (Nat × Value)} {st : List Value}
theorem u_aload_n (G : uG p s m args meth c D cy A own cc nL) (q : Nat) {i : Fin 4} {x : Nat} (hd : decode cc pc = .ok (.aload_n i, 1)) (hk : lv[q]? = some ((i : Nat), .ref x)) (k : U p l e R s m args below meth c D A nL Q ws cells slots (pc + 1) lv (.ref x :: st)) : U p l e R s m args below meth c D A nL Q ws cells slots pc lv st := fun H locs ls hP hD hS hl => lv_aload_n G.1 G.2.1 hd rfl (lv_at hl q hk) (k H locs ls hP hD hS hl)
theorem u_astore_n (G : uG p s m args meth c D cy A own cc nL) {i : Fin 4} {x : Nat} (lv' : List (Nat × Value)) (hd : decode cc pc = .ok (.astore_n i, 1)) (hn : (i : Nat) < nL) (he : ((i : Nat), Value.ref x) :: lv.filter (fun q => !(q.1 == (i : Nat)) && !(q.1 + 1 == (i : Nat) && q.2.category == 2)) = lv') (k : U p l e R s m args below meth c D A nL Q ws cells slots (pc + 1) lv' st) : U p l e R s m args below meth c D A nL Q ws cells slots pc lv (.ref x :: st) := fun H locs ls hP hD hS hl => lv_astore_n G.1 G.2.1 hd rfl hl hn he (fun ls' hl' => k H locs ls' hP hD hS hl')
theorem u_iload_n (G : uG p s m args meth c D cy A own cc nL) (q : Nat) {i : Fin 4} {x : Int32} (hd : decode cc pc = .ok (.iload_n i, 1)) (hk : lv[q]? = some ((i : Nat), .int x)) (k : U p l e R s m args below meth c D A nL Q ws cells slots (pc + 1) lv (.int x :: st)) : U p l e R s m args below meth c D A nL Q ws cells slots pc lv st := fun H locs ls hP hD hS hl => lv_iload_n G.1 G.2.1 hd rfl (lv_at hl q hk) (k H locs ls hP hD hS hl)
theorem u_iconst (G : uG p s m args meth c D cy A own cc nL) {n : Int} {v : Int32} (hd : decode cc pc = .ok (.iconst n, 1)) (hv : Int32.ofInt n = v) (k : U p l e R s m args below meth c D A nL Q ws cells slots (pc + 1) lv (.int v :: st)) : U p l e R s m args below meth c D A nL Q ws cells slots pc lv st := fun H locs ls hP hD hS hl => lv_iconst G.1 G.2.1 hd hv (k H locs ls hP hD hS hl)
theorem u_bipush (G : uG p s m args meth c D cy A own cc nL) {n : Int} {v : Int32} (hd : decode cc pc = .ok (.bipush n, 2)) (hv : (Int8.ofInt n).toInt32 = v) (k : U p l e R s m args below meth c D A nL Q ws cells slots (pc + 2) lv (.int v :: st)) : U p l e R s m args below meth c D A nL Q ws cells slots pc lv st := fun H locs ls hP hD hS hl => lv_bipush G.1 G.2.1 hd hv (k H locs ls hP hD hS hl)
theorem u_sipush (G : uG p s m args meth c D cy A own cc nL) {n : Int} {v : Int32} (hd : decode cc pc = .ok (.sipush n, 3)) (hv : (Int16.ofInt n).toInt32 = v) (k : U p l e R s m args below meth c D A nL Q ws cells slots (pc + 3) lv (.int v :: st)) : U p l e R s m args below meth c D A nL Q ws cells slots pc lv st := fun H locs ls hP hD hS hl => lv_sipush G.1 G.2.1 hd hv (k H locs ls hP hD hS hl)
theorem u_iadd (G : uG p s m args meth c D cy A own cc nL) {x y v : Int32} (hd : decode cc pc = .ok (.iadd, 1)) (hv : x + y = v) (k : U p l e R s m args below meth c D A nL Q ws cells slots (pc + 1) lv (.int v :: st)) : U p l e R s m args below meth c D A nL Q ws cells slots pc lv (.int y :: .int x :: st) := fun H locs ls hP hD hS hl => lv_iadd G.1 G.2.1 hd (by rw [hv]; exact k H locs ls hP hD hS hl)
theorem u_idiv (G : uG p s m args meth c D cy A own cc nL) {x y v : Int32} (hd : decode cc pc = .ok (.idiv, 1)) (hne : ¬ y = 0) (hv : x / y = v) (k : U p l e R s m args below meth c D A nL Q ws cells slots (pc + 1) lv (.int v :: st)) : U p l e R s m args below meth c D A nL Q ws cells slots pc lv (.int y :: .int x :: st) := fun H locs ls hP hD hS hl => lv_idiv G.1 G.2.1 hd hne (by rw [hv]; exact k H locs ls hP hD hS hl)
theorem u_if_le (G : uG p s m args meth c D cy A own cc nL) {x : Int32} {off : Int} {tgt : Nat} (hd : decode cc pc = .ok (.ifCond .le off, 3)) (ht : (pc : Int) + off = (tgt : Int)) (h0 : 0 < x) (k : U p l e R s m args below meth c D A nL Q ws cells slots (pc + 3) lv st) : U p l e R s m args below meth c D A nL Q ws cells slots pc lv (.int x :: st) := fun H locs ls hP hD hS hl => lv_if_le G.1 G.2.1 hd ht (fun h => absurd h (Int32.not_le.mpr h0)) (fun _ => k H locs ls hP hD hS hl)
theorem u_goto (G : uG p s m args meth c D cy A own cc nL) {off : Int} {tgt : Nat} (hd : decode cc pc = .ok (.goto off, 3)) (ht : (pc : Int) + off = (tgt : Int)) (k : U p l e R s m args below meth c D A nL Q ws cells slots tgt lv st) : U p l e R s m args below meth c D A nL Q ws cells slots pc lv st := fun H locs ls hP hD hS hl => lv_goto G.1 G.2.1 hd ht (k H locs ls hP hD hS hl)
theorem u_dup (G : uG p s m args meth c D cy A own cc nL) {a : Value} (hd : decode cc pc = .ok (.dup, 1)) (ha : a.category = 1) (k : U p l e R s m args below meth c D A nL Q ws cells slots (pc + 1) lv (a :: a :: st)) : U p l e R s m args below meth c D A nL Q ws cells slots pc lv (a :: st) := fun H locs ls hP hD hS hl => lv_dup G.1 G.2.1 hd ha (k H locs ls hP hD hS hl)
theorem u_objInit (G : uG p s m args meth c D cy A own cc nL) {i a : Nat} (hd : decode cc pc = .ok (.invokespecial i, 3)) (w1 : Cond.methodLink own i objectInit ∈ tw) (w2 : Cond.instanceMethod objectInit ∈ tw) (w3 : Cond.code objectInit ⟨#[0xb1]⟩ 1 none ∈ tw) (hf : 1 ≤ R.frames) (hr : (st.map fun v => v.category).sum + 12 ≤ R.locals) (k : U p l e R s m args below meth c D A nL Q ws cells slots (pc + 3) lv st) : U p l e R s m args below meth c D A nL Q ws cells slots pc lv (.ref a :: st) := by
  intro H locs ls hP hD hS hl
  refine W.objInit G.1 G.2.1 G.2.2.2.1 (G.2.2.2.2.1 _ w1) (G.2.2.2.2.1 _ w2) (G.2.2.2.2.1 _ w3) rfl (by rw [G.2.2.1]; exact hl.1) rfl hd hf (by show 2 * 0 + _ + 12 ≤ _; omega) ?_
  exact k H locs ls hP hD hS hl
theorem kK_arr {t : Nat} {ty : FieldType} (hK : kK D cy s) (ht : ([(cy 0, .int), (cy 1, .byte), (cy 2, .boolean)] : List (ClassId × FieldType))[t]? = some (cy t, ty)) : va_RA s (cy t) ty := (hK.1.2 t _ ht).2
theorem u_newa (G : uG p s m args meth c D cy A own cc nL) (t : Nat) {ty : FieldType} {atype : ArrayType} {n : Int32} {N : Nat} (hd : decode cc pc = .ok (.newarray atype, 2)) (hty : newarray.typeOf atype = ty) (ht : ([(cy 0, .int), (cy 1, .byte), (cy 2, .boolean)] : List (ClassId × FieldType))[t]? = some (cy t, ty)) (hnm : ∀ cA, va_RA s cA ty → s.vm.findClass ("[" ++ ty.toString) = some cA) (w : Cond.arrayClass ty ∈ tw) (ha : ∀ cA : ClassId, vp_cell cA (N, .inl (fun _ => 0)) = arrV cA N (fun _ => defaultValue ty)) (hn : ¬ n < 0) (hN : n.toNatClampNeg = N) (hb : N * componentBytes ty ≤ 536870912) (hc : cells + 1 ≤ R.cells) (hs : slots + N ≤ R.slots)
    (k : ∀ q : Nat, U p l e R s m args below meth c D A nL Q (ws ++ [(q, .inl (cy t, N, .inl (fun _ => 0)))]) (cells + 1) (slots + N) (pc + 2) lv (.ref q :: st)) : U p l e R s m args below meth c D A nL Q ws cells slots pc lv (.int n :: st) := by
  intro H locs ls hP hD hS hl
  refine va_newa (D := D) (tys := [(cy 0, .int), (cy 1, .byte), (cy 2, .boolean)]) G.1 G.2.1 (by rw [hty]; exact G.2.2.2.2.1 _ w) hty G.2.2.2.2.2.1.1 hP hD hS G.2.2.2.2.2.2.1 ha hn hN hb hc hs hd (fun q cA H1 hK1 hP1 hD1 hS1 => ?_)
  have e1 := hnm cA (hK1.2 3 (cA, ty) rfl).2
  have e2 := hnm (cy t) (kK_arr G.2.2.2.2.2.1 ht)
  have e3 : cA = cy t := Option.some.inj (e1.symm.trans e2)
  subst e3
  exact k q H1 locs ls hP1 hD1 hS1 hl
theorem u_new (G : uG p s m args meth c D cy A own cc nL) {C : String} {T : u_T} {N ci i : Nat} {ty : Nat → FieldType} (fs : List Value) (hd : decode cc pc = .ok (.new i, 3)) (hin : ∀ w ∈ u_ws C T N, w ∈ tw) (hty : ∀ k, k < N → parseFieldDescriptor (T k).2.2.1 = some (ty k)) (w1 : Cond.classLink own i C ∈ tw) (w2 : Cond.instantiable C N ∈ tw) (w3 : Cond.initialized C ∈ tw) (hc : cls[ci]? = some (C, T, N)) (hfs : ∀ j, j < N → defaultValue (ty j) = vp_V fs j) (hcc : cells + 1 ≤ R.cells) (hss : slots + N ≤ R.slots)
    (k : ∀ q : Nat, U p l e R s m args below meth c D A nL Q (ws ++ [(q, .inr (ci, fs))]) (cells + 1) (slots + N) (pc + 3) lv (.ref q :: st)) : U p l e R s m args below meth c D A nL Q ws cells slots pc lv st := by
  intro H locs ls hP hD hS hl
  exact va_new G.1 G.2.1 G.2.2.2.2.1 hin ty hty G.2.2.2.1 (G.2.2.2.2.1 _ w1) (G.2.2.2.2.1 _ w2) (G.2.2.2.2.1 _ w3) G.2.2.2.2.2.1.1 hP hD hS G.2.2.2.2.2.2.1 hc hfs hcc hss hd (fun q H1 hP1 hD1 hS1 => k q H1 locs ls hP1 hD1 hS1 hl)
theorem u_putF (G : uG p s m args meth c D cy A own cc nL) {C : String} {T : u_T} {N ci i a : Nat} {ty0 : Nat → FieldType} {fs : List Value} {v : Value} (kq j : Nat) (ws' : va_W) (hd : decode cc pc = .ok (.putfield i, 3)) (hin : ∀ w ∈ u_ws C T N, w ∈ tw) (hty : ∀ k, k < N → parseFieldDescriptor (T k).2.2.1 = some (ty0 k)) (hnm : ∀ a, a < N → ∀ b, b < N → a ≠ b → (T a).2.1 ≠ (T b).2.1) (he : ws[kq]? = some (a, .inr (ci, fs))) (hc : cls[ci]? = some (C, T, N)) (hj : j < N) (w : Cond.fieldLink own i (T j).1 (T j).2.1 (T j).2.2.1 ∈ tw) (hfin : (T j).2.2.2 = true) (hdecl : (T j).1 = own) (hn : narrow (ty0 j) v = v) (hfit : fits (ty0 j) v = true) (hl0 : j < fs.length) (hw : ws.set kq (a, .inr (ci, fs.set j v)) = ws')
    (k : U p l e R s m args below meth c D A nL Q ws' cells slots (pc + 3) lv st) : U p l e R s m args below meth c D A nL Q ws cells slots pc lv (v :: .ref a :: st) := by
  intro H locs ls hP hD hS hl
  refine va_putF (D := D) (ty := ty0 j) G.1 G.2.1 G.2.2.2.2.1 hin ty0 hty hnm G.2.2.2.1 G.2.2.2.2.2.1.1 hP hD hS kq he hc j hj (G.2.2.2.2.1 _ w) (fun _ h9 => h9) hfin G.2.2.2.2.2.2.2.2.2 hdecl (hty j hj) hn hfit hl0 hd (fun H1 locs1 hP1 hD1 hS1 => ?_)
  rw [hw] at hP1 hD1
  exact k H1 locs1 ls hP1 hD1 hS1 hl
theorem u_put (G : uG p s m args meth c D cy A own cc nL) {C : String} {T : u_T} {N ci i a : Nat} {ty0 : Nat → FieldType} {fs : List Value} {v : Value} (kq j : Nat) (ws' : va_W) (hd : decode cc pc = .ok (.putfield i, 3)) (hin : ∀ w ∈ u_ws C T N, w ∈ tw) (hty : ∀ k, k < N → parseFieldDescriptor (T k).2.2.1 = some (ty0 k)) (hnm : ∀ a, a < N → ∀ b, b < N → a ≠ b → (T a).2.1 ≠ (T b).2.1) (he : ws[kq]? = some (a, .inr (ci, fs))) (hc : cls[ci]? = some (C, T, N)) (hj : j < N) (w : Cond.fieldLink own i (T j).1 (T j).2.1 (T j).2.2.1 ∈ tw) (hfin : (T j).2.2.2 = false) (hn : narrow (ty0 j) v = v) (hfit : fits (ty0 j) v = true) (hl0 : j < fs.length) (hw : ws.set kq (a, .inr (ci, fs.set j v)) = ws')
    (k : U p l e R s m args below meth c D A nL Q ws' cells slots (pc + 3) lv st) : U p l e R s m args below meth c D A nL Q ws cells slots pc lv (v :: .ref a :: st) := by
  intro H locs ls hP hD hS hl
  refine va_put (D := D) (ty := ty0 j) G.1 G.2.1 G.2.2.2.2.1 hin ty0 hty hnm G.2.2.2.1 G.2.2.2.2.2.1.1 hP hD hS kq he hc j hj (G.2.2.2.2.1 _ w) (fun _ h9 => h9) hfin (hty j hj) hn hfit hl0 hd (fun H1 locs1 hP1 hD1 hS1 => ?_)
  rw [hw] at hP1 hD1
  exact k H1 locs1 ls hP1 hD1 hS1 hl
theorem u_get (G : uG p s m args meth c D cy A own cc nL) {C : String} {T : u_T} {N ci i a : Nat} {fs : List Value} {v : Value} (kq j : Nat) (hd : decode cc pc = .ok (.getfield i, 3)) (hin : ∀ w ∈ u_ws C T N, w ∈ tw) (he : ws[kq]? = some (a, .inr (ci, fs))) (hc : cls[ci]? = some (C, T, N)) (hj : j < N) (w : Cond.fieldLink own i (T j).1 (T j).2.1 (T j).2.2.1 ∈ tw) (hv : fs[j]? = some v)
    (k : U p l e R s m args below meth c D A nL Q ws cells slots (pc + 3) lv (v :: st)) : U p l e R s m args below meth c D A nL Q ws cells slots pc lv (.ref a :: st) := by
  intro H locs ls hP hD hS hl
  exact va_get (D := D) G.1 G.2.1 G.2.2.2.2.1 hin G.2.2.2.1 G.2.2.2.2.2.1.1 hP kq he hc j hj (G.2.2.2.2.1 _ w) (fun _ h9 => h9) hv hd (k H locs ls hP hD hS hl)
theorem u_vret {h0 sz : Nat} {e0 : va_E} {post : (Nat → Nat) → va_W} (G : uG p s m args meth c D cy (va_A [(h0, e0)] s.heap.size) own cc nL) (ad : Nat → Nat) (hd : decode cc pc = .ok (.return_, 1)) (h0' : ad 0 = h0) (is : List Nat) (hn : va_nd is = true) (h1 : is.filterMap (fun i => ws[i]?) = post ad) (h2 : is.map (fun i => ws[i]?) = (post ad).map some) : U p l e R s m args below meth c D (va_A [(h0, e0)] s.heap.size) nL (MQ below (va_Qv (fun ad : Nat → Nat => ad 0 = h0) (fun ad t => va_P D cls (post ad) t.heap ∧ va_D (va_A [(h0, e0)] s.heap.size) (post ad)) (va_A [(h0, e0)] s.heap.size)) args s cells slots (va_A [(h0, e0)] s.heap.size)) ws cells slots pc lv [] := by
  intro H locs ls hP hD hS hl
  have hlk : meth.locks = false := G.2.2.2.2.2.2.2.2.1
  exact W.vret G.1 G.2.1 G.2.2.2.2.2.2.2.1 (fun t ht hW => ⟨⟨ad, rfl, h0', by rw [ht]; exact hP.sub is h1, hD.sub is hn h2⟩, hS.F ht⟩) hS.2.2 hd
theorem u_back {y : MethodName} {cc' : ByteArray} {n' : Nat} {rm : Room} {q kq : Nat} {e0 : va_E} {As : List Value} {post : (Nat → Nat) → va_W} {H : Heap} {locs : List Loc} {ls : Array Slot} {a : Array Value} {st0 : List Value} (G : uG p s m args meth c D cy A own cc nL) (hr : va_Run p l e R s m args below meth c H locs cells slots rm.cells rm.slots (F0 m pc ls st0) st (va_Qv (fun ad : Nat → Nat => ad 0 = q) (fun ad t => va_P D cls (post ad) t.heap ∧ va_D (va_A [(q, e0)] H.size) (post ad)) (va_A [(q, e0)] H.size) a) (va_A [(q, e0)] H.size)) (hP : va_P D cls ws H) (hD : va_D A ws) (hS : va_S A s.heap H locs) (hl : lv_has ls nL lv) (hq : [kq].map (fun i => ws[i]?) = [(q, e0)].map some) (isR : List Nat) (wr : va_W) (hR : isR.map (fun i => ws[i]?) = wr.map some) (hn : va_nd isR = true) (hdis : ∀ i ∈ isR, i ∉ [kq])
    (kk : ∀ ad : Nat → Nat, ad 0 = q → U p l e R s m args below meth c D A nL Q (wr ++ post ad) (cells + rm.cells) (slots + rm.slots) (pc + 3) lv st) : W p l e R s m args below meth c H locs cells slots Q (F0 m pc ls st0) := by
  have hFc := va_free (wc := [(q, e0)]) hD hS G.2.2.2.2.2.2.1 [kq] hq
  refine va_callv hr hS (fun x _ h => hFc x h) hFc (fun u t H1 locs1 ht hvm hw hB hz1 hk1 hS1 => ?_)
  obtain ⟨hP1, hD1⟩ := hB
  rw [ht] at hP1
  obtain ⟨hP2, hD2⟩ := va_join (wr := wr) (w1 := post u) hP hD [kq] isR hq hR hn hdis hk1 hFc hP1 hD1
  exact kk u hw H1 locs1 ls hP2 hD2 hS1 hl
theorem cI_blind (D : va_G) (cy : Nat → ClassId) (sz : Nat) (As : List Value) (w : va_W) : FrameBlind (va_Pc As (fun U => U.heap.size = sz ∧ va_P D cls w U.heap ∧ kK D cy U)) := fun a U g mk q => by
  obtain ⟨q0, q1, qP, qK⟩ := q
  exact ⟨q0, q1, qP, sh_K.same (s := U) rfl qK⟩
theorem u_callI {y : MethodName} {cc' : ByteArray} {n' i : Nat} {rm : Room} {q kq : Nat} {e0 : va_E} {As st0 : List Value} {post : (Nat → Nat) → va_W} (G : uG p s m args meth c D cy A own cc nL) (hC : ConI l D cy y cc' n' rm q e0 As post) (hq : [kq].map (fun i => ws[i]?) = [(q, e0)].map some) (isR : List Nat) (wr : va_W) (hR : isR.map (fun i => ws[i]?) = wr.map some) (hn : va_nd isR = true) (hdis : ∀ i ∈ isR, i ∉ [kq]) (w1 : Cond.methodLink own i y ∈ tw) (w2 : Cond.instanceMethod y ∈ tw) (w4 : Cond.initialized y.cls ∈ tw) (w5 : Cond.code y cc' n' none ∈ tw) (hy1 : y.name = "<init>")
    (hy : y.cls ≠ "java/lang/invoke/MethodHandle" ∧ y.cls ≠ "java/lang/invoke/VarHandle" ∧ (parseMethodDescriptor y.desc).map (fun d => d.parameters.length) = some As.length) (hRm : rm.frames + 1 ≤ R.frames ∧ 8 + (n' + 11) + rm.locals ≤ R.locals) (hst : st0 = As.reverse ++ .ref q :: st) (hrm : (st.map fun v => v.category).sum ≤ 8) (hd : decode cc pc = .ok (.invokespecial i, 3)) (hcs : cells + rm.cells ≤ R.cells ∧ slots + rm.slots ≤ R.slots)
    (kk : ∀ ad : Nat → Nat, ad 0 = q → U p l e R s m args below meth c D A nL Q (wr ++ post ad) (cells + rm.cells) (slots + rm.slots) (pc + 3) lv st) : U p l e R s m args below meth c D A nL Q ws cells slots pc lv st0 := by
  intro H locs ls hP hD hS hl
  obtain ⟨g1, g2, g3, g4, g5, g6, g7, g8, g9, g10⟩ := id G
  have hPc : va_P D cls [(q, e0)] H := hP.sub [kq] (by have h := hq; simp only [List.map_cons, List.map_nil, List.cons.injEq, and_true] at h; simp [h])
  have cb : CallB R s args own i y cc' n' none (uw y cc' n' none) rm rm.cells rm.slots As.length := callB_of As.length g5 (lw_goodIn w5) rfl rfl rfl (g5 _ w4) (g5 _ w1) hy hRm
  have hp : PreS s H (va_Pc (.ref q :: As) (fun U => U.heap.size = H.size ∧ va_P D cls [(q, e0)] U.heap ∧ kK D cy U)) (.ref q :: As) := ⟨cI_blind _ _ _ _ _, fun U hU hW => ⟨rfl, by rw [hU], by rw [hU]; exact hPc, sh_K.warm hW g6⟩⟩
  exact u_back (kq := kq) G (va_runI (As := As) (rest := st) ⟨g1, g2, g3, g4, g5⟩ (hC H.size) ⟨cb, hy1, g5 _ w2⟩ hp rfl rfl hl.1 hst (lv_room hrm) hd hcs) hP hD hS hl hq isR wr hR hn hdis kk (cc' := cc') (y := y) (n' := n') (As := As)
theorem u_callN {y : MethodName} {host : String} {cc' : ByteArray} {n' i : Nat} {rm : Room} {q kq : Nat} {e0 : va_E} {As st0 : List Value} {post : (Nat → Nat) → va_W} (G : uG p s m args meth c D cy A own cc nL) (hC : ConI l D cy y cc' n' rm q e0 As post) (hq : [kq].map (fun i => ws[i]?) = [(q, e0)].map some) (isR : List Nat) (wr : va_W) (hR : isR.map (fun i => ws[i]?) = wr.map some) (hn : va_nd isR = true) (hdis : ∀ i ∈ isR, i ∉ [kq]) (w1 : (own, i, y, host) ∈ tnM) (w2 : Cond.instanceMethod y ∈ tw) (w4 : Cond.initialized y.cls ∈ tw) (w5 : Cond.code y cc' n' none ∈ tw) (hy1 : y.name = "<init>")
    (hy : y.cls ≠ "java/lang/invoke/MethodHandle" ∧ y.cls ≠ "java/lang/invoke/VarHandle" ∧ (parseMethodDescriptor y.desc).map (fun d => d.parameters.length) = some As.length) (hRm : rm.frames + 1 ≤ R.frames ∧ 8 + (n' + 11) + rm.locals ≤ R.locals) (hst : st0 = As.reverse ++ .ref q :: st) (hrm : (st.map fun v => v.category).sum ≤ 8) (hd : decode cc pc = .ok (.invokespecial i, 3)) (hcs : cells + rm.cells ≤ R.cells ∧ slots + rm.slots ≤ R.slots)
    (kk : ∀ ad : Nat → Nat, ad 0 = q → U p l e R s m args below meth c D A nL Q (wr ++ post ad) (cells + rm.cells) (slots + rm.slots) (pc + 3) lv st) : U p l e R s m args below meth c D A nL Q ws cells slots pc lv st0 := by
  intro H locs ls hP hD hS hl
  obtain ⟨g1, g2, g3, g4, g5, g6, g7, g8, g9, g10⟩ := id G
  have hPc : va_P D cls [(q, e0)] H := hP.sub [kq] (by have h := hq; simp only [List.map_cons, List.map_nil, List.cons.injEq, and_true] at h; simp [h])
  have cb : va_CN R s args own i y host cc' n' none (uw y cc' n' none) rm rm.cells rm.slots As.length := va_cnB As.length g5 (lw_goodIn w5) rfl rfl rfl (g6.2.2 _ w1) (g5 _ w4) hy hRm
  have hp : PreS s H (va_Pc (.ref q :: As) (fun U => U.heap.size = H.size ∧ va_P D cls [(q, e0)] U.heap ∧ kK D cy U)) (.ref q :: As) := ⟨cI_blind _ _ _ _ _, fun U hU hW => ⟨rfl, by rw [hU], by rw [hU]; exact hPc, sh_K.warm hW g6⟩⟩
  exact u_back (kq := kq) G (va_runIN (As := As) (rest := st) ⟨g1, g2, g3, g4, g5⟩ (hC H.size) ⟨cb, hy1, g5 _ w2⟩ hp rfl rfl hl.1 hst (lv_room hrm) hd hcs) hP hD hS hl hq isR wr hR hn hdis kk (cc' := cc') (y := y) (n' := n') (As := As)
end UROWS
/-- a constructor's contract out of its walk -/
theorem conI_of {l : Launch} {D : va_G} {cy : Nat → ClassId} {y : MethodName} {cc : ByteArray} {n : Nat} {rm : Room} {h0 : Nat} {e0 : va_E} {As : List Value} {post : (Nat → Nat) → va_W} (hy : plainName y.cls = true) (hnm : y.name = "<init>") (hn : (lg_sl (.ref h0 :: As)).length ≤ n) {lv : List (Nat × Value)} (hlv : lv_args 0 (.ref h0 :: As) = lv)
    (body : ∀ (p : Program) (e : Env) (s : State) (m : MethodId) (below : List Frame) (meth : Method) (c : Code), uG p s m (.ref h0 :: As).toArray meth c D cy (va_A [(h0, e0)] s.heap.size) y.cls cc n → U p l e rm s m (.ref h0 :: As).toArray below meth c D (va_A [(h0, e0)] s.heap.size) n (MQ below (va_Qv (fun ad : Nat → Nat => ad 0 = h0) (fun ad t => va_P D cls (post ad) t.heap ∧ va_D (va_A [(h0, e0)] s.heap.size) (post ad)) (va_A [(h0, e0)] s.heap.size)) (.ref h0 :: As).toArray s rm.cells rm.slots (va_A [(h0, e0)] s.heap.size)) [(h0, e0)] 0 0 0 lv []) : ConI l D cy y cc n rm h0 e0 As post := by
  intro sz
  refine Met.ofW (cc := cc) (maxL := n) (ret := none) hy rfl ?_
  intro p e s m args below meth c s₁ B hml hv
  obtain ⟨rfl, hsz, hP, hK⟩ := hv
  subst hsz
  have hts := atoms_spec (ws := uw y cc n none) B.pre
  have hin : meth.name = "<init>" := by rw [(name_of_methodNamed B.named B.method).1]; exact hnm
  have G : uG p s m (.ref h0 :: As).toArray meth c D cy (va_A [(h0, e0)] s.heap.size) y.cls cc n := ⟨B.exec, B.bytes, hml, findClass_of_methodNamed B.named, fun w h => hts w (List.mem_cons_of_mem _ h), hK, fun q h => Or.inr h, B.returns, B.notSynchronized, hin⟩
  have hl := lv_entry (.ref h0 :: As) (n := n) hn
  rw [hlv] at hl
  rw [lg_entry_eq]
  exact body p e s m below meth c G s.heap [] _ hP (va_D1 (Or.inl ⟨0, e0, rfl⟩)) va_S.rf hl

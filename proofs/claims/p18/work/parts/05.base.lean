/-! worlds of this proof: a fixed list of cells; all numbers in one table 'St' (cell, slot) -/
abbrev St : Type := Nat → Nat → Int32
def st_up (S : St) (k j : Nat) (v : Int32) : St := fun q => if q = k then upd (S k) j v else S q
abbrev sh_F : Type := Option (Nat × Bool)
abbrev sh_C : Type := (Nat × Nat) ⊕ (Nat × List sh_F)
abbrev sh_T : Type := List sh_C
abbrev vD : Type := va_G × (Nat → Nat) × (Nat → ClassId) × sh_T
def adr (X : vD) (k : Nat) : Nat := X.2.1 k
def cyr (X : vD) (t : Nat) : ClassId := X.2.2.1 t
def shp (X : vD) : sh_T := X.2.2.2
def sh_v (X : vD) (x : Int32) (f : sh_F) : Value := match f with
  | none => .int x
  | some (r, false) => .ref (adr X r)
  | some (r, true) => if x = 0 then .null else .ref (adr X r)
def sh_fs (X : vD) (f : Nat → Int32) (fs : List sh_F) : List Value := fs.mapIdx (fun j t => sh_v X (f j) t)
def sh_e (X : vD) (f : Nat → Int32) (d : sh_C) : va_E := match d with
  | .inl (t, n) => .inl (cyr X t, n, .inl f)
  | .inr (ci, fs) => .inr (ci, sh_fs X f fs)
def sh_w (X : vD) (S : St) : va_W := (shp X).mapIdx (fun k d => (adr X k, sh_e X (S k) d))
def sh_A (X : vD) (sz : Nat) : Nat → Prop := fun q => (∃ k, k < (shp X).length ∧ q = adr X k) ∨ sz ≤ q
def sh_J (X : vD) : Prop := ∀ i j, i < (shp X).length → j < (shp X).length → adr X i = adr X j → i = j
def sh_N (U : State) : Prop := (∀ q ∈ tnF, va_Nw (.fieldLinkNest q.1 q.2.1 q.2.2.1 q.2.2.2.1 q.2.2.2.2.1 q.2.2.2.2.2) U) ∧ ∀ q ∈ tnM, va_Nw (.methodLinkNest q.1 q.2.1 q.2.2.1 q.2.2.2) U
def tys3 (X : vD) : List (ClassId × FieldType) := [(cyr X 0, .int), (cyr X 1, .byte), (cyr X 2, .boolean)]
def sh_K (X : vD) (U : State) : Prop := va_K X.1 cls (tys3 X) U ∧ sh_N U
theorem sh_K.warm {X : vD} {s U : State} (hW : s.WarmedH U.vm) (h : sh_K X s) : sh_K X U := ⟨va_K.moved hW.alike h.1, fun q hq => va_Nw.warmF hW (h.2.1 q hq), fun q hq => va_Nw.warmM hW (h.2.2 q hq)⟩
theorem sh_K.same {X : vD} {s U : State} (hv : s.vm = U.vm) (h : sh_K X s) : sh_K X U := ⟨va_K.moved (by rw [hv]; exact Vm.Alike.refl U.vm) h.1, fun q hq => va_Nw.same rfl hv (h.2.1 q hq), fun q hq => va_Nw.same rfl hv (h.2.2 q hq)⟩
def sh_P (X : vD) (S : St) (H : Heap) : Prop := va_P X.1 cls (sh_w X S) H
theorem sh_w_at {X : vD} {S : St} {k : Nat} {d : sh_C} (h : (shp X)[k]? = some d) : (sh_w X S)[k]? = some (adr X k, sh_e X (S k) d) := by
  unfold sh_w
  rw [List.getElem?_mapIdx, h]
  rfl
theorem sh_w_some {X : vD} {S : St} {k : Nat} {q : Nat × va_E} (h : (sh_w X S)[k]? = some q) : ∃ d, (shp X)[k]? = some d ∧ q = (adr X k, sh_e X (S k) d) := by
  unfold sh_w at h
  rw [List.getElem?_mapIdx] at h
  cases hd : (shp X)[k]? with
  | none => rw [hd] at h; cases h
  | some d => rw [hd] at h; exact ⟨d, rfl, (Option.some.inj h).symm⟩
theorem sh_lt {X : vD} {k : Nat} {d : sh_C} (h : (shp X)[k]? = some d) : k < (shp X).length := (List.getElem?_eq_some_iff.mp h).1
theorem sh_D {X : vD} (hJ : sh_J X) (S : St) (sz : Nat) : va_D (sh_A X sz) (sh_w X S) := by
  refine ⟨fun i j x y hi hj hxy => ?_, fun k q hk => ?_⟩
  · obtain ⟨d1, h1, rfl⟩ := sh_w_some hi
    obtain ⟨d2, h2, rfl⟩ := sh_w_some hj
    exact hJ i j (sh_lt h1) (sh_lt h2) hxy
  · obtain ⟨d1, h1, rfl⟩ := sh_w_some hk
    exact Or.inl ⟨k, sh_lt h1, rfl⟩
theorem st_self (S : St) (k j : Nat) (v : Int32) : st_up S k j v k = upd (S k) j v := if_pos rfl
theorem st_other (S : St) {k q : Nat} (j : Nat) (v : Int32) (h : q ≠ k) : st_up S k j v q = S q := if_neg h
theorem sh_set {X : vD} {S : St} {k : Nat} {d : sh_C} (h : (shp X)[k]? = some d) (j : Nat) (v : Int32) : (sh_w X S).set k (adr X k, sh_e X (upd (S k) j v) d) = sh_w X (st_up S k j v) := by
  apply List.ext_getElem?
  intro i
  by_cases hi : i = k
  · subst hi
    rw [List.getElem?_set_self (by unfold sh_w; rw [List.length_mapIdx]; exact sh_lt h), sh_w_at h, st_self]
  · rw [List.getElem?_set_ne (Ne.symm hi)]
    unfold sh_w
    rw [List.getElem?_mapIdx, List.getElem?_mapIdx, st_other _ _ _ hi]
theorem sh_fs_at {X : vD} {f : Nat → Int32} {fs : List sh_F} {j : Nat} {t : sh_F} (h : fs[j]? = some t) : (sh_fs X f fs)[j]? = some (sh_v X (f j) t) := by
  unfold sh_fs
  rw [List.getElem?_mapIdx, h]
  rfl
theorem sh_fs_set {X : vD} {f : Nat → Int32} {fs : List sh_F} {j : Nat} {t : sh_F} (h : fs[j]? = some t) (v : Int32) : (sh_fs X f fs).set j (sh_v X v t) = sh_fs X (upd f j v) fs := by
  have hl := (List.getElem?_eq_some_iff.mp h).1
  apply List.ext_getElem?
  intro i
  by_cases hi : i = j
  · subst hi
    rw [List.getElem?_set_self (by unfold sh_fs; rw [List.length_mapIdx]; exact hl), sh_fs_at h]
    simp [upd]
  · rw [List.getElem?_set_ne (Ne.symm hi)]
    unfold sh_fs
    rw [List.getElem?_mapIdx, List.getElem?_mapIdx]
    simp [upd, hi]
theorem sh_fs_len {X : vD} {f : Nat → Int32} {fs : List sh_F} : (sh_fs X f fs).length = fs.length := by unfold sh_fs; rw [List.length_mapIdx]
/-! the end of a method, its contract -/
def vQ (X : vD) (sz : Nat) (K : Option Value × St) : Array Value → State → Outcome → State → Prop := fun _ st oc t => oc = .returned K.1 ∧ sh_P X K.2 t.heap ∧ va_F (sh_A X sz) st t
def vP (X : vD) (sz : Nat) (As : List Value) (S : St) : Array Value → State → Prop := va_Pc As (fun U => U.heap.size = sz ∧ sh_P X S U.heap ∧ sh_K X U)
def uw (y : MethodName) (cc : ByteArray) (n : Nat) (ret : Option FieldType) : List Cond := .code y cc n ret :: tw
def rmd (d : Nat) : Room := { frames := d, cells := 0, slots := 0, locals := 36 * d }
def Con (l : Launch) (X : vD) (y : MethodName) (cc : ByteArray) (n : Nat) (ret : Option FieldType) (d : Nat) (As : List Value) (S : St) (K : Option Value × St) : Prop :=
  ∀ sz : Nat, Met l y (uw y cc n ret) (rmd d) (vP X sz As S) (vQ X sz K) 0 0 (sh_A X sz)
def vG (p : Program) (s : State) (m : MethodId) (args : Array Value) (meth : Method) (c : Code) (X : vD) (sh0 : sh_T) (own : String) (cc : ByteArray) (nL : Nat) (ret : Option FieldType) : Prop :=
  p.tables.exec = Jvm.exec ∧ c.code = cc ∧ c.maxLocals = nL ∧ s.vm.findClass own = some m.cls ∧ (∀ w ∈ tw, w.before args s = true) ∧ sh_K X s ∧ sh_J X ∧ shp X = sh0 ∧ meth.sig.returnType = ret ∧ meth.locks = false
def V {τ : Type} (p : Program) (l : Launch) (e : Env) (d : Nat) (s : State) (m : MethodId) (args : Array Value) (below : List Frame) (meth : Method) (c : Code) (X : vD) (nL : Nat) (ρ : τ → Option Value × St) (S : St) (pc : Nat) (lv : List (Nat × Value)) (st : List Value) (K : τ) : Prop :=
  ∀ (H : Heap) (locs : List Loc) (ls : Array Slot), sh_P X S H → va_S (sh_A X s.heap.size) s.heap H locs → lv_has ls nL lv → W p l e (rmd d) s m args below meth c H locs 0 0 (MQ below (vQ X s.heap.size (ρ K)) args s 0 0 (sh_A X s.heap.size)) (F0 m pc ls st)
theorem lw_good : tw.all goodWord = true := List.all_eq_true.mpr (fun w h => (List.mem_filter.mp h).2)
theorem lw_goodAll : ∀ w ∈ tw, ((w.onTables && w.keeps) = true ∨ ∃ ty, w = .arrayClass ty) := fun w h => good_of_word (List.all_eq_true.mp lw_good w h)
theorem uw_good {y y' : MethodName} {cc cc' : ByteArray} {n n' : Nat} {ret ret' : Option FieldType} (h : Cond.code y' cc' n' ret' ∈ tw) : GoodIn (uw y cc n ret) (uw y' cc' n' ret') := by
  intro w hw
  rcases List.mem_cons.mp hw with rfl | hw
  · exact ⟨List.mem_cons_of_mem _ h, lw_goodAll _ h⟩
  · exact ⟨List.mem_cons_of_mem _ hw, lw_goodAll _ hw⟩
theorem lw_goodIn {y' : MethodName} {cc' : ByteArray} {n' : Nat} {ret' : Option FieldType} (h : Cond.code y' cc' n' ret' ∈ tw) : GoodIn tw (uw y' cc' n' ret') := by
  intro w hw
  rcases List.mem_cons.mp hw with rfl | hw
  · exact ⟨h, lw_goodAll _ h⟩
  · exact ⟨hw, lw_goodAll _ hw⟩
/-- a contract out of a walk -/
theorem con_of {l : Launch} {X : vD} {sh0 : sh_T} {y : MethodName} {cc : ByteArray} {n : Nat} {ret : Option FieldType} {d : Nat} {As : List Value} {S : St} {τ : Type} {ρ : τ → Option Value × St} {K : τ} (hJ : sh_J X) (hsh : shp X = sh0) (hy : plainName y.cls = true) (hn : (lg_sl As).length ≤ n) {lv : List (Nat × Value)} (hlv : lv_args 0 As = lv)
    (body : ∀ (p : Program) (e : Env) (s : State) (m : MethodId) (below : List Frame) (meth : Method) (c : Code), vG p s m As.toArray meth c X sh0 y.cls cc n ret → V p l e d s m As.toArray below meth c X n ρ S 0 lv [] K) : Con l X y cc n ret d As S (ρ K) := by
  intro sz
  refine Met.ofW (cc := cc) (maxL := n) (ret := ret) hy rfl ?_
  intro p e s m args below meth c s₁ B hml hv
  obtain ⟨rfl, hsz, hP, hK⟩ := hv
  subst hsz
  have hts := atoms_spec (ws := uw y cc n ret) B.pre
  have G : vG p s m As.toArray meth c X sh0 y.cls cc n ret := ⟨B.exec, B.bytes, hml, findClass_of_methodNamed B.named, fun w h => hts w (List.mem_cons_of_mem _ h), hK, hJ, hsh, B.returns, B.notSynchronized⟩
  have hl := lv_entry As (n := n) hn
  rw [hlv] at hl
  rw [lg_entry_eq]
  exact body p e s m below meth c G s.heap [] _ hP va_S.rf hl

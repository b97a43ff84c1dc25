/-! THE STATEMENT IS FALSE: at a start that has room for what the two constructors make, with the empty script, the law ends with cells of more than 95323 slots -/
theorem set_sum : ∀ (l : List Nat) (j n : Nat), l[j]? = some n → l.sum = n + (l.set j 0).sum
  | [], j, n, h => by simp at h
  | a :: l, 0, n, h => by simp at h; subst h; simp
  | a :: l, j + 1, n, h => by
    have h1 : l[j]? = some n := by simpa using h
    have h2 := set_sum l j n h1
    simp only [List.set_cons_succ, List.sum_cons]
    omega
theorem pick_le : ∀ (js : List (Nat × Nat)) (l : List Nat), (js.map (·.1)).Nodup → (∀ q ∈ js, l[q.1]? = some q.2) → (js.map (·.2)).sum ≤ l.sum
  | [], l, _, _ => by simp
  | q :: js, l, hn, h => by
    have h1 := set_sum l q.1 q.2 (h q List.mem_cons_self)
    simp only [List.map_cons, List.nodup_cons] at hn
    have h2 := pick_le js (l.set q.1 0) hn.2 (fun r hr => by
      rw [List.getElem?_set_ne (fun z => hn.1 (List.mem_map.mpr ⟨r, hr, z.symm⟩))]
      exact h r (List.mem_cons_of_mem _ hr))
    simp only [List.map_cons, List.sum_cons]
    omega
/-- arrays of a world that lies behind z: their lengths together are no more than the slots behind z -/
theorem world_le {D : va_G} {ws : va_W} {H : Heap} {z : Nat} (hP : va_P D cls ws H) (hD : va_D (fun q => z ≤ q) ws) (ks : List (Nat × Nat)) (hk : (ks.map (·.1)).Nodup) (ha : ∀ q ∈ ks, ∃ (a : Nat) (cA : ClassId) (f : Nat → Int32), ws[q.1]? = some (a, .inl (cA, q.2, .inl f))) : (ks.map (·.2)).sum ≤ ((H.toList.drop z).map (·.slots.size)).sum := by
  have hx : ∀ q ∈ ks, ∃ a, z ≤ a ∧ (∃ e, ws[q.1]? = some (a, e)) ∧ ((H.toList.drop z).map (·.slots.size))[a - z]? = some q.2 := by
    intro q hq
    obtain ⟨a, cA, f, hw⟩ := ha q hq
    have h1 : H[a]? = some (vp_cell cA (q.2, .inl f)) := hP q.1 _ hw
    have h2 : z ≤ a := hD.2 q.1 _ hw
    refine ⟨a, h2, ⟨_, hw⟩, ?_⟩
    rw [List.getElem?_map, List.getElem?_drop, show z + (a - z) = a by omega, Array.getElem?_toList, h1]
    simp [vp_cell_i, arrV_size]
  have key : ∀ ks' : List (Nat × Nat), (∀ q ∈ ks', q ∈ ks) → (ks'.map (·.1)).Nodup → ∃ js : List (Nat × Nat), js.map (·.2) = ks'.map (·.2) ∧ (js.map (·.1)).Nodup ∧ (∀ r ∈ js, ((H.toList.drop z).map (·.slots.size))[r.1]? = some r.2) ∧ ∀ r ∈ js, ∃ q ∈ ks', ∃ e, ws[q.1]? = some (r.1 + z, e) := by
    intro ks'
    induction ks' with
    | nil => intro _ _; exact ⟨[], rfl, List.nodup_nil, fun _ h => absurd h List.not_mem_nil, fun _ h => absurd h List.not_mem_nil⟩
    | cons q ks' ih =>
      intro hs hn
      simp only [List.map_cons, List.nodup_cons] at hn
      obtain ⟨js, e1, e2, e3, e4⟩ := ih (fun r hr => hs r (List.mem_cons_of_mem _ hr)) hn.2
      obtain ⟨a, h1, ⟨e, h2⟩, h3⟩ := hx q (hs q List.mem_cons_self)
      refine ⟨(a - z, q.2) :: js, by simp [e1], ?_, ?_, ?_⟩
      · simp only [List.map_cons, List.nodup_cons]
        refine ⟨fun hm => ?_, e2⟩
        obtain ⟨r, hr, hre⟩ := List.mem_map.mp hm
        obtain ⟨q', hq', e', hw'⟩ := e4 r hr
        have hi := hD.1 q.1 q'.1 _ _ h2 hw' (by show a = r.1 + z; omega)
        exact hn.1 (List.mem_map.mpr ⟨q', hq', hi.symm⟩)
      · intro r hr
        rcases List.mem_cons.mp hr with rfl | hr
        · exact h3
        · exact e3 r hr
      · intro r hr
        rcases List.mem_cons.mp hr with rfl | hr
        · exact ⟨q, List.mem_cons_self, e, by rw [h2]; congr 2; omega⟩
        · obtain ⟨q', hq', h⟩ := e4 r hr
          exact ⟨q', List.mem_cons_of_mem _ hq', h⟩
  obtain ⟨js, e1, e2, e3, -⟩ := key ks (fun _ h => h) hk
  rw [← e1]
  exact pick_le js _ e2 e3
def room_w : Room := { frames := 10, cells := 54, slots := 110173, locals := 366 }
def rf_Q (_ : Array Value) (s : State) (o : Outcome) (t : State) : Prop := o = .returned (some (.int 1)) ∧ 95323 < ((t.heap.toList.drop s.heap.size).map (·.slots.size)).sum
def rf_P (b : Addr) (args : Array Value) (s : State) : Prop := args = #[.ref b] ∧ s.IntsAt b []
set_option maxHeartbeats 4000000 in
set_option maxRecDepth 100000 in
theorem made_sum {D : va_G} {cy : Nat → ClassId} {ad1 ad2 : Nat → Nat} {H : Heap} {z : Nat} (hP : va_P D cls (pS cy ad1 ++ pM cy ad2) H) (hD : va_D (fun q => z ≤ q) (pS cy ad1 ++ pM cy ad2)) : 95323 < ((H.toList.drop z).map (·.slots.size)).sum := by
  have h := world_le hP hD [(2, 2048), (6, 2050), (8, 2048), (15, 6400), (16, 6219), (26, 6400), (27, 2048), (32, 6219), (33, 2048), (41, 2048), (46, 25600), (51, 25600), (52, 2048), (53, 8200)] (by decide) (fun q hq => by
    simp only [List.mem_cons, List.not_mem_nil, or_false] at hq
    rcases hq with rfl | rfl | rfl | rfl | rfl | rfl | rfl | rfl | rfl | rfl | rfl | rfl | rfl | rfl <;> exact ⟨_, _, _, rfl⟩)
  exact Nat.lt_of_lt_of_le (by decide) h
set_option maxHeartbeats 4000000 in
set_option maxRecDepth 100000 in
theorem rf_walk (l : Launch) (b : Addr) : MetFree l x (headSpec (Jvm.Cond.code x code maxLocals ret :: tables_1) room_w) (rf_P b) (fun _ _ _ _ _ => True) rf_Q := by
  refine MetFree.of_bodyS (code := code) (maxLocals := maxLocals) (ret := ret) (by decide) ?_ ?_
  · intro args s m h hn
    obtain ⟨meth, c, h1, h2, h3, h4, h5, h6, -, -⟩ := Cond.code_spec hn (atoms_spec (ws := Jvm.Cond.code x code maxLocals ret :: tables_1) h _ List.mem_cons_self)
    exact ⟨meth, c, h1, h2, h3, h4, h5, h6⟩
  · intro p e s m args below meth c s₁ B hml0 hP _
    obtain ⟨rfl, hx⟩ := hP
    obtain ⟨scr, harrAt, hlist, hof, hsmall⟩ := hx
    obtain ⟨hcb, hkn, -, -⟩ := State.arrayAt?_spec harrAt
    have hown : s.vm.findClass "SensorNodeLaw" = some m.cls := findClass_of_methodNamed B.named
    have hts0 : ∀ c ∈ (Jvm.Cond.code x code maxLocals ret :: tables_1), c.before #[Value.ref b] s = true := atoms_spec (ws := Jvm.Cond.code x code maxLocals ret :: tables_1) B.pre
    have hts : ∀ w ∈ lw_tbl, w.before #[Value.ref b] s = true := k2_hts_sels lw_privs (fun w hw => hts0 w (List.mem_cons_of_mem _ hw)) lw_privs_ok
    have hml : c.maxLocals = 4 := B.maxLocals_eq (hts0 _ List.mem_cons_self)
    have X₀ : Stand p l e room_w s m #[Value.ref b] below meth c s₁ [] 0 0 := Stand.of_body B
    have hh0 : s₁.heap = s.heap := by rw [B.state]; rfl
    have hsz : scr.slots.size = 0 := by rw [← Array.length_toList, hlist]; rfl
    have hbl : b < s.heap.size := (Array.getElem?_eq_some_iff.mp hcb).1
    have hX : va_X b 0 (fun _ => 0) s s.heap := ⟨scr, hcb, hof, hkn, hsz, fun j hj => absurd hj (Nat.not_lt_zero j)⟩
    obtain ⟨D, cy, hK⟩ := law_kK hts
    have hr := B.returns
    have hlocks := B.notSynchronized
    have hxc := B.exec
    have hbc := B.bytes
    have G : uG0 p s #[Value.ref b] m c D cy (fun q => s.heap.size ≤ q) "SensorNodeLaw" cL_law 4 := ⟨B.exec, B.bytes, hml, hown, fun w h => hts w (List.mem_filter.mp h).1, hK, fun _ h => h⟩
    have K : W p l e room_w s m #[Value.ref b] below meth c s.heap [] 0 0 (fun t => ∃ o, t.status = .running ∧ Ended t below o ∧ rf_Q #[Value.ref b] s o t) (entryFrame m ([Value.ref b] : List Value).toArray 4) := by
      have hl := lv_entry ([.ref b] : List Value) (n := 4) (Nat.le_of_ble_eq_true rfl)
      rw [lg_entry_eq]
      refine law_made (b := b) (R := room_w) (by decide) (by decide) (by decide) (by decide) G (fun ad1 ad2 => ?_) s.heap [] _ (fun k q h => by simp at h) ⟨fun i j p q h => by simp at h, fun k q h => by simp at h⟩ va_S.rf hl
      intro H locs ls hP hD hS hl
      refine lv_iload_n hxc hbc dL_law_18 rfl (lv_at hl 0 rfl) ?_
      refine lv_aload_n hxc hbc dL_law_19 rfl (lv_at hl 3 rfl) ?_
      refine va_slen hxc hbc hX hbl (Nat.not_le.mpr hbl) hS dL_law_20 ?_
      refine lv_bipush (v := 6) hxc hbc dL_law_21 (by decide) ?_
      refine lv_isub hxc hbc dL_law_23 ?_
      refine lv_icmp_gt (tgt := 698) hxc hbc dL_law_24 (by decide) (fun _ => ?_) (fun h => absurd (by decide) h)
      refine lv_iconst (v := 1) hxc hbc dL_law_698 (by decide) ?_
      intro T hT X
      obtain ⟨fs, hret, hrun, hended, hW, hframe⟩ := X.leave (v := some (.int 1)) (hlocks := hlocks) (fun h => by rw [hr] at h; cases h)
      have hmeth' : T.vm.method? m = some meth := X.method'
      refine ⟨T.setFrames fs, ?_, .returned (some (.int 1)), hrun, hended, rfl, ?_⟩
      · jvm_step X.here [X.here.top, hxc, hbc, dL_law_699, hmeth', hr, ret, narrow_b1]
        (try refine ⟨rfl, ?_⟩); (try refine ⟨rfl, ?_⟩)
        first | (intro acts; rw [hret _ acts rfl rfl rfl]) | rw [hret _ _ rfl rfl rfl]
        exact Steps.refl _
      · show 95323 < ((T.heap.toList.drop s.heap.size).map (·.slots.size)).sum
        rw [hT]
        exact made_sum hP hD
    obtain ⟨t, a1, o, b1, b2, b3⟩ := K s₁ hh0 X₀
    exact ⟨t, o, a1, b1, b2, b3⟩
/-- A REFUTATION: let any start meet the claim's premises, with room for 110173 slots (the claim asks for 95323) and the empty script: then Claimed_1_1 is false -/
theorem whole_refuted {l : Launch} {p : Program} {e : Env} {s : State} {m : MethodId} {args : Array Value} {below : List Frame} {b : Addr} (h0 : l.flags = flags0) (hA : AtStart classFile x code maxLocals ret World_1 tables_1 room_1 Calls_1 rest_1 Pre_1 l p e s m args below) (hroom : (headSpec (Cond.code x code maxLocals ret :: tables_1) room_w).applies x e.platform s = true) (hb : rf_P b args s) : ¬ Claimed_1_1 := by
  intro hC
  obtain ⟨a1, a2, a3, -, a5, a6, a7, a8, a9, a10, a11, a12, a13⟩ := hA
  obtain ⟨n, o, w1, -, e1, -, f1⟩ := hC l h0 a1 a2 p e a3 a5 a6 s m args below a7 a8 a9 a10 ⟨a11, a12, a13⟩
  obtain ⟨n', o', w2, -, e2, -, f2⟩ := rf_walk l b p e a3 a5 a6 s m args below a7 ((Spec.applies_iff_loose a7).mp hroom).1 hb trivial
  obtain ⟨hn, -⟩ := the_end_unique (f := fun k => stepsAlone p.tables e k s) w1 e1 w2 e2
  subst hn
  have h3 : ((({ stepsAlone p.tables e n s with vm := s.vm } : State).heap.toList.drop s.heap.size).map (·.slots.size)).sum ≤ 95323 := f1.2.2.2.2.2.2.1
  exact absurd h3 (Nat.not_le.mpr f2)

/-! the refutation without a premise: the witness' own start, with the empty script -/
noncomputable abbrev st0 : State := start1.aboutOf #[]
theorem st0_tabs : (Cond.code x code maxLocals ret :: tables_1).all (fun c => c.onTables || (decide (c = .arrayClass .int) || (decide (c = .arrayClass .byte) || decide (c = .arrayClass .boolean)))) = true := by decide +kernel
theorem st0_words : ∀ c ∈ (Cond.code x code maxLocals ret :: tables_1), c.before start1.args0 st0 = true := by
  intro c hc
  have h := List.all_eq_true.mp st0_tabs c hc
  rcases Bool.or_eq_true_iff.mp h with h | h
  · exact va_tabs h (rfl : start1.about.vm = st0.vm) (start1.words c hc)
  rcases Bool.or_eq_true_iff.mp h with h | h
  · rw [of_decide_eq_true h]; decide +kernel
  rcases Bool.or_eq_true_iff.mp h with h | h
  · rw [of_decide_eq_true h]; decide +kernel
  · rw [of_decide_eq_true h]; decide +kernel
theorem st0_applies (r : Room) (h1 : st0.frames.length + r.frames ≤ launch0.maxFrames) (hR : st0.hasRoom start1.e0.platform r = true) : (headSpec (Cond.code x code maxLocals ret :: tables_1) r).applies x start1.e0.platform st0 = true :=
  (Spec.applies_iff rfl).mpr ⟨rfl, rfl, rfl, by decide +kernel, by decide +kernel, by decide +kernel, hR, atoms_intro st0_words⟩
theorem st0_start : AtStart classFile x code maxLocals ret World_1 tables_1 room_1 Calls_1 rest_1 Pre_1 launch0 start1.p0 start1.e0 st0 ⟨0, 0⟩ start1.args0 Lib.HandBits.below0 :=
  ⟨lists_1, trivial, launch0.admits_env _ _ _, launch0.least_env, fairChoices_fair.cas, fairChoices_fair.clock, rfl, by decide +kernel, by decide +kernel,
    st0_applies room_1 (by decide +kernel) (launch0.hasRoom_least _ room_1 (by decide +kernel) (by decide +kernel) (by decide +kernel) (by decide +kernel) (by decide +kernel) (by decide +kernel)),
    trivial, (show rest_1_c.before start1.args0 st0 = true by decide +kernel), (show (Cond.and given_1 narrow_1).before start1.args0 st0 = true by decide +kernel)⟩
theorem st0_ints : rf_P 0 start1.args0 st0 := ⟨rfl, { cls := 14, slots := #[], vm := .none }, rfl, rfl, ⟨fun k h => (by cases h), _, rfl, _, rfl⟩, by decide⟩
/-- THE CLAIM IS FALSE AS IT IS STATED -/
theorem whole_is_false : ¬ Claimed_1_1 := whole_refuted (l := launch0) rfl st0_start (st0_applies room_w (by decide +kernel) (launch0.hasRoom_least _ room_w (by decide +kernel) (by decide +kernel) (by decide +kernel) (by decide +kernel) (by decide +kernel) (by decide +kernel))) st0_ints
theorem whole_is_false2 (h : Claimed_1_1 ∧ Claimed_1_2) : False := whole_is_false h.1
set_option maxHeartbeats 4000000 in
set_option maxRecDepth 100000 in
/-- the same in the statement's own words for a claim that falls: a start, a run to its end, and the end isn't as the claim says -/
theorem whole_falls : RefutedClaimed_1_1 ∧ RefutedClaimed_1_2 := by
  have hA := st0_start
  obtain ⟨a1, a2, a3, -, a5, a6, a7, a8, a9, a10, a11, a12, a13⟩ := hA
  obtain ⟨n, o, w, r, e, -, f⟩ := rf_walk launch0 0 start1.p0 start1.e0 a3 a5 a6 st0 ⟨0, 0⟩ start1.args0 Lib.HandBits.below0 a7 ((Spec.applies_iff_loose a7).mp (st0_applies room_w (by decide +kernel) (launch0.hasRoom_least _ room_w (by decide +kernel) (by decide +kernel) (by decide +kernel) (by decide +kernel) (by decide +kernel) (by decide +kernel)))).1 st0_ints trivial
  refine ⟨⟨launch0, start1.p0, start1.e0, st0, ⟨0, 0⟩, start1.args0, Lib.HandBits.below0, rfl, st0_start, n, o, w, r, e, fun h => ?_⟩, ⟨launch0, start1.p0, start1.e0, st0, ⟨0, 0⟩, start1.args0, Lib.HandBits.below0, rfl, st0_start, n, o, w, r, e, fun h => ?_⟩⟩
  · have h3 : ((({ stepsAlone start1.p0.tables start1.e0 n st0 with vm := st0.vm } : State).heap.toList.drop st0.heap.size).map (·.slots.size)).sum ≤ 95323 := h.2.2.2.2.2.2.2.1
    exact absurd h3 (Nat.not_le.mpr f)
  · have h3 : ((({ stepsAlone start1.p0.tables start1.e0 n st0 with vm := st0.vm } : State).heap.toList.drop st0.heap.size).map (·.slots.size)).sum ≤ 95323 := h.2.2.2.2.2.2.2.1
    exact absurd h3 (Nat.not_le.mpr f)

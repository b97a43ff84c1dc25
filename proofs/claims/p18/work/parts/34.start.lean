/-! what the tables say at the law's start -/
theorem tl1 {w : Cond} (i : Nat) (hi : tables_1_1[i]? = some w) : w ∈ lw_tbl := by
  have h := List.mem_of_getElem? hi
  exact List.mem_append_right _ (List.mem_append_left _ h)
theorem tl2 {w : Cond} (i : Nat) (hi : tables_1_2[i]? = some w) : w ∈ lw_tbl := by
  have h := List.mem_of_getElem? hi
  exact List.mem_append_right _ (List.mem_append_right _ (List.mem_append_left _ h))
theorem tl3 {w : Cond} (i : Nat) (hi : tables_1_3[i]? = some w) : w ∈ lw_tbl := by
  have h := List.mem_of_getElem? hi
  exact List.mem_append_right _ (List.mem_append_right _ (List.mem_append_right _ (List.mem_append_left _ h)))
theorem tl4 {w : Cond} (i : Nat) (hi : tables_1_4[i]? = some w) : w ∈ lw_tbl := by
  have h := List.mem_of_getElem? hi
  exact List.mem_append_right _ (List.mem_append_right _ (List.mem_append_right _ (List.mem_append_right _ (List.mem_append_left _ h))))
theorem tl5 {w : Cond} (i : Nat) (hi : tables_1_5[i]? = some w) : w ∈ lw_tbl := by
  have h := List.mem_of_getElem? hi
  exact List.mem_append_right _ (List.mem_append_right _ (List.mem_append_right _ (List.mem_append_right _ (List.mem_append_right _ (h)))))
set_option maxHeartbeats 4000000 in
set_option maxRecDepth 100000 in
theorem law_kK {s : State} {args : Array Value} (hts : ∀ w ∈ lw_tbl, w.before args s = true) : ∃ (D : va_G) (cy : Nat → ClassId), kK D cy s := by
  have htw : ∀ w ∈ tw, w.before args s = true := fun w h => hts w (List.mem_filter.mp h).1
  obtain ⟨c0, i0, h0⟩ := u_known (C := RX0) (T := TX0) (N := 1) htw inX0 (htw _ w1_70)
  obtain ⟨c1, i1, h1⟩ := u_known (C := RX1) (T := TX1) (N := 10) htw inX1 (htw _ w1_123)
  obtain ⟨c2, i2, h2⟩ := u_known (C := RX2) (T := TX2) (N := 15) htw inX2 (htw _ w1_90)
  obtain ⟨c3, i3, h3⟩ := u_known (C := RX3) (T := TX3) (N := 6) htw inX3 (htw _ w1_206)
  obtain ⟨c4, i4, h4⟩ := u_known (C := RX4) (T := TX4) (N := 9) htw inX4 (htw _ w1_21)
  obtain ⟨c5, i5, h5⟩ := u_known (C := RX5) (T := TX5) (N := 6) htw inX5 (htw _ w1_96)
  obtain ⟨c6, i6, h6⟩ := u_known (C := RX6) (T := TX6) (N := 3) htw inX6 (htw _ w1_64)
  obtain ⟨c7, i7, h7⟩ := u_known (C := RX7) (T := TX7) (N := 4) htw inX7 (htw _ w1_13)
  obtain ⟨c8, i8, h8⟩ := u_known (C := RX8) (T := TX8) (N := 5) htw inX8 (htw _ w4_64)
  obtain ⟨c9, i9, h9⟩ := u_known (C := RX9) (T := TX9) (N := 20) htw inX9 (htw _ w3_223)
  obtain ⟨c10, i10, h10⟩ := u_known (C := RX10) (T := TX10) (N := 36) htw inX10 (htw _ w3_217)
  obtain ⟨aI, kI, mI, fI, gI, dI⟩ := Cond.arrayClass_spec (htw _ w1_62)
  obtain ⟨aB, kB, mB, fB, gB, dB⟩ := Cond.arrayClass_spec (htw _ w4_94)
  obtain ⟨aZ, kZ, mZ, fZ, gZ, dZ⟩ := Cond.arrayClass_spec (htw _ w4_204)
  refine ⟨(fun k => [c0, c1, c2, c3, c4, c5, c6, c7, c8, c9, c10].getD k c0, fun k => [i0, i1, i2, i3, i4, i5, i6, i7, i8, i9, i10].getD k i0), fun k => [aI, aB, aZ].getD k aI, ⟨?_, ?_⟩, ?_, ?_⟩
  · intro c q hq
    match c, hq with
    | 0, hq => cases hq; exact h0
    | 1, hq => cases hq; exact h1
    | 2, hq => cases hq; exact h2
    | 3, hq => cases hq; exact h3
    | 4, hq => cases hq; exact h4
    | 5, hq => cases hq; exact h5
    | 6, hq => cases hq; exact h6
    | 7, hq => cases hq; exact h7
    | 8, hq => cases hq; exact h8
    | 9, hq => cases hq; exact h9
    | 10, hq => cases hq; exact h10
    | k + 11, hq => simp [cls] at hq
  · intro k q hq
    match k, hq with
    | 0, hq => cases hq; exact ⟨fun n z => ⟨fun k h => (by cases h), kI, gI, mI, dI⟩, fI⟩
    | 1, hq => cases hq; exact ⟨fun n z => ⟨fun k h => (by cases h), kB, gB, mB, dB⟩, fB⟩
    | 2, hq => cases hq; exact ⟨fun n z => ⟨fun k h => (by cases h), kZ, gZ, mZ, dZ⟩, fZ⟩
    | k + 3, hq => simp [tys3] at hq
  · exact List.forall_mem_cons.mpr ⟨va_Nw.of rfl (hts _ (tl1 30 rfl)), List.forall_mem_cons.mpr ⟨va_Nw.of rfl (hts _ (tl1 32 rfl)), List.forall_mem_cons.mpr ⟨va_Nw.of rfl (hts _ (tl1 33 rfl)), List.forall_mem_cons.mpr ⟨va_Nw.of rfl (hts _ (tl1 35 rfl)), List.forall_mem_cons.mpr ⟨va_Nw.of rfl (hts _ (tl1 36 rfl)), List.forall_mem_cons.mpr ⟨va_Nw.of rfl (hts _ (tl1 39 rfl)), List.forall_mem_cons.mpr ⟨va_Nw.of rfl (hts _ (tl1 40 rfl)), List.forall_mem_cons.mpr ⟨va_Nw.of rfl (hts _ (tl1 42 rfl)), fun _ h => absurd h List.not_mem_nil⟩⟩⟩⟩⟩⟩⟩⟩
  · exact List.forall_mem_cons.mpr ⟨va_Nw.of rfl (hts _ (tl1 22 rfl)), List.forall_mem_cons.mpr ⟨va_Nw.of rfl (hts _ (tl1 65 rfl)), List.forall_mem_cons.mpr ⟨va_Nw.of rfl (hts _ (tl1 97 rfl)), List.forall_mem_cons.mpr ⟨va_Nw.of rfl (hts _ (tl1 212 rfl)), List.forall_mem_cons.mpr ⟨va_Nw.of rfl (hts _ (tl4 65 rfl)), fun _ h => absurd h List.not_mem_nil⟩⟩⟩⟩⟩

/-! SensorNode$Node.generation -/
theorem qyX2_generation : yX2_generation.cls ≠ "java/lang/invoke/MethodHandle" ∧ yX2_generation.cls ≠ "java/lang/invoke/VarHandle" ∧ (parseMethodDescriptor yX2_generation.desc).map (fun d => d.parameters.length) = some 0 := by decide +kernel
noncomputable def f_N_generation (S : St) : Int32 := (S 16 (0 : Int32).toNatClampNeg) &&& (65535 : Int32)
set_option linter.unusedVariables false in
set_option maxHeartbeats 4000000 in
set_option maxRecDepth 100000 in
theorem c_N_generation (l : Launch) {X : vD} (hJ : sh_J X) (hX : shp X = shX)  (S : St)  : Con l X yX2_generation cX2_generation 1 (some .int) 0 [.ref (adr X 7)] S (some (.int (f_N_generation S)), S) := by
  refine con_of (ρ := (fun r : Int32 => ((some (.int r), S) : Option Value × St))) (K := f_N_generation S) hJ hX (by decide) (Nat.le_of_ble_eq_true rfl) (lv := [(0, .ref (adr X 7))]) rfl ?_
  intro p e s m below meth c G
  have G : vG p s m _ meth c X shX "SensorNode$Node" cX2_generation 1 (some .int) := G
  unfold f_N_generation
  refine v_aload_n G 0 dX2_generation_0 rfl ?_
  refine v_getr G (ci := 2) (T := TX2) (j := 1) inX2 rfl rfl rfl (by decide) w1_160 dX2_generation_1 ?_
  refine v_iconst G (v := (0 : Int32)) dX2_generation_4 (by decide) ?_
  refine v_iald G rfl (by unfold vp_in; decide) dX2_generation_5 ?_
  refine v_ldc G (v := (65535 : Int32)) dX2_generation_6 w2_109 ?_
  refine v_iand G dX2_generation_8 ?_
  exact v_iret G rfl rfl dX2_generation_9
/-! SensorNode$Node.entriesThatCount -/
theorem qyX2_entriesThatCount : yX2_entriesThatCount.cls ≠ "java/lang/invoke/MethodHandle" ∧ yX2_entriesThatCount.cls ≠ "java/lang/invoke/VarHandle" ∧ (parseMethodDescriptor yX2_entriesThatCount.desc).map (fun d => d.parameters.length) = some 0 := by decide +kernel
noncomputable def f_N_entriesThatCount (S : St) : Int32 := (S 16 (1 : Int32).toNatClampNeg) &&& (65535 : Int32)
set_option linter.unusedVariables false in
set_option maxHeartbeats 4000000 in
set_option maxRecDepth 100000 in
theorem c_N_entriesThatCount (l : Launch) {X : vD} (hJ : sh_J X) (hX : shp X = shX)  (S : St)  : Con l X yX2_entriesThatCount cX2_entriesThatCount 1 (some .int) 0 [.ref (adr X 7)] S (some (.int (f_N_entriesThatCount S)), S) := by
  refine con_of (ρ := (fun r : Int32 => ((some (.int r), S) : Option Value × St))) (K := f_N_entriesThatCount S) hJ hX (by decide) (Nat.le_of_ble_eq_true rfl) (lv := [(0, .ref (adr X 7))]) rfl ?_
  intro p e s m below meth c G
  have G : vG p s m _ meth c X shX "SensorNode$Node" cX2_entriesThatCount 1 (some .int) := G
  unfold f_N_entriesThatCount
  refine v_aload_n G 0 dX2_entriesThatCount_0 rfl ?_
  refine v_getr G (ci := 2) (T := TX2) (j := 1) inX2 rfl rfl rfl (by decide) w1_160 dX2_entriesThatCount_1 ?_
  refine v_iconst G (v := (1 : Int32)) dX2_entriesThatCount_4 (by decide) ?_
  refine v_iald G rfl (by unfold vp_in; decide) dX2_entriesThatCount_5 ?_
  refine v_ldc G (v := (65535 : Int32)) dX2_entriesThatCount_6 w2_109 ?_
  refine v_iand G dX2_entriesThatCount_8 ?_
  exact v_iret G rfl rfl dX2_entriesThatCount_9
/-! SensorNode$Node.bufferStart -/
theorem qyX2_bufferStart : yX2_bufferStart.cls ≠ "java/lang/invoke/MethodHandle" ∧ yX2_bufferStart.cls ≠ "java/lang/invoke/VarHandle" ∧ (parseMethodDescriptor yX2_bufferStart.desc).map (fun d => d.parameters.length) = some 1 := by decide +kernel
noncomputable def f_N_bufferStart (S : St) (a1 : Int32) : Int32 := (3 : Int32) + ((a1 &&& (1 : Int32)) * (f_L_bufferWords S))
set_option linter.unusedVariables false in
set_option maxHeartbeats 4000000 in
set_option maxRecDepth 100000 in
theorem c_N_bufferStart (l : Launch) {X : vD} (hJ : sh_J X) (hX : shp X = shX)  (S : St) (a1 : Int32)  : Con l X yX2_bufferStart cX2_bufferStart 2 (some .int) 1 [.ref (adr X 7), .int a1] S (some (.int (f_N_bufferStart S a1)), S) := by
  refine con_of (ρ := (fun r : Int32 => ((some (.int r), S) : Option Value × St))) (K := f_N_bufferStart S a1) hJ hX (by decide) (Nat.le_of_ble_eq_true rfl) (lv := [(0, .ref (adr X 7)), (1, .int a1)]) rfl ?_
  intro p e s m below meth c G
  have G : vG p s m _ meth c X shX "SensorNode$Node" cX2_bufferStart 2 (some .int) := G
  unfold f_N_bufferStart
  refine v_iconst G (v := (3 : Int32)) dX2_bufferStart_0 (by decide) ?_
  refine v_iload_n G 1 dX2_bufferStart_1 rfl ?_
  refine v_iconst G (v := (1 : Int32)) dX2_bufferStart_2 (by decide) ?_
  refine v_iand G dX2_bufferStart_3 ?_
  refine v_aload_n G 0 dX2_bufferStart_4 rfl ?_
  refine v_getr G (ci := 2) (T := TX2) (j := 0) inX2 rfl rfl rfl (by decide) w1_159 dX2_bufferStart_5 ?_
  refine v_callVi G (As := []) (st := [.int (a1 &&& (1 : Int32)), .int (3 : Int32)]) (c_L_bufferWords l hJ hX S) (by decide) (by decide) (ci := 4) rfl rfl w2_64 w2_65 w2_66 w1_2 w2_67 qyX4_bufferWords rfl (Nat.le_of_ble_eq_true rfl) dX2_bufferStart_8 ?_
  refine v_imul G dX2_bufferStart_11 ?_
  refine v_iadd G dX2_bufferStart_12 ?_
  exact v_iret G rfl rfl dX2_bufferStart_13
/-! SensorNode$Node.stored -/
theorem qyX2_stored : yX2_stored.cls ≠ "java/lang/invoke/MethodHandle" ∧ yX2_stored.cls ≠ "java/lang/invoke/VarHandle" ∧ (parseMethodDescriptor yX2_stored.desc).map (fun d => d.parameters.length) = some 1 := by decide +kernel
noncomputable def f_N_stored (S : St) (a1 : Int32) : Int32 := (if a1 < 0 then (0 : Int32) else (if a1 < (S 7 10) then (if a1 < (nI 6219) then S 16 a1.toNatClampNeg else (0 : Int32)) else (0 : Int32)))
set_option linter.unusedVariables false in
set_option maxHeartbeats 4000000 in
set_option maxRecDepth 100000 in
theorem c_N_stored (l : Launch) {X : vD} (hJ : sh_J X) (hX : shp X = shX)  (S : St) (a1 : Int32)  : Con l X yX2_stored cX2_stored 2 (some .int) 0 [.ref (adr X 7), .int a1] S (some (.int (f_N_stored S a1)), S) := by
  refine con_of (ρ := (fun r : Int32 => ((some (.int r), S) : Option Value × St))) (K := f_N_stored S a1) hJ hX (by decide) (Nat.le_of_ble_eq_true rfl) (lv := [(0, .ref (adr X 7)), (1, .int a1)]) rfl ?_
  intro p e s m below meth c G
  have G : vG p s m _ meth c X shX "SensorNode$Node" cX2_stored 2 (some .int) := G
  unfold f_N_stored
  refine v_iload_n G 1 dX2_stored_0 rfl ?_
  refine v_if_lt G (tgt := 30) dX2_stored_1 (by decide) (fun c_1 => ?_) (fun c_1 => ?_)
  · refine v_iconst G (v := (0 : Int32)) dX2_stored_30 (by decide) ?_
    exact v_iret G rfl rfl dX2_stored_31
  · refine v_iload_n G 1 dX2_stored_4 rfl ?_
    refine v_aload_n G 0 dX2_stored_5 rfl ?_
    refine v_geti G (ci := 2) (T := TX2) (j := 10) inX2 rfl rfl rfl (by decide) w1_169 dX2_stored_6 ?_
    refine v_icmp_ge G (tgt := 30) dX2_stored_9 (by decide) (fun c_2 => ?_) (fun c_2 => ?_)
    · refine v_iconst G (v := (0 : Int32)) dX2_stored_30 (by decide) ?_
      exact v_iret G rfl rfl dX2_stored_31
    · refine v_iload_n G 1 dX2_stored_12 rfl ?_
      refine v_aload_n G 0 dX2_stored_13 rfl ?_
      refine v_getr G (ci := 2) (T := TX2) (j := 1) inX2 rfl rfl rfl (by decide) w1_160 dX2_stored_14 ?_
      refine v_alen G (ty := .int) rfl rfl dX2_stored_17 ?_
      refine v_icmp_ge G (tgt := 30) dX2_stored_18 (by decide) (fun c_3 => ?_) (fun c_3 => ?_)
      · refine v_iconst G (v := (0 : Int32)) dX2_stored_30 (by decide) ?_
        exact v_iret G rfl rfl dX2_stored_31
      · refine v_aload_n G 0 dX2_stored_21 rfl ?_
        refine v_getr G (ci := 2) (T := TX2) (j := 1) inX2 rfl rfl rfl (by decide) w1_160 dX2_stored_22 ?_
        refine v_iload_n G 1 dX2_stored_25 rfl ?_
        refine v_iald G rfl (vi_br (by assumption) (by assumption) (by decide)) dX2_stored_26 ?_
        refine v_goto G (tgt := 31) dX2_stored_27 (by decide) ?_
        exact v_iret G rfl rfl dX2_stored_31
/-! SensorNode$Node.write -/
theorem qyX2_write : yX2_write.cls ≠ "java/lang/invoke/MethodHandle" ∧ yX2_write.cls ≠ "java/lang/invoke/VarHandle" ∧ (parseMethodDescriptor yX2_write.desc).map (fun d => d.parameters.length) = some 2 := by decide +kernel
noncomputable def f_N_write (S : St) (a1 : Int32) (a2 : Int32) : St := (if a1 < 0 then S else (if a1 < (nI 6219) then bnv (st_up S 16 a1.toNatClampNeg a2) (fun S_3 => bnv (st_up S_3 9 (1 : Int32).toNatClampNeg ((S_3 9 (1 : Int32).toNatClampNeg) + (1 : Int32))) (fun S_4 => S_4)) else S))
set_option linter.unusedVariables false in
set_option maxHeartbeats 4000000 in
set_option maxRecDepth 100000 in
theorem c_N_write (l : Launch) {X : vD} (hJ : sh_J X) (hX : shp X = shX)  (S : St) (a1 : Int32) (a2 : Int32)  : Con l X yX2_write cX2_write 3 none 0 [.ref (adr X 7), .int a1, .int a2] S (none, f_N_write S a1 a2) := by
  refine con_of (ρ := (fun S : St => ((none, S) : Option Value × St))) (K := f_N_write S a1 a2) hJ hX (by decide) (Nat.le_of_ble_eq_true rfl) (lv := [(0, .ref (adr X 7)), (1, .int a1), (2, .int a2)]) rfl ?_
  intro p e s m below meth c G
  have G : vG p s m _ meth c X shX "SensorNode$Node" cX2_write 3 none := G
  unfold f_N_write
  refine v_iload_n G 1 dX2_write_0 rfl ?_
  refine v_if_lt G (tgt := 30) dX2_write_1 (by decide) (fun c_1 => ?_) (fun c_1 => ?_)
  · exact v_vret G rfl rfl dX2_write_30
  · refine v_iload_n G 1 dX2_write_4 rfl ?_
    refine v_aload_n G 0 dX2_write_5 rfl ?_
    refine v_getr G (ci := 2) (T := TX2) (j := 1) inX2 rfl rfl rfl (by decide) w1_160 dX2_write_6 ?_
    refine v_alen G (ty := .int) rfl rfl dX2_write_9 ?_
    refine v_icmp_ge G (tgt := 30) dX2_write_10 (by decide) (fun c_2 => ?_) (fun c_2 => ?_)
    · exact v_vret G rfl rfl dX2_write_30
    · refine v_aload_n G 0 dX2_write_13 rfl ?_
      refine v_getr G (ci := 2) (T := TX2) (j := 1) inX2 rfl rfl rfl (by decide) w1_160 dX2_write_14 ?_
      refine v_iload_n G 1 dX2_write_17 rfl ?_
      refine v_iload_n G 2 dX2_write_18 rfl ?_
      refine v_iast G rfl (vi_br (by assumption) (by assumption) (by decide)) dX2_write_19 (fun S_3 eS_3 => ?_)
      refine v_aload_n G 0 dX2_write_20 rfl ?_
      refine v_getr G (ci := 2) (T := TX2) (j := 3) inX2 rfl rfl rfl (by decide) w1_162 dX2_write_21 ?_
      refine v_iconst G (v := (1 : Int32)) dX2_write_24 (by decide) ?_
      refine v_dup2 G dX2_write_25 rfl rfl ?_
      refine v_iald G rfl (by unfold vp_in; decide) dX2_write_26 ?_
      refine v_iconst G (v := (1 : Int32)) dX2_write_27 (by decide) ?_
      refine v_iadd G dX2_write_28 ?_
      refine v_iast G rfl (by unfold vp_in; decide) dX2_write_29 (fun S_4 eS_4 => ?_)
      exact v_vret G rfl rfl dX2_write_30
/-! SensorNode$Node.hadPower -/
theorem qyX2_hadPower : yX2_hadPower.cls ≠ "java/lang/invoke/MethodHandle" ∧ yX2_hadPower.cls ≠ "java/lang/invoke/VarHandle" ∧ (parseMethodDescriptor yX2_hadPower.desc).map (fun d => d.parameters.length) = some 0 := by decide +kernel
noncomputable def f_N_hadPower (S : St) : Int32 := S 7 14
set_option linter.unusedVariables false in
set_option maxHeartbeats 4000000 in
set_option maxRecDepth 100000 in
theorem c_N_hadPower (l : Launch) {X : vD} (hJ : sh_J X) (hX : shp X = shX)  (S : St) (hz : narrow .boolean (.int (S 7 14)) = .int (S 7 14)) : Con l X yX2_hadPower cX2_hadPower 1 (some .boolean) 0 [.ref (adr X 7)] S (some (.int (f_N_hadPower S)), S) := by
  refine con_of (ρ := (fun r : Int32 => ((some (.int r), S) : Option Value × St))) (K := f_N_hadPower S) hJ hX (by decide) (Nat.le_of_ble_eq_true rfl) (lv := [(0, .ref (adr X 7))]) rfl ?_
  intro p e s m below meth c G
  have G : vG p s m _ meth c X shX "SensorNode$Node" cX2_hadPower 1 (some .boolean) := G
  unfold f_N_hadPower
  refine v_aload_n G 0 dX2_hadPower_0 rfl ?_
  refine v_geti G (ci := 2) (T := TX2) (j := 14) inX2 rfl rfl rfl (by decide) w1_173 dX2_hadPower_1 ?_
  exact v_zret G rfl hz rfl dX2_hadPower_4
/-! SensorNode$Node.hasPower -/
theorem qyX2_hasPower : yX2_hasPower.cls ≠ "java/lang/invoke/MethodHandle" ∧ yX2_hasPower.cls ≠ "java/lang/invoke/VarHandle" ∧ (parseMethodDescriptor yX2_hasPower.desc).map (fun d => d.parameters.length) = some 0 := by decide +kernel
noncomputable def f_N_hasPower (S : St) : Int32 := (if (1 : Int32) < (S 7 7) then (1 : Int32) else (0 : Int32))
set_option linter.unusedVariables false in
set_option maxHeartbeats 4000000 in
set_option maxRecDepth 100000 in
theorem c_N_hasPower (l : Launch) {X : vD} (hJ : sh_J X) (hX : shp X = shX)  (S : St)  : Con l X yX2_hasPower cX2_hasPower 1 (some .boolean) 0 [.ref (adr X 7)] S (some (.int (f_N_hasPower S)), S) := by
  refine con_of (ρ := (fun r : Int32 => ((some (.int r), S) : Option Value × St))) (K := f_N_hasPower S) hJ hX (by decide) (Nat.le_of_ble_eq_true rfl) (lv := [(0, .ref (adr X 7))]) rfl ?_
  intro p e s m below meth c G
  have G : vG p s m _ meth c X shX "SensorNode$Node" cX2_hasPower 1 (some .boolean) := G
  unfold f_N_hasPower
  refine v_aload_n G 0 dX2_hasPower_0 rfl ?_
  refine v_geti G (ci := 2) (T := TX2) (j := 7) inX2 rfl rfl rfl (by decide) w1_166 dX2_hasPower_1 ?_
  refine v_iconst G (v := (1 : Int32)) dX2_hasPower_4 (by decide) ?_
  refine v_icmp_le G (tgt := 12) dX2_hasPower_5 (by decide) (fun c_1 => ?_) (fun c_1 => ?_)
  · refine v_iconst G (v := (0 : Int32)) dX2_hasPower_12 (by decide) ?_
    exact v_zret G rfl rfl rfl dX2_hasPower_13
  · refine v_iconst G (v := (1 : Int32)) dX2_hasPower_8 (by decide) ?_
    refine v_goto G (tgt := 13) dX2_hasPower_9 (by decide) ?_
    exact v_zret G rfl rfl rfl dX2_hasPower_13
/-! SensorNode$Node.condition -/
theorem qyX2_condition : yX2_condition.cls ≠ "java/lang/invoke/MethodHandle" ∧ yX2_condition.cls ≠ "java/lang/invoke/VarHandle" ∧ (parseMethodDescriptor yX2_condition.desc).map (fun d => d.parameters.length) = some 0 := by decide +kernel
noncomputable def f_N_condition (S : St) : Int32 := S 7 7
set_option linter.unusedVariables false in
set_option maxHeartbeats 4000000 in
set_option maxRecDepth 100000 in
theorem c_N_condition (l : Launch) {X : vD} (hJ : sh_J X) (hX : shp X = shX)  (S : St)  : Con l X yX2_condition cX2_condition 1 (some .int) 0 [.ref (adr X 7)] S (some (.int (f_N_condition S)), S) := by
  refine con_of (ρ := (fun r : Int32 => ((some (.int r), S) : Option Value × St))) (K := f_N_condition S) hJ hX (by decide) (Nat.le_of_ble_eq_true rfl) (lv := [(0, .ref (adr X 7))]) rfl ?_
  intro p e s m below meth c G
  have G : vG p s m _ meth c X shX "SensorNode$Node" cX2_condition 1 (some .int) := G
  unfold f_N_condition
  refine v_aload_n G 0 dX2_condition_0 rfl ?_
  refine v_geti G (ci := 2) (T := TX2) (j := 7) inX2 rfl rfl rfl (by decide) w1_166 dX2_condition_1 ?_
  exact v_iret G rfl rfl dX2_condition_4
/-! SensorNode$Node.owned -/
theorem qyX2_owned : yX2_owned.cls ≠ "java/lang/invoke/MethodHandle" ∧ yX2_owned.cls ≠ "java/lang/invoke/VarHandle" ∧ (parseMethodDescriptor yX2_owned.desc).map (fun d => d.parameters.length) = some 1 := by decide +kernel
noncomputable def f_N_owned (S : St) (a1 : Int32) : Int32 := (if (f_N_hasPower S) = 0 then (0 : Int32) else (if a1 = (36 : Int32) then S 7 9 else f_G_owned S 17 18 19 16 6219 a1))
set_option linter.unusedVariables false in
set_option maxHeartbeats 4000000 in
set_option maxRecDepth 100000 in
theorem c_N_owned (l : Launch) {X : vD} (hJ : sh_J X) (hX : shp X = shX)  (S : St) (a1 : Int32)  : Con l X yX2_owned cX2_owned 2 (some .int) 1 [.ref (adr X 7), .int a1] S (some (.int (f_N_owned S a1)), S) := by
  refine con_of (ρ := (fun r : Int32 => ((some (.int r), S) : Option Value × St))) (K := f_N_owned S a1) hJ hX (by decide) (Nat.le_of_ble_eq_true rfl) (lv := [(0, .ref (adr X 7)), (1, .int a1)]) rfl ?_
  intro p e s m below meth c G
  have G : vG p s m _ meth c X shX "SensorNode$Node" cX2_owned 2 (some .int) := G
  unfold f_N_owned
  refine v_aload_n G 0 dX2_owned_0 rfl ?_
  refine v_callVi G (As := []) (st := []) (c_N_hasPower l hJ hX S) (by decide) (by decide) (ci := 2) rfl rfl w2_138 w2_140 w0_4 w1_5 w2_141 qyX2_hasPower rfl (Nat.le_of_ble_eq_true rfl) dX2_owned_1 ?_
  refine v_if_ne G (tgt := 9) dX2_owned_4 (by decide) (fun c_1 => ?_) (fun c_1 => ?_)
  · refine v_iload_n G 1 dX2_owned_9 rfl ?_
    refine v_bipush G (v := (36 : Int32)) dX2_owned_10 (by decide) ?_
    refine v_icmp_ne G (tgt := 22) dX2_owned_12 (by decide) (fun c_2 => ?_) (fun c_2 => ?_)
    · refine v_aload_n G 0 dX2_owned_22 rfl ?_
      refine v_getr G (ci := 2) (T := TX2) (j := 5) inX2 rfl rfl rfl (by decide) w1_164 dX2_owned_23 ?_
      refine v_iload_n G 1 dX2_owned_26 rfl ?_
      refine v_callVi G (As := [.int a1]) (st := []) (c_G_owned l hJ hX 17 18 19 16 6219 ⟨rfl, rfl, rfl, rfl, by decide⟩ S a1) (by decide) (by decide) (ci := 1) rfl rfl w3_30 w3_23 w3_24 w1_7 w3_25 qyX1_owned rfl (Nat.le_of_ble_eq_true rfl) dX2_owned_27 ?_
      exact v_iret G rfl rfl dX2_owned_30
    · refine v_aload_n G 0 dX2_owned_15 rfl ?_
      refine v_geti G (ci := 2) (T := TX2) (j := 9) inX2 rfl rfl rfl (by decide) w1_168 dX2_owned_16 ?_
      refine v_goto G (tgt := 30) dX2_owned_19 (by decide) ?_
      exact v_iret G rfl rfl dX2_owned_30
  · refine v_iconst G (v := (0 : Int32)) dX2_owned_7 (by decide) ?_
    exact v_iret G rfl rfl dX2_owned_8
/-! SensorNode$Node.ramByte -/
theorem qyX2_ramByte : yX2_ramByte.cls ≠ "java/lang/invoke/MethodHandle" ∧ yX2_ramByte.cls ≠ "java/lang/invoke/VarHandle" ∧ (parseMethodDescriptor yX2_ramByte.desc).map (fun d => d.parameters.length) = some 1 := by decide +kernel
noncomputable def f_N_ramByte (S : St) (a1 : Int32) : Int32 := (if (f_N_hasPower S) = 0 then (-1 : Int32) else (if (f_G_inRam S 17 18 19 16 6219 a1) = 0 then (-1 : Int32) else f_G_byteAt S 17 18 19 16 6219 a1))
set_option linter.unusedVariables false in
set_option maxHeartbeats 4000000 in
set_option maxRecDepth 100000 in
theorem c_N_ramByte (l : Launch) {X : vD} (hJ : sh_J X) (hX : shp X = shX)  (S : St) (a1 : Int32)  : Con l X yX2_ramByte cX2_ramByte 2 (some .int) 3 [.ref (adr X 7), .int a1] S (some (.int (f_N_ramByte S a1)), S) := by
  refine con_of (ρ := (fun r : Int32 => ((some (.int r), S) : Option Value × St))) (K := f_N_ramByte S a1) hJ hX (by decide) (Nat.le_of_ble_eq_true rfl) (lv := [(0, .ref (adr X 7)), (1, .int a1)]) rfl ?_
  intro p e s m below meth c G
  have G : vG p s m _ meth c X shX "SensorNode$Node" cX2_ramByte 2 (some .int) := G
  unfold f_N_ramByte
  refine v_aload_n G 0 dX2_ramByte_0 rfl ?_
  refine v_callVi G (As := []) (st := []) (c_N_hasPower l hJ hX S) (by decide) (by decide) (ci := 2) rfl rfl w2_138 w2_140 w0_4 w1_5 w2_141 qyX2_hasPower rfl (Nat.le_of_ble_eq_true rfl) dX2_ramByte_1 ?_
  refine v_if_eq G (tgt := 29) dX2_ramByte_4 (by decide) (fun c_1 => ?_) (fun c_1 => ?_)
  · refine v_iconst G (v := (-1 : Int32)) dX2_ramByte_29 (by decide) ?_
    exact v_iret G rfl rfl dX2_ramByte_30
  · refine v_aload_n G 0 dX2_ramByte_7 rfl ?_
    refine v_getr G (ci := 2) (T := TX2) (j := 5) inX2 rfl rfl rfl (by decide) w1_164 dX2_ramByte_8 ?_
    refine v_iload_n G 1 dX2_ramByte_11 rfl ?_
    refine v_callVi G (As := [.int a1]) (st := []) (c_G_inRam l hJ hX 17 18 19 16 6219 ⟨rfl, rfl, rfl, rfl, by decide⟩ S a1) (by decide) (by decide) (ci := 1) rfl rfl w3_92 w2_172 w2_173 w1_7 w2_174 qyX1_inRam rfl (Nat.le_of_ble_eq_true rfl) dX2_ramByte_12 ?_
    refine v_if_eq G (tgt := 29) dX2_ramByte_15 (by decide) (fun c_2 => ?_) (fun c_2 => ?_)
    · refine v_iconst G (v := (-1 : Int32)) dX2_ramByte_29 (by decide) ?_
      exact v_iret G rfl rfl dX2_ramByte_30
    · refine v_aload_n G 0 dX2_ramByte_18 rfl ?_
      refine v_getr G (ci := 2) (T := TX2) (j := 5) inX2 rfl rfl rfl (by decide) w1_164 dX2_ramByte_19 ?_
      refine v_iload_n G 1 dX2_ramByte_22 rfl ?_
      refine v_callVi G (As := [.int a1]) (st := []) (c_G_byteAt l hJ hX 17 18 19 16 6219 ⟨rfl, rfl, rfl, rfl, by decide⟩ S a1) (by decide) (by decide) (ci := 1) rfl rfl w3_93 w3_44 w3_45 w1_7 w3_46 qyX1_byteAt rfl (Nat.le_of_ble_eq_true rfl) dX2_ramByte_23 ?_
      refine v_goto G (tgt := 30) dX2_ramByte_26 (by decide) ?_
      exact v_iret G rfl rfl dX2_ramByte_30
/-! SensorNode$Node.size -/
theorem qyX2_size : yX2_size.cls ≠ "java/lang/invoke/MethodHandle" ∧ yX2_size.cls ≠ "java/lang/invoke/VarHandle" ∧ (parseMethodDescriptor yX2_size.desc).map (fun d => d.parameters.length) = some 0 := by decide +kernel
noncomputable def f_N_size (S : St) : Int32 := S 7 10
set_option linter.unusedVariables false in
set_option maxHeartbeats 4000000 in
set_option maxRecDepth 100000 in
theorem c_N_size (l : Launch) {X : vD} (hJ : sh_J X) (hX : shp X = shX)  (S : St)  : Con l X yX2_size cX2_size 1 (some .int) 0 [.ref (adr X 7)] S (some (.int (f_N_size S)), S) := by
  refine con_of (ρ := (fun r : Int32 => ((some (.int r), S) : Option Value × St))) (K := f_N_size S) hJ hX (by decide) (Nat.le_of_ble_eq_true rfl) (lv := [(0, .ref (adr X 7))]) rfl ?_
  intro p e s m below meth c G
  have G : vG p s m _ meth c X shX "SensorNode$Node" cX2_size 1 (some .int) := G
  unfold f_N_size
  refine v_aload_n G 0 dX2_size_0 rfl ?_
  refine v_geti G (ci := 2) (T := TX2) (j := 10) inX2 rfl rfl rfl (by decide) w1_169 dX2_size_1 ?_
  exact v_iret G rfl rfl dX2_size_4
/-! SensorNode$Node.radio -/
theorem qyX2_radio : yX2_radio.cls ≠ "java/lang/invoke/MethodHandle" ∧ yX2_radio.cls ≠ "java/lang/invoke/VarHandle" ∧ (parseMethodDescriptor yX2_radio.desc).map (fun d => d.parameters.length) = some 0 := by decide +kernel
noncomputable def f_N_radio (S : St) : Unit := ()
set_option linter.unusedVariables false in
set_option maxHeartbeats 4000000 in
set_option maxRecDepth 100000 in
theorem c_N_radio (l : Launch) {X : vD} (hJ : sh_J X) (hX : shp X = shX)  (S : St)  : Con l X yX2_radio cX2_radio 1 (some (.object RX5)) 0 [.ref (adr X 7)] S (some (.ref (adr X 10)), S) := by
  refine con_of (ρ := (fun _ : Unit => ((some (.ref (adr X 10)), S) : Option Value × St))) (K := f_N_radio S) hJ hX (by decide) (Nat.le_of_ble_eq_true rfl) (lv := [(0, .ref (adr X 7))]) rfl ?_
  intro p e s m below meth c G
  have G : vG p s m _ meth c X shX "SensorNode$Node" cX2_radio 1 (some (.object RX5)) := G
  unfold f_N_radio
  refine v_aload_n G 0 dX2_radio_0 rfl ?_
  refine v_getr G (ci := 2) (T := TX2) (j := 4) inX2 rfl rfl rfl (by decide) w1_163 dX2_radio_1 ?_
  exact v_aret G rfl rfl dX2_radio_4
/-! SensorNode$Node.counted -/
theorem qyX2_counted : yX2_counted.cls ≠ "java/lang/invoke/MethodHandle" ∧ yX2_counted.cls ≠ "java/lang/invoke/VarHandle" ∧ (parseMethodDescriptor yX2_counted.desc).map (fun d => d.parameters.length) = some 1 := by decide +kernel
noncomputable def f_N_counted (S : St) (a1 : Int32) : Int32 := (if (S 7 7) = 0 then (-1 : Int32) else (if a1 < 0 then (-1 : Int32) else (if a1 < (nI 7) then S 9 a1.toNatClampNeg else (-1 : Int32))))
set_option linter.unusedVariables false in
set_option maxHeartbeats 4000000 in
set_option maxRecDepth 100000 in
theorem c_N_counted (l : Launch) {X : vD} (hJ : sh_J X) (hX : shp X = shX)  (S : St) (a1 : Int32)  : Con l X yX2_counted cX2_counted 2 (some .int) 0 [.ref (adr X 7), .int a1] S (some (.int (f_N_counted S a1)), S) := by
  refine con_of (ρ := (fun r : Int32 => ((some (.int r), S) : Option Value × St))) (K := f_N_counted S a1) hJ hX (by decide) (Nat.le_of_ble_eq_true rfl) (lv := [(0, .ref (adr X 7)), (1, .int a1)]) rfl ?_
  intro p e s m below meth c G
  have G : vG p s m _ meth c X shX "SensorNode$Node" cX2_counted 2 (some .int) := G
  unfold f_N_counted
  refine v_aload_n G 0 dX2_counted_0 rfl ?_
  refine v_geti G (ci := 2) (T := TX2) (j := 7) inX2 rfl rfl rfl (by decide) w1_166 dX2_counted_1 ?_
  refine v_if_eq G (tgt := 29) dX2_counted_4 (by decide) (fun c_1 => ?_) (fun c_1 => ?_)
  · refine v_iconst G (v := (-1 : Int32)) dX2_counted_29 (by decide) ?_
    exact v_iret G rfl rfl dX2_counted_30
  · refine v_iload_n G 1 dX2_counted_7 rfl ?_
    refine v_if_lt G (tgt := 29) dX2_counted_8 (by decide) (fun c_2 => ?_) (fun c_2 => ?_)
    · refine v_iconst G (v := (-1 : Int32)) dX2_counted_29 (by decide) ?_
      exact v_iret G rfl rfl dX2_counted_30
    · refine v_iload_n G 1 dX2_counted_11 rfl ?_
      refine v_aload_n G 0 dX2_counted_12 rfl ?_
      refine v_getr G (ci := 2) (T := TX2) (j := 3) inX2 rfl rfl rfl (by decide) w1_162 dX2_counted_13 ?_
      refine v_alen G (ty := .int) rfl rfl dX2_counted_16 ?_
      refine v_icmp_ge G (tgt := 29) dX2_counted_17 (by decide) (fun c_3 => ?_) (fun c_3 => ?_)
      · refine v_iconst G (v := (-1 : Int32)) dX2_counted_29 (by decide) ?_
        exact v_iret G rfl rfl dX2_counted_30
      · refine v_aload_n G 0 dX2_counted_20 rfl ?_
        refine v_getr G (ci := 2) (T := TX2) (j := 3) inX2 rfl rfl rfl (by decide) w1_162 dX2_counted_21 ?_
        refine v_iload_n G 1 dX2_counted_24 rfl ?_
        refine v_iald G rfl (vi_br (by assumption) (by assumption) (by decide)) dX2_counted_25 ?_
        refine v_goto G (tgt := 30) dX2_counted_26 (by decide) ?_
        exact v_iret G rfl rfl dX2_counted_30
/-! SensorNode$Node.strayed -/
theorem qyX2_strayed : yX2_strayed.cls ≠ "java/lang/invoke/MethodHandle" ∧ yX2_strayed.cls ≠ "java/lang/invoke/VarHandle" ∧ (parseMethodDescriptor yX2_strayed.desc).map (fun d => d.parameters.length) = some 0 := by decide +kernel
noncomputable def f_N_strayed (S : St) : Int32 := S 7 13
set_option linter.unusedVariables false in
set_option maxHeartbeats 4000000 in
set_option maxRecDepth 100000 in
theorem c_N_strayed (l : Launch) {X : vD} (hJ : sh_J X) (hX : shp X = shX)  (S : St)  : Con l X yX2_strayed cX2_strayed 1 (some .int) 0 [.ref (adr X 7)] S (some (.int (f_N_strayed S)), S) := by
  refine con_of (ρ := (fun r : Int32 => ((some (.int r), S) : Option Value × St))) (K := f_N_strayed S) hJ hX (by decide) (Nat.le_of_ble_eq_true rfl) (lv := [(0, .ref (adr X 7))]) rfl ?_
  intro p e s m below meth c G
  have G : vG p s m _ meth c X shX "SensorNode$Node" cX2_strayed 1 (some .int) := G
  unfold f_N_strayed
  refine v_aload_n G 0 dX2_strayed_0 rfl ?_
  refine v_geti G (ci := 2) (T := TX2) (j := 13) inX2 rfl rfl rfl (by decide) w1_172 dX2_strayed_1 ?_
  exact v_iret G rfl rfl dX2_strayed_4
/-! SensorNode$Node.makeNew -/
theorem qyX2_makeNew : yX2_makeNew.cls ≠ "java/lang/invoke/MethodHandle" ∧ yX2_makeNew.cls ≠ "java/lang/invoke/VarHandle" ∧ (parseMethodDescriptor yX2_makeNew.desc).map (fun d => d.parameters.length) = some 0 := by decide +kernel
noncomputable def f_N_makeNew_117 : Nat → St → Int32 → St
  | 0, S, _ => S
  | fn + 1, S, v1 => (if v1 < (nI 7) then bnv (st_up S 9 v1.toNatClampNeg (0 : Int32)) (fun S_1123 => (f_N_makeNew_117 fn S_1123 (v1 + (1 : Int32)))) else bnv (f_R_clear S 10 11 12 13 14 15) (fun S_1119 => bnv (st_up S_1119 7 13 (0 : Int32)) (fun S_1120 => bnv (st_up S_1120 7 14 (0 : Int32)) (fun S_1121 => bnv (st_up S_1121 7 7 (1 : Int32)) (fun S_1122 => S_1122)))))
set_option linter.unusedVariables false in
set_option maxHeartbeats 4000000 in
set_option maxRecDepth 100000 in
theorem v_N_makeNew_117 {p : Program} {l : Launch} {e : Env} {s : State} {m : MethodId} {args : Array Value} {below : List Frame} {meth : Method} {c : Code} {X : vD}  (hJ : sh_J X) (hX : shp X = shX) (G : vG p s m args meth c X shX "SensorNode$Node" cX2_makeNew 2 none)  : ∀ (fuel : Nat) (S : St) (v1 : Int32) , ((nI 7).toInt - v1.toInt).toNat < fuel → ¬ v1 < 0 → V p l e 1 s m args below meth c X 2 (fun S : St => ((none, S) : Option Value × St)) S 117 [(0, .ref (adr X 7)), (1, .int v1)] [] (f_N_makeNew_117 fuel S v1) := by
  intro fuel
  induction fuel with
  | zero =>
    intro S v1 hm hi
    exact absurd hm (Nat.not_lt_zero _)
  | succ fn ih =>
    intro S v1 hm hi
    rw [f_N_makeNew_117]
    refine v_iload_n G 1 dX2_makeNew_117 rfl ?_
    refine v_aload_n G 0 dX2_makeNew_118 rfl ?_
    refine v_getr G (ci := 2) (T := TX2) (j := 3) inX2 rfl rfl rfl (by decide) w1_162 dX2_makeNew_119 ?_
    refine v_alen G (ty := .int) rfl rfl dX2_makeNew_122 ?_
    refine v_icmp_ge G (tgt := 139) dX2_makeNew_123 (by decide) (fun c_1118 => ?_) (fun c_1118 => ?_)
    · refine v_aload_n G 0 dX2_makeNew_139 rfl ?_
      refine v_getr G (ci := 2) (T := TX2) (j := 4) inX2 rfl rfl rfl (by decide) w1_163 dX2_makeNew_140 ?_
      refine v_callVv G (As := []) (st := []) (c_R_clear l hJ hX 10 11 12 13 14 15 ⟨rfl, rfl, rfl, rfl, rfl, rfl, by decide⟩ S) (by decide) (by decide) (ci := 5) rfl rfl w2_76 w2_77 w2_78 w1_6 w2_79 qyX5_clear rfl (Nat.le_of_ble_eq_true rfl) dX2_makeNew_143 ?_
      refine v_bnv (fun S_1119 eS_1119 => ?_)
      refine v_aload_n G 0 dX2_makeNew_146 rfl ?_
      refine v_iconst G (v := (0 : Int32)) dX2_makeNew_147 (by decide) ?_
      refine v_puti G (ci := 2) (T := TX2) (j := 13) inX2 rfl rfl tyX2_ok nmX2 rfl (by decide) rfl rfl rfl w1_172 dX2_makeNew_148 (fun S_1120 eS_1120 => ?_)
      refine v_aload_n G 0 dX2_makeNew_151 rfl ?_
      refine v_iconst G (v := (0 : Int32)) dX2_makeNew_152 (by decide) ?_
      refine v_puti G (ci := 2) (T := TX2) (j := 14) inX2 rfl rfl tyX2_ok nmX2 rfl (by decide) rfl rfl rfl w1_173 dX2_makeNew_153 (fun S_1121 eS_1121 => ?_)
      refine v_aload_n G 0 dX2_makeNew_156 rfl ?_
      refine v_iconst G (v := (1 : Int32)) dX2_makeNew_157 (by decide) ?_
      refine v_puti G (ci := 2) (T := TX2) (j := 7) inX2 rfl rfl tyX2_ok nmX2 rfl (by decide) rfl rfl rfl w1_166 dX2_makeNew_158 (fun S_1122 eS_1122 => ?_)
      exact v_vret G rfl rfl dX2_makeNew_161
    · refine v_aload_n G 0 dX2_makeNew_126 rfl ?_
      refine v_getr G (ci := 2) (T := TX2) (j := 3) inX2 rfl rfl rfl (by decide) w1_162 dX2_makeNew_127 ?_
      refine v_iload_n G 1 dX2_makeNew_130 rfl ?_
      refine v_iconst G (v := (0 : Int32)) dX2_makeNew_131 (by decide) ?_
      refine v_iast G rfl (vi_br (by assumption) (by assumption) (by decide)) dX2_makeNew_132 (fun S_1123 eS_1123 => ?_)
      refine v_iinc G (v := v1 + (1 : Int32)) 1 [(1, .int (v1 + (1 : Int32))), (0, .ref (adr X 7))] dX2_makeNew_133 rfl rfl (by decide) rfl ?_
      refine v_goto G (tgt := 117) dX2_makeNew_136 (by decide) ?_
      exact v_sub (lv' := [(0, .ref (adr X 7)), (1, .int (v1 + (1 : Int32)))]) [1, 0] rfl (ih S_1123 (v1 + (1 : Int32)) (lp_m (by assumption) hm) (lp_nn (by assumption) hi))
noncomputable def f_N_makeNew_53 : Nat → St → Int32 → St
  | 0, S, _ => S
  | fn + 1, S, v1 => (if v1 < (nI 6219) then bnv (st_up S 16 v1.toNatClampNeg (0 : Int32)) (fun S_1058 => (f_N_makeNew_53 fn S_1058 (v1 + (1 : Int32)))) else bnv (st_up S 16 (35 : Int32).toNatClampNeg (S 1 8)) (fun S_1055 => bnv (f_L_copyImage S_1055 16 6219 (S_1055 7 12)) (fun S_1056 => bnv (f_G_setStoreStart S_1056 17 18 19 16 6219 (S_1056 7 12)) (fun S_1057 => (f_N_makeNew_117 fuz S_1057 (0 : Int32))))))
set_option linter.unusedVariables false in
set_option maxHeartbeats 4000000 in
set_option maxRecDepth 100000 in
theorem v_N_makeNew_53 {p : Program} {l : Launch} {e : Env} {s : State} {m : MethodId} {args : Array Value} {below : List Frame} {meth : Method} {c : Code} {X : vD}  (hJ : sh_J X) (hX : shp X = shX) (G : vG p s m args meth c X shX "SensorNode$Node" cX2_makeNew 2 none)  : ∀ (fuel : Nat) (S : St) (v1 : Int32) , ((nI 6219).toInt - v1.toInt).toNat < fuel → ¬ v1 < 0 → V p l e 1 s m args below meth c X 2 (fun S : St => ((none, S) : Option Value × St)) S 53 [(0, .ref (adr X 7)), (1, .int v1)] [] (f_N_makeNew_53 fuel S v1) := by
  intro fuel
  induction fuel with
  | zero =>
    intro S v1 hm hi
    exact absurd hm (Nat.not_lt_zero _)
  | succ fn ih =>
    intro S v1 hm hi
    rw [f_N_makeNew_53]
    refine v_iload_n G 1 dX2_makeNew_53 rfl ?_
    refine v_aload_n G 0 dX2_makeNew_54 rfl ?_
    refine v_getr G (ci := 2) (T := TX2) (j := 1) inX2 rfl rfl rfl (by decide) w1_160 dX2_makeNew_55 ?_
    refine v_alen G (ty := .int) rfl rfl dX2_makeNew_58 ?_
    refine v_icmp_ge G (tgt := 75) dX2_makeNew_59 (by decide) (fun c_1054 => ?_) (fun c_1054 => ?_)
    · refine v_aload_n G 0 dX2_makeNew_75 rfl ?_
      refine v_getr G (ci := 2) (T := TX2) (j := 1) inX2 rfl rfl rfl (by decide) w1_160 dX2_makeNew_76 ?_
      refine v_bipush G (v := (35 : Int32)) dX2_makeNew_79 (by decide) ?_
      refine v_aload_n G 0 dX2_makeNew_81 rfl ?_
      refine v_getr G (ci := 2) (T := TX2) (j := 0) inX2 rfl rfl rfl (by decide) w1_159 dX2_makeNew_82 ?_
      refine v_getNi G (ci := 4) (T := TX4) (j := 8) inX4 rfl rfl rfl (by decide) (host := "SensorNode") (List.mem_of_getElem? (i := 6) rfl) dX2_makeNew_85 ?_
      refine v_iast G rfl (by unfold vp_in; decide) dX2_makeNew_88 (fun S_1055 eS_1055 => ?_)
      refine v_aload_n G 0 dX2_makeNew_89 rfl ?_
      refine v_getr G (ci := 2) (T := TX2) (j := 0) inX2 rfl rfl rfl (by decide) w1_159 dX2_makeNew_90 ?_
      refine v_aload_n G 0 dX2_makeNew_93 rfl ?_
      refine v_getr G (ci := 2) (T := TX2) (j := 1) inX2 rfl rfl rfl (by decide) w1_160 dX2_makeNew_94 ?_
      refine v_aload_n G 0 dX2_makeNew_97 rfl ?_
      refine v_geti G (ci := 2) (T := TX2) (j := 12) inX2 rfl rfl rfl (by decide) w1_171 dX2_makeNew_98 ?_
      refine v_callVv G (As := [.ref (adr X 16), .int (S_1055 7 12)]) (st := []) (c_L_copyImage l hJ hX 16 6219 ⟨rfl, by decide⟩ S_1055 (S_1055 7 12)) (by decide) (by decide) (ci := 4) rfl rfl w2_68 w2_69 w2_70 w1_2 w2_71 qyX4_copyImage rfl (Nat.le_of_ble_eq_true rfl) dX2_makeNew_101 ?_
      refine v_bnv (fun S_1056 eS_1056 => ?_)
      refine v_aload_n G 0 dX2_makeNew_104 rfl ?_
      refine v_getr G (ci := 2) (T := TX2) (j := 5) inX2 rfl rfl rfl (by decide) w1_164 dX2_makeNew_105 ?_
      refine v_aload_n G 0 dX2_makeNew_108 rfl ?_
      refine v_geti G (ci := 2) (T := TX2) (j := 12) inX2 rfl rfl rfl (by decide) w1_171 dX2_makeNew_109 ?_
      refine v_callVv G (As := [.int (S_1056 7 12)]) (st := []) (c_G_setStoreStart l hJ hX 17 18 19 16 6219 ⟨rfl, rfl, rfl, rfl, by decide⟩ S_1056 (S_1056 7 12)) (by decide) (by decide) (ci := 1) rfl rfl w2_72 w2_73 w2_74 w1_7 w2_75 qyX1_setStoreStart rfl (Nat.le_of_ble_eq_true rfl) dX2_makeNew_112 ?_
      refine v_bnv (fun S_1057 eS_1057 => ?_)
      refine v_iconst G (v := (0 : Int32)) dX2_makeNew_115 (by decide) ?_
      refine v_istore_n G [(1, .int (0 : Int32)), (0, .ref (adr X 7))] dX2_makeNew_116 (by decide) rfl ?_
      exact v_sub (lv' := [(0, .ref (adr X 7)), (1, .int (0 : Int32))]) [1, 0] rfl (v_N_makeNew_117 hJ hX G fuz S_1057 (0 : Int32) (lp_z _ _) (by decide))
    · refine v_aload_n G 0 dX2_makeNew_62 rfl ?_
      refine v_getr G (ci := 2) (T := TX2) (j := 1) inX2 rfl rfl rfl (by decide) w1_160 dX2_makeNew_63 ?_
      refine v_iload_n G 1 dX2_makeNew_66 rfl ?_
      refine v_iconst G (v := (0 : Int32)) dX2_makeNew_67 (by decide) ?_
      refine v_iast G rfl (vi_br (by assumption) (by assumption) (by decide)) dX2_makeNew_68 (fun S_1058 eS_1058 => ?_)
      refine v_iinc G (v := v1 + (1 : Int32)) 1 [(1, .int (v1 + (1 : Int32))), (0, .ref (adr X 7))] dX2_makeNew_69 rfl rfl (by decide) rfl ?_
      refine v_goto G (tgt := 53) dX2_makeNew_72 (by decide) ?_
      exact v_sub (lv' := [(0, .ref (adr X 7)), (1, .int (v1 + (1 : Int32)))]) [1, 0] rfl (ih S_1058 (v1 + (1 : Int32)) (lp_m (by assumption) hm) (lp_nn (by assumption) hi))
noncomputable def f_N_makeNew (S : St) : St := bnv (st_up S 7 11 ((3 : Int32) + ((2 : Int32) * (f_L_bufferWords S)))) (fun S_1 => bnv (st_up S_1 7 12 ((S_1 7 11) + ((2 : Int32) * (S_1 1 6)))) (fun S_2 => bnv (st_up S_2 7 10 ((S_2 7 12) + ((S_2 1 5) / (4 : Int32)))) (fun S_3 => (f_N_makeNew_53 fuz S_3 (0 : Int32)))))
set_option linter.unusedVariables false in
set_option maxHeartbeats 4000000 in
set_option maxRecDepth 100000 in
theorem c_N_makeNew (l : Launch) {X : vD} (hJ : sh_J X) (hX : shp X = shX)  (S : St)  : Con l X yX2_makeNew cX2_makeNew 2 none 1 [.ref (adr X 7)] S (none, f_N_makeNew S) := by
  refine con_of (ρ := (fun S : St => ((none, S) : Option Value × St))) (K := f_N_makeNew S) hJ hX (by decide) (Nat.le_of_ble_eq_true rfl) (lv := [(0, .ref (adr X 7))]) rfl ?_
  intro p e s m below meth c G
  have G : vG p s m _ meth c X shX "SensorNode$Node" cX2_makeNew 2 none := G
  unfold f_N_makeNew
  refine v_aload_n G 0 dX2_makeNew_0 rfl ?_
  refine v_iconst G (v := (3 : Int32)) dX2_makeNew_1 (by decide) ?_
  refine v_iconst G (v := (2 : Int32)) dX2_makeNew_2 (by decide) ?_
  refine v_aload_n G 0 dX2_makeNew_3 rfl ?_
  refine v_getr G (ci := 2) (T := TX2) (j := 0) inX2 rfl rfl rfl (by decide) w1_159 dX2_makeNew_4 ?_
  refine v_callVi G (As := []) (st := [.int (2 : Int32), .int (3 : Int32), .ref (adr X 7)]) (c_L_bufferWords l hJ hX S) (by decide) (by decide) (ci := 4) rfl rfl w2_64 w2_65 w2_66 w1_2 w2_67 qyX4_bufferWords rfl (Nat.le_of_ble_eq_true rfl) dX2_makeNew_7 ?_
  refine v_imul G dX2_makeNew_10 ?_
  refine v_iadd G dX2_makeNew_11 ?_
  refine v_puti G (ci := 2) (T := TX2) (j := 11) inX2 rfl rfl tyX2_ok nmX2 rfl (by decide) rfl rfl rfl w1_170 dX2_makeNew_12 (fun S_1 eS_1 => ?_)
  refine v_aload_n G 0 dX2_makeNew_15 rfl ?_
  refine v_aload_n G 0 dX2_makeNew_16 rfl ?_
  refine v_geti G (ci := 2) (T := TX2) (j := 11) inX2 rfl rfl rfl (by decide) w1_170 dX2_makeNew_17 ?_
  refine v_iconst G (v := (2 : Int32)) dX2_makeNew_20 (by decide) ?_
  refine v_aload_n G 0 dX2_makeNew_21 rfl ?_
  refine v_getr G (ci := 2) (T := TX2) (j := 0) inX2 rfl rfl rfl (by decide) w1_159 dX2_makeNew_22 ?_
  refine v_getNi G (ci := 4) (T := TX4) (j := 6) inX4 rfl rfl rfl (by decide) (host := "SensorNode") (List.mem_of_getElem? (i := 4) rfl) dX2_makeNew_25 ?_
  refine v_imul G dX2_makeNew_28 ?_
  refine v_iadd G dX2_makeNew_29 ?_
  refine v_puti G (ci := 2) (T := TX2) (j := 12) inX2 rfl rfl tyX2_ok nmX2 rfl (by decide) rfl rfl rfl w1_171 dX2_makeNew_30 (fun S_2 eS_2 => ?_)
  refine v_aload_n G 0 dX2_makeNew_33 rfl ?_
  refine v_aload_n G 0 dX2_makeNew_34 rfl ?_
  refine v_geti G (ci := 2) (T := TX2) (j := 12) inX2 rfl rfl rfl (by decide) w1_171 dX2_makeNew_35 ?_
  refine v_aload_n G 0 dX2_makeNew_38 rfl ?_
  refine v_getr G (ci := 2) (T := TX2) (j := 0) inX2 rfl rfl rfl (by decide) w1_159 dX2_makeNew_39 ?_
  refine v_getNi G (ci := 4) (T := TX4) (j := 5) inX4 rfl rfl rfl (by decide) (host := "SensorNode") (List.mem_of_getElem? (i := 2) rfl) dX2_makeNew_42 ?_
  refine v_iconst G (v := (4 : Int32)) dX2_makeNew_45 (by decide) ?_
  refine v_idiv G dX2_makeNew_46 (by decide) ?_
  refine v_iadd G dX2_makeNew_47 ?_
  refine v_puti G (ci := 2) (T := TX2) (j := 10) inX2 rfl rfl tyX2_ok nmX2 rfl (by decide) rfl rfl rfl w1_169 dX2_makeNew_48 (fun S_3 eS_3 => ?_)
  refine v_iconst G (v := (0 : Int32)) dX2_makeNew_51 (by decide) ?_
  refine v_istore_n G [(1, .int (0 : Int32)), (0, .ref (adr X 7))] dX2_makeNew_52 (by decide) rfl ?_
  exact v_sub (lv' := [(0, .ref (adr X 7)), (1, .int (0 : Int32))]) [1, 0] rfl (v_N_makeNew_53 hJ hX G fuz S_3 (0 : Int32) (lp_z _ _) (by decide))
/-! SensorNode$Node.meetLog -/
theorem qyX2_meetLog : yX2_meetLog.cls ≠ "java/lang/invoke/MethodHandle" ∧ yX2_meetLog.cls ≠ "java/lang/invoke/VarHandle" ∧ (parseMethodDescriptor yX2_meetLog.desc).map (fun d => d.parameters.length) = some 0 := by decide +kernel
noncomputable def f_N_meetLog (S : St) : St := bnx (ush (S 16 (1 : Int32).toNatClampNeg) (16 : Int32)) (fun x_1 => (if x_1 = (f_N_generation S) then (if x_1 = (f_N_generation S) then (if 0 < (f_N_entriesThatCount S) then bnv (st_up S 7 7 (2 : Int32)) (fun S_7 => S_7) else bnv (st_up S 7 7 (3 : Int32)) (fun S_6 => S_6)) else bnv (st_up S 7 7 (2 : Int32)) (fun S_4 => S_4)) else (if x_1 = (((f_N_generation S) - (1 : Int32)) &&& (65535 : Int32)) then (if x_1 = (f_N_generation S) then (if 0 < (f_N_entriesThatCount S) then bnv (st_up S 7 7 (2 : Int32)) (fun S_13 => S_13) else bnv (st_up S 7 7 (3 : Int32)) (fun S_12 => S_12)) else bnv (st_up S 7 7 (2 : Int32)) (fun S_10 => S_10)) else bnv (st_up S 7 13 ((S 7 13) + (1 : Int32))) (fun S_14 => (if x_1 = (f_N_generation S_14) then (if 0 < (f_N_entriesThatCount S_14) then bnv (st_up S_14 7 7 (2 : Int32)) (fun S_19 => S_19) else bnv (st_up S_14 7 7 (3 : Int32)) (fun S_18 => S_18)) else bnv (st_up S_14 7 7 (2 : Int32)) (fun S_16 => S_16))))))
set_option linter.unusedVariables false in
set_option maxHeartbeats 4000000 in
set_option maxRecDepth 100000 in
theorem c_N_meetLog (l : Launch) {X : vD} (hJ : sh_J X) (hX : shp X = shX)  (S : St)  : Con l X yX2_meetLog cX2_meetLog 2 none 1 [.ref (adr X 7)] S (none, f_N_meetLog S) := by
  refine con_of (ρ := (fun S : St => ((none, S) : Option Value × St))) (K := f_N_meetLog S) hJ hX (by decide) (Nat.le_of_ble_eq_true rfl) (lv := [(0, .ref (adr X 7))]) rfl ?_
  intro p e s m below meth c G
  have G : vG p s m _ meth c X shX "SensorNode$Node" cX2_meetLog 2 none := G
  unfold f_N_meetLog
  refine v_aload_n G 0 dX2_meetLog_0 rfl ?_
  refine v_getr G (ci := 2) (T := TX2) (j := 1) inX2 rfl rfl rfl (by decide) w1_160 dX2_meetLog_1 ?_
  refine v_iconst G (v := (1 : Int32)) dX2_meetLog_4 (by decide) ?_
  refine v_iald G rfl (by unfold vp_in; decide) dX2_meetLog_5 ?_
  refine v_bipush G (v := (16 : Int32)) dX2_meetLog_6 (by decide) ?_
  refine v_iushr G dX2_meetLog_8 ?_
  refine v_namei (fun x_1 ex_1 => ?_)
  refine v_istore_n G [(1, .int x_1), (0, .ref (adr X 7))] dX2_meetLog_9 (by decide) rfl ?_
  refine v_iload_n G 0 dX2_meetLog_10 rfl ?_
  refine v_aload_n G 1 dX2_meetLog_11 rfl ?_
  refine v_callVi G (As := []) (st := [.int x_1]) (c_N_generation l hJ hX S) (by decide) (by decide) (ci := 2) rfl rfl w2_105 w2_107 w0_0 w1_5 w2_108 qyX2_generation rfl (Nat.le_of_ble_eq_true rfl) dX2_meetLog_12 ?_
  refine v_icmp_eq G (tgt := 41) dX2_meetLog_15 (by decide) (fun c_2 => ?_) (fun c_2 => ?_)
  · refine v_aload_n G 1 dX2_meetLog_41 rfl ?_
    refine v_iload_n G 0 dX2_meetLog_42 rfl ?_
    refine v_aload_n G 1 dX2_meetLog_43 rfl ?_
    refine v_callVi G (As := []) (st := [.int x_1, .ref (adr X 7)]) (c_N_generation l hJ hX S) (by decide) (by decide) (ci := 2) rfl rfl w2_105 w2_107 w0_0 w1_5 w2_108 qyX2_generation rfl (Nat.le_of_ble_eq_true rfl) dX2_meetLog_44 ?_
    refine v_icmp_ne G (tgt := 57) dX2_meetLog_47 (by decide) (fun c_3 => ?_) (fun c_3 => ?_)
    · refine v_iconst G (v := (2 : Int32)) dX2_meetLog_57 (by decide) ?_
      refine v_goto G (tgt := 62) dX2_meetLog_58 (by decide) ?_
      refine v_puti G (ci := 2) (T := TX2) (j := 7) inX2 rfl rfl tyX2_ok nmX2 rfl (by decide) rfl rfl rfl w1_166 dX2_meetLog_62 (fun S_4 eS_4 => ?_)
      exact v_vret G rfl rfl dX2_meetLog_65
    · refine v_aload_n G 1 dX2_meetLog_50 rfl ?_
      refine v_callVi G (As := []) (st := [.ref (adr X 7)]) (c_N_entriesThatCount l hJ hX S) (by decide) (by decide) (ci := 2) rfl rfl w2_126 w2_128 w0_3 w1_5 w2_129 qyX2_entriesThatCount rfl (Nat.le_of_ble_eq_true rfl) dX2_meetLog_51 ?_
      refine v_if_le G (tgt := 61) dX2_meetLog_54 (by decide) (fun c_5 => ?_) (fun c_5 => ?_)
      · refine v_iconst G (v := (3 : Int32)) dX2_meetLog_61 (by decide) ?_
        refine v_puti G (ci := 2) (T := TX2) (j := 7) inX2 rfl rfl tyX2_ok nmX2 rfl (by decide) rfl rfl rfl w1_166 dX2_meetLog_62 (fun S_6 eS_6 => ?_)
        exact v_vret G rfl rfl dX2_meetLog_65
      · refine v_iconst G (v := (2 : Int32)) dX2_meetLog_57 (by decide) ?_
        refine v_goto G (tgt := 62) dX2_meetLog_58 (by decide) ?_
        refine v_puti G (ci := 2) (T := TX2) (j := 7) inX2 rfl rfl tyX2_ok nmX2 rfl (by decide) rfl rfl rfl w1_166 dX2_meetLog_62 (fun S_7 eS_7 => ?_)
        exact v_vret G rfl rfl dX2_meetLog_65
  · refine v_iload_n G 0 dX2_meetLog_18 rfl ?_
    refine v_aload_n G 1 dX2_meetLog_19 rfl ?_
    refine v_callVi G (As := []) (st := [.int x_1]) (c_N_generation l hJ hX S) (by decide) (by decide) (ci := 2) rfl rfl w2_105 w2_107 w0_0 w1_5 w2_108 qyX2_generation rfl (Nat.le_of_ble_eq_true rfl) dX2_meetLog_20 ?_
    refine v_iconst G (v := (1 : Int32)) dX2_meetLog_23 (by decide) ?_
    refine v_isub G dX2_meetLog_24 ?_
    refine v_ldc G (v := (65535 : Int32)) dX2_meetLog_25 w2_109 ?_
    refine v_iand G dX2_meetLog_27 ?_
    refine v_icmp_eq G (tgt := 41) dX2_meetLog_28 (by decide) (fun c_8 => ?_) (fun c_8 => ?_)
    · refine v_aload_n G 1 dX2_meetLog_41 rfl ?_
      refine v_iload_n G 0 dX2_meetLog_42 rfl ?_
      refine v_aload_n G 1 dX2_meetLog_43 rfl ?_
      refine v_callVi G (As := []) (st := [.int x_1, .ref (adr X 7)]) (c_N_generation l hJ hX S) (by decide) (by decide) (ci := 2) rfl rfl w2_105 w2_107 w0_0 w1_5 w2_108 qyX2_generation rfl (Nat.le_of_ble_eq_true rfl) dX2_meetLog_44 ?_
      refine v_icmp_ne G (tgt := 57) dX2_meetLog_47 (by decide) (fun c_9 => ?_) (fun c_9 => ?_)
      · refine v_iconst G (v := (2 : Int32)) dX2_meetLog_57 (by decide) ?_
        refine v_goto G (tgt := 62) dX2_meetLog_58 (by decide) ?_
        refine v_puti G (ci := 2) (T := TX2) (j := 7) inX2 rfl rfl tyX2_ok nmX2 rfl (by decide) rfl rfl rfl w1_166 dX2_meetLog_62 (fun S_10 eS_10 => ?_)
        exact v_vret G rfl rfl dX2_meetLog_65
      · refine v_aload_n G 1 dX2_meetLog_50 rfl ?_
        refine v_callVi G (As := []) (st := [.ref (adr X 7)]) (c_N_entriesThatCount l hJ hX S) (by decide) (by decide) (ci := 2) rfl rfl w2_126 w2_128 w0_3 w1_5 w2_129 qyX2_entriesThatCount rfl (Nat.le_of_ble_eq_true rfl) dX2_meetLog_51 ?_
        refine v_if_le G (tgt := 61) dX2_meetLog_54 (by decide) (fun c_11 => ?_) (fun c_11 => ?_)
        · refine v_iconst G (v := (3 : Int32)) dX2_meetLog_61 (by decide) ?_
          refine v_puti G (ci := 2) (T := TX2) (j := 7) inX2 rfl rfl tyX2_ok nmX2 rfl (by decide) rfl rfl rfl w1_166 dX2_meetLog_62 (fun S_12 eS_12 => ?_)
          exact v_vret G rfl rfl dX2_meetLog_65
        · refine v_iconst G (v := (2 : Int32)) dX2_meetLog_57 (by decide) ?_
          refine v_goto G (tgt := 62) dX2_meetLog_58 (by decide) ?_
          refine v_puti G (ci := 2) (T := TX2) (j := 7) inX2 rfl rfl tyX2_ok nmX2 rfl (by decide) rfl rfl rfl w1_166 dX2_meetLog_62 (fun S_13 eS_13 => ?_)
          exact v_vret G rfl rfl dX2_meetLog_65
    · refine v_aload_n G 1 dX2_meetLog_31 rfl ?_
      refine v_dup G dX2_meetLog_32 rfl ?_
      refine v_geti G (ci := 2) (T := TX2) (j := 13) inX2 rfl rfl rfl (by decide) w1_172 dX2_meetLog_33 ?_
      refine v_iconst G (v := (1 : Int32)) dX2_meetLog_36 (by decide) ?_
      refine v_iadd G dX2_meetLog_37 ?_
      refine v_puti G (ci := 2) (T := TX2) (j := 13) inX2 rfl rfl tyX2_ok nmX2 rfl (by decide) rfl rfl rfl w1_172 dX2_meetLog_38 (fun S_14 eS_14 => ?_)
      refine v_aload_n G 1 dX2_meetLog_41 rfl ?_
      refine v_iload_n G 0 dX2_meetLog_42 rfl ?_
      refine v_aload_n G 1 dX2_meetLog_43 rfl ?_
      refine v_callVi G (As := []) (st := [.int x_1, .ref (adr X 7)]) (c_N_generation l hJ hX S_14) (by decide) (by decide) (ci := 2) rfl rfl w2_105 w2_107 w0_0 w1_5 w2_108 qyX2_generation rfl (Nat.le_of_ble_eq_true rfl) dX2_meetLog_44 ?_
      refine v_icmp_ne G (tgt := 57) dX2_meetLog_47 (by decide) (fun c_15 => ?_) (fun c_15 => ?_)
      · refine v_iconst G (v := (2 : Int32)) dX2_meetLog_57 (by decide) ?_
        refine v_goto G (tgt := 62) dX2_meetLog_58 (by decide) ?_
        refine v_puti G (ci := 2) (T := TX2) (j := 7) inX2 rfl rfl tyX2_ok nmX2 rfl (by decide) rfl rfl rfl w1_166 dX2_meetLog_62 (fun S_16 eS_16 => ?_)
        exact v_vret G rfl rfl dX2_meetLog_65
      · refine v_aload_n G 1 dX2_meetLog_50 rfl ?_
        refine v_callVi G (As := []) (st := [.ref (adr X 7)]) (c_N_entriesThatCount l hJ hX S_14) (by decide) (by decide) (ci := 2) rfl rfl w2_126 w2_128 w0_3 w1_5 w2_129 qyX2_entriesThatCount rfl (Nat.le_of_ble_eq_true rfl) dX2_meetLog_51 ?_
        refine v_if_le G (tgt := 61) dX2_meetLog_54 (by decide) (fun c_17 => ?_) (fun c_17 => ?_)
        · refine v_iconst G (v := (3 : Int32)) dX2_meetLog_61 (by decide) ?_
          refine v_puti G (ci := 2) (T := TX2) (j := 7) inX2 rfl rfl tyX2_ok nmX2 rfl (by decide) rfl rfl rfl w1_166 dX2_meetLog_62 (fun S_18 eS_18 => ?_)
          exact v_vret G rfl rfl dX2_meetLog_65
        · refine v_iconst G (v := (2 : Int32)) dX2_meetLog_57 (by decide) ?_
          refine v_goto G (tgt := 62) dX2_meetLog_58 (by decide) ?_
          refine v_puti G (ci := 2) (T := TX2) (j := 7) inX2 rfl rfl tyX2_ok nmX2 rfl (by decide) rfl rfl rfl w1_166 dX2_meetLog_62 (fun S_19 eS_19 => ?_)
          exact v_vret G rfl rfl dX2_meetLog_65
/-! SensorNode$Node.givePower -/
theorem qyX2_givePower : yX2_givePower.cls ≠ "java/lang/invoke/MethodHandle" ∧ yX2_givePower.cls ≠ "java/lang/invoke/VarHandle" ∧ (parseMethodDescriptor yX2_givePower.desc).map (fun d => d.parameters.length) = some 0 := by decide +kernel
noncomputable def f_N_givePower_46 : Nat → St → Int32 → Int32 → Int32 × St
  | 0, S, _, _ => (0, S)
  | fn + 1, S, v1, v2 => (if v2 < (f_L_bufferWords S) then bnv (f_G_restore S 17 18 19 16 6219 v2 (f_N_stored S (v1 + v2))) (fun S_1049 => (f_N_givePower_46 fn S_1049 v1 (v2 + (1 : Int32)))) else bnv (f_N_meetLog S) (fun S_1048 => ((1 : Int32), S_1048)))
set_option linter.unusedVariables false in
set_option maxHeartbeats 4000000 in
set_option maxRecDepth 100000 in
theorem v_N_givePower_46 {p : Program} {l : Launch} {e : Env} {s : State} {m : MethodId} {args : Array Value} {below : List Frame} {meth : Method} {c : Code} {X : vD} {ρ : Int32 × St → Option Value × St} (hρ : ∀ q : Int32 × St, ρ q = ((some (.int q.1), q.2) : Option Value × St))  (hJ : sh_J X) (hX : shp X = shX) (G : vG p s m args meth c X shX "SensorNode$Node" cX2_givePower 3 (some .boolean))  : ∀ (fuel : Nat) (S : St) (v1 v2 : Int32) , (2147483648 - v2.toInt).toNat < fuel → V p l e 2 s m args below meth c X 3 ρ S 46 [(0, .ref (adr X 7)), (1, .int v1), (2, .int v2)] [] (f_N_givePower_46 fuel S v1 v2) := by
  intro fuel
  induction fuel with
  | zero =>
    intro S v1 v2 hm
    exact absurd hm (Nat.not_lt_zero _)
  | succ fn ih =>
    intro S v1 v2 hm
    rw [f_N_givePower_46]
    refine v_iload_n G 2 dX2_givePower_46 rfl ?_
    refine v_aload_n G 0 dX2_givePower_47 rfl ?_
    refine v_getr G (ci := 2) (T := TX2) (j := 0) inX2 rfl rfl rfl (by decide) w1_159 dX2_givePower_48 ?_
    refine v_callVi G (As := []) (st := [.int v2]) (c_L_bufferWords l hJ hX S) (by decide) (by decide) (ci := 4) rfl rfl w2_64 w2_65 w2_66 w1_2 w2_67 qyX4_bufferWords rfl (Nat.le_of_ble_eq_true rfl) dX2_givePower_51 ?_
    refine v_icmp_ge G (tgt := 78) dX2_givePower_54 (by decide) (fun c_1047 => ?_) (fun c_1047 => ?_)
    · refine v_aload_n G 0 dX2_givePower_78 rfl ?_
      refine v_callVv G (As := []) (st := []) (c_N_meetLog l hJ hX S) (by decide) (by decide) (ci := 2) rfl rfl w2_122 w2_124 w0_2 w1_5 w2_125 qyX2_meetLog rfl (Nat.le_of_ble_eq_true rfl) dX2_givePower_79 ?_
      refine v_bnv (fun S_1048 eS_1048 => ?_)
      refine v_iconst G (v := (1 : Int32)) dX2_givePower_82 (by decide) ?_
      exact v_zret G rfl rfl (hρ _) dX2_givePower_83
    · refine v_aload_n G 0 dX2_givePower_57 rfl ?_
      refine v_getr G (ci := 2) (T := TX2) (j := 5) inX2 rfl rfl rfl (by decide) w1_164 dX2_givePower_58 ?_
      refine v_iload_n G 2 dX2_givePower_61 rfl ?_
      refine v_aload_n G 0 dX2_givePower_62 rfl ?_
      refine v_iload_n G 1 dX2_givePower_63 rfl ?_
      refine v_iload_n G 2 dX2_givePower_64 rfl ?_
      refine v_iadd G dX2_givePower_65 ?_
      refine v_callVi G (As := [.int (v1 + v2)]) (st := [.int v2, .ref (adr X 17)]) (c_N_stored l hJ hX S (v1 + v2)) (by decide) (by decide) (ci := 2) rfl rfl w2_114 w2_115 w2_116 w1_5 w2_117 qyX2_stored rfl (Nat.le_of_ble_eq_true rfl) dX2_givePower_66 ?_
      refine v_callVv G (As := [.int v2, .int (f_N_stored S (v1 + v2))]) (st := []) (c_G_restore l hJ hX 17 18 19 16 6219 ⟨rfl, rfl, rfl, rfl, by decide⟩ S v2 (f_N_stored S (v1 + v2))) (by decide) (by decide) (ci := 1) rfl rfl w2_118 w2_119 w2_120 w1_7 w2_121 qyX1_restore rfl (Nat.le_of_ble_eq_true rfl) dX2_givePower_69 ?_
      refine v_bnv (fun S_1049 eS_1049 => ?_)
      refine v_iinc G (v := v2 + (1 : Int32)) 2 [(2, .int (v2 + (1 : Int32))), (0, .ref (adr X 7)), (1, .int v1)] dX2_givePower_72 rfl rfl (by decide) rfl ?_
      refine v_goto G (tgt := 46) dX2_givePower_75 (by decide) ?_
      exact v_sub (lv' := [(0, .ref (adr X 7)), (1, .int v1), (2, .int (v2 + (1 : Int32)))]) [1, 2, 0] rfl (ih S_1049 v1 (v2 + (1 : Int32)) (lp_m31 (by assumption) hm))
noncomputable def f_N_givePower (S : St) : Int32 × St := (if (S 7 7) = (1 : Int32) then bnv (st_up S 7 14 (1 : Int32)) (fun S_2 => bnv (st_up S_2 7 9 (0 : Int32)) (fun S_3 => bnv (st_up S_3 7 8 (0 : Int32)) (fun S_4 => bnv (st_up S_4 7 6 ((S_4 7 6) + (1 : Int32))) (fun S_5 => bnx (f_N_bufferStart S_5 (f_N_generation S_5)) (fun x_6 => (f_N_givePower_46 fuz S_5 x_6 (0 : Int32))))))) else ((0 : Int32), S))
set_option linter.unusedVariables false in
set_option maxHeartbeats 4000000 in
set_option maxRecDepth 100000 in
theorem c_N_givePower (l : Launch) {X : vD} (hJ : sh_J X) (hX : shp X = shX)  (S : St)  : Con l X yX2_givePower cX2_givePower 3 (some .boolean) 2 [.ref (adr X 7)] S (some (.int (f_N_givePower S).1), (f_N_givePower S).2) := by
  refine con_of (ρ := (fun q : Int32 × St => ((some (.int q.1), q.2) : Option Value × St))) (K := f_N_givePower S) hJ hX (by decide) (Nat.le_of_ble_eq_true rfl) (lv := [(0, .ref (adr X 7))]) rfl ?_
  intro p e s m below meth c G
  generalize hρ0 : (fun q : Int32 × St => ((some (.int q.1), q.2) : Option Value × St)) = ρ
  have hρ : ∀ q : Int32 × St, ρ q = ((some (.int q.1), q.2) : Option Value × St) := fun q => by rw [← hρ0]
  have G : vG p s m _ meth c X shX "SensorNode$Node" cX2_givePower 3 (some .boolean) := G
  unfold f_N_givePower
  refine v_aload_n G 0 dX2_givePower_0 rfl ?_
  refine v_geti G (ci := 2) (T := TX2) (j := 7) inX2 rfl rfl rfl (by decide) w1_166 dX2_givePower_1 ?_
  refine v_iconst G (v := (1 : Int32)) dX2_givePower_4 (by decide) ?_
  refine v_icmp_eq G (tgt := 10) dX2_givePower_5 (by decide) (fun c_1 => ?_) (fun c_1 => ?_)
  · refine v_aload_n G 0 dX2_givePower_10 rfl ?_
    refine v_iconst G (v := (1 : Int32)) dX2_givePower_11 (by decide) ?_
    refine v_puti G (ci := 2) (T := TX2) (j := 14) inX2 rfl rfl tyX2_ok nmX2 rfl (by decide) rfl rfl rfl w1_173 dX2_givePower_12 (fun S_2 eS_2 => ?_)
    refine v_aload_n G 0 dX2_givePower_15 rfl ?_
    refine v_iconst G (v := (0 : Int32)) dX2_givePower_16 (by decide) ?_
    refine v_puti G (ci := 2) (T := TX2) (j := 9) inX2 rfl rfl tyX2_ok nmX2 rfl (by decide) rfl rfl rfl w1_168 dX2_givePower_17 (fun S_3 eS_3 => ?_)
    refine v_aload_n G 0 dX2_givePower_20 rfl ?_
    refine v_iconst G (v := (0 : Int32)) dX2_givePower_21 (by decide) ?_
    refine v_puti G (ci := 2) (T := TX2) (j := 8) inX2 rfl rfl tyX2_ok nmX2 rfl (by decide) rfl rfl rfl w1_167 dX2_givePower_22 (fun S_4 eS_4 => ?_)
    refine v_aload_n G 0 dX2_givePower_25 rfl ?_
    refine v_dup G dX2_givePower_26 rfl ?_
    refine v_geti G (ci := 2) (T := TX2) (j := 6) inX2 rfl rfl rfl (by decide) w1_165 dX2_givePower_27 ?_
    refine v_iconst G (v := (1 : Int32)) dX2_givePower_30 (by decide) ?_
    refine v_iadd G dX2_givePower_31 ?_
    refine v_puti G (ci := 2) (T := TX2) (j := 6) inX2 rfl rfl tyX2_ok nmX2 rfl (by decide) rfl rfl rfl w1_165 dX2_givePower_32 (fun S_5 eS_5 => ?_)
    refine v_aload_n G 0 dX2_givePower_35 rfl ?_
    refine v_aload_n G 0 dX2_givePower_36 rfl ?_
    refine v_callVi G (As := []) (st := [.ref (adr X 7)]) (c_N_generation l hJ hX S_5) (by decide) (by decide) (ci := 2) rfl rfl w2_105 w2_107 w0_0 w1_5 w2_108 qyX2_generation rfl (Nat.le_of_ble_eq_true rfl) dX2_givePower_37 ?_
    refine v_callVi G (As := [.int (f_N_generation S_5)]) (st := []) (c_N_bufferStart l hJ hX S_5 (f_N_generation S_5)) (by decide) (by decide) (ci := 2) rfl rfl w2_110 w2_112 w0_1 w1_5 w2_113 qyX2_bufferStart rfl (Nat.le_of_ble_eq_true rfl) dX2_givePower_40 ?_
    refine v_namei (fun x_6 ex_6 => ?_)
    refine v_istore_n G [(1, .int x_6), (0, .ref (adr X 7))] dX2_givePower_43 (by decide) rfl ?_
    refine v_iconst G (v := (0 : Int32)) dX2_givePower_44 (by decide) ?_
    refine v_istore_n G [(2, .int (0 : Int32)), (1, .int x_6), (0, .ref (adr X 7))] dX2_givePower_45 (by decide) rfl ?_
    exact v_sub (lv' := [(0, .ref (adr X 7)), (1, .int x_6), (2, .int (0 : Int32))]) [2, 1, 0] rfl (v_N_givePower_46 hρ hJ hX G fuz S_5 x_6 (0 : Int32) (lp_z31 _))
  · refine v_iconst G (v := (0 : Int32)) dX2_givePower_8 (by decide) ?_
    exact v_zret G rfl rfl (hρ _) dX2_givePower_9
/-! SensorNode$Node.cutPower -/
theorem qyX2_cutPower : yX2_cutPower.cls ≠ "java/lang/invoke/MethodHandle" ∧ yX2_cutPower.cls ≠ "java/lang/invoke/VarHandle" ∧ (parseMethodDescriptor yX2_cutPower.desc).map (fun d => d.parameters.length) = some 0 := by decide +kernel
noncomputable def f_N_cutPower (S : St) : Int32 × St := (if (f_N_hasPower S) = 0 then ((0 : Int32), S) else bnv (st_up S 9 (5 : Int32).toNatClampNeg ((S 9 (5 : Int32).toNatClampNeg) + (1 : Int32))) (fun S_2 => bnv (st_up S_2 9 (3 : Int32).toNatClampNeg ((S_2 9 (3 : Int32).toNatClampNeg) + (S_2 7 9))) (fun S_3 => bnv (st_up S_3 7 7 (1 : Int32)) (fun S_4 => ((1 : Int32), S_4)))))
set_option linter.unusedVariables false in
set_option maxHeartbeats 4000000 in
set_option maxRecDepth 100000 in
theorem c_N_cutPower (l : Launch) {X : vD} (hJ : sh_J X) (hX : shp X = shX)  (S : St)  : Con l X yX2_cutPower cX2_cutPower 1 (some .boolean) 1 [.ref (adr X 7)] S (some (.int (f_N_cutPower S).1), (f_N_cutPower S).2) := by
  refine con_of (ρ := (fun q : Int32 × St => ((some (.int q.1), q.2) : Option Value × St))) (K := f_N_cutPower S) hJ hX (by decide) (Nat.le_of_ble_eq_true rfl) (lv := [(0, .ref (adr X 7))]) rfl ?_
  intro p e s m below meth c G
  generalize hρ0 : (fun q : Int32 × St => ((some (.int q.1), q.2) : Option Value × St)) = ρ
  have hρ : ∀ q : Int32 × St, ρ q = ((some (.int q.1), q.2) : Option Value × St) := fun q => by rw [← hρ0]
  have G : vG p s m _ meth c X shX "SensorNode$Node" cX2_cutPower 1 (some .boolean) := G
  unfold f_N_cutPower
  refine v_aload_n G 0 dX2_cutPower_0 rfl ?_
  refine v_callVi G (As := []) (st := []) (c_N_hasPower l hJ hX S) (by decide) (by decide) (ci := 2) rfl rfl w2_138 w2_140 w0_4 w1_5 w2_141 qyX2_hasPower rfl (Nat.le_of_ble_eq_true rfl) dX2_cutPower_1 ?_
  refine v_if_ne G (tgt := 9) dX2_cutPower_4 (by decide) (fun c_1 => ?_) (fun c_1 => ?_)
  · refine v_aload_n G 0 dX2_cutPower_9 rfl ?_
    refine v_getr G (ci := 2) (T := TX2) (j := 3) inX2 rfl rfl rfl (by decide) w1_162 dX2_cutPower_10 ?_
    refine v_iconst G (v := (5 : Int32)) dX2_cutPower_13 (by decide) ?_
    refine v_dup2 G dX2_cutPower_14 rfl rfl ?_
    refine v_iald G rfl (by unfold vp_in; decide) dX2_cutPower_15 ?_
    refine v_iconst G (v := (1 : Int32)) dX2_cutPower_16 (by decide) ?_
    refine v_iadd G dX2_cutPower_17 ?_
    refine v_iast G rfl (by unfold vp_in; decide) dX2_cutPower_18 (fun S_2 eS_2 => ?_)
    refine v_aload_n G 0 dX2_cutPower_19 rfl ?_
    refine v_getr G (ci := 2) (T := TX2) (j := 3) inX2 rfl rfl rfl (by decide) w1_162 dX2_cutPower_20 ?_
    refine v_iconst G (v := (3 : Int32)) dX2_cutPower_23 (by decide) ?_
    refine v_dup2 G dX2_cutPower_24 rfl rfl ?_
    refine v_iald G rfl (by unfold vp_in; decide) dX2_cutPower_25 ?_
    refine v_aload_n G 0 dX2_cutPower_26 rfl ?_
    refine v_geti G (ci := 2) (T := TX2) (j := 9) inX2 rfl rfl rfl (by decide) w1_168 dX2_cutPower_27 ?_
    refine v_iadd G dX2_cutPower_30 ?_
    refine v_iast G rfl (by unfold vp_in; decide) dX2_cutPower_31 (fun S_3 eS_3 => ?_)
    refine v_aload_n G 0 dX2_cutPower_32 rfl ?_
    refine v_iconst G (v := (1 : Int32)) dX2_cutPower_33 (by decide) ?_
    refine v_puti G (ci := 2) (T := TX2) (j := 7) inX2 rfl rfl tyX2_ok nmX2 rfl (by decide) rfl rfl rfl w1_166 dX2_cutPower_34 (fun S_4 eS_4 => ?_)
    refine v_iconst G (v := (1 : Int32)) dX2_cutPower_37 (by decide) ?_
    exact v_zret G rfl rfl (hρ _) dX2_cutPower_38
  · refine v_iconst G (v := (0 : Int32)) dX2_cutPower_7 (by decide) ?_
    exact v_zret G rfl rfl (hρ _) dX2_cutPower_8

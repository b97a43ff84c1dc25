/-! SensorNodeModel.plainly -/
theorem qyX10_plainly : yX10_plainly.cls ≠ "java/lang/invoke/MethodHandle" ∧ yX10_plainly.cls ≠ "java/lang/invoke/VarHandle" ∧ (parseMethodDescriptor yX10_plainly.desc).map (fun d => d.parameters.length) = some 1 := by decide +kernel
noncomputable def f_M_plainly (S : St) (a1 : Int32) : Int32 := (if (S 0 17) = 0 then (0 : Int32) else (if a1 = (35 : Int32) then S 7 12 else f_M_told S 7 8 9 10 2048 a1))
def k_M_plainly (S : St) (a1 : Int32) : Prop := (if (S 0 17) = 0 then True else (if a1 = (35 : Int32) then True else k_M_told S 7 8 9 10 2048 a1))
set_option linter.unusedVariables false in
set_option maxHeartbeats 4000000 in
set_option maxRecDepth 100000 in
theorem c_M_plainly (l : Launch) {X : vD} (hJ : sh_J X) (hX : shp X = shM)  (S : St) (a1 : Int32) (hk : k_M_plainly S a1) : Con l X yX10_plainly cX10_plainly 2 (some .int) 1 [.ref (adr X 0), .int a1] S (some (.int (f_M_plainly S a1)), S) := by
  refine con_of (ρ := (fun r : Int32 => ((some (.int r), S) : Option Value × St))) (K := f_M_plainly S a1) hJ hX (by decide) (Nat.le_of_ble_eq_true rfl) (lv := [(0, .ref (adr X 0)), (1, .int a1)]) rfl ?_
  intro p e s m below meth c G
  have G : vG p s m _ meth c X shM "SensorNodeModel" cX10_plainly 2 (some .int) := G
  unfold f_M_plainly
  unfold k_M_plainly at hk
  refine v_aload_n G 0 dX10_plainly_0 rfl ?_
  refine v_geti G (ci := 10) (T := TX10) (j := 17) inX10 rfl rfl rfl (by decide) w4_112 dX10_plainly_1 ?_
  refine v_if_ne G (tgt := 9) dX10_plainly_4 (by decide) (fun c_1 => ?_) (fun c_1 => ?_)
  · replace hk := ok_f c_1 hk
    refine v_iload_n G 1 dX10_plainly_9 rfl ?_
    refine v_bipush G (v := (35 : Int32)) dX10_plainly_10 (by decide) ?_
    refine v_icmp_ne G (tgt := 25) dX10_plainly_12 (by decide) (fun c_2 => ?_) (fun c_2 => ?_)
    · replace hk := ok_f c_2 hk
      refine v_aload_n G 0 dX10_plainly_25 rfl ?_
      refine v_getr G (ci := 10) (T := TX10) (j := 15) inX10 rfl rfl rfl (by decide) w4_110 dX10_plainly_26 ?_
      refine v_iload_n G 1 dX10_plainly_29 rfl ?_
      refine v_callSi G (As := [.ref (adr X 7), .int a1]) (st := []) (c_M_told l hJ hX 7 8 9 10 2048 ⟨rfl, rfl, rfl, rfl⟩ S a1 hk) (by decide) (by decide) w5_136 w5_137 w1_9 w5_138 qyX10_told rfl (Nat.le_of_ble_eq_true rfl) dX10_plainly_30 ?_
      exact v_iret G rfl rfl dX10_plainly_33
    · refine v_aload_n G 0 dX10_plainly_15 rfl ?_
      refine v_getr G (ci := 10) (T := TX10) (j := 15) inX10 rfl rfl rfl (by decide) w4_110 dX10_plainly_16 ?_
      refine v_geti G (ci := 9) (T := TX9) (j := 12) inX9 rfl rfl rfl (by decide) w4_12 dX10_plainly_19 ?_
      refine v_goto G (tgt := 33) dX10_plainly_22 (by decide) ?_
      exact v_iret G rfl rfl dX10_plainly_33
  · refine v_iconst G (v := (0 : Int32)) dX10_plainly_7 (by decide) ?_
    exact v_iret G rfl rfl dX10_plainly_8
/-! SensorNodeModel.plainByte -/
theorem qyX10_plainByte : yX10_plainByte.cls ≠ "java/lang/invoke/MethodHandle" ∧ yX10_plainByte.cls ≠ "java/lang/invoke/VarHandle" ∧ (parseMethodDescriptor yX10_plainByte.desc).map (fun d => d.parameters.length) = some 1 := by decide +kernel
noncomputable def f_M_plainByte (S : St) (a1 : Int32) : Int32 := (if (S 0 17) = 0 then (-1 : Int32) else (if (f_H_isIn S 7 8 9 10 2048 a1 (1 : Int64)) = 0 then (-1 : Int32) else f_H_byteAt S 7 8 9 10 2048 a1))
def k_M_plainByte (S : St) (a1 : Int32) : Prop := (if (S 0 17) = 0 then True else (if (f_H_isIn S 7 8 9 10 2048 a1 (1 : Int64)) = 0 then True else k_H_byteAt S 7 8 9 10 2048 a1))
set_option linter.unusedVariables false in
set_option maxHeartbeats 4000000 in
set_option maxRecDepth 100000 in
theorem c_M_plainByte (l : Launch) {X : vD} (hJ : sh_J X) (hX : shp X = shM)  (S : St) (a1 : Int32) (hk : k_M_plainByte S a1) : Con l X yX10_plainByte cX10_plainByte 2 (some .int) 3 [.ref (adr X 0), .int a1] S (some (.int (f_M_plainByte S a1)), S) := by
  refine con_of (ρ := (fun r : Int32 => ((some (.int r), S) : Option Value × St))) (K := f_M_plainByte S a1) hJ hX (by decide) (Nat.le_of_ble_eq_true rfl) (lv := [(0, .ref (adr X 0)), (1, .int a1)]) rfl ?_
  intro p e s m below meth c G
  have G : vG p s m _ meth c X shM "SensorNodeModel" cX10_plainByte 2 (some .int) := G
  unfold f_M_plainByte
  unfold k_M_plainByte at hk
  refine v_aload_n G 0 dX10_plainByte_0 rfl ?_
  refine v_geti G (ci := 10) (T := TX10) (j := 17) inX10 rfl rfl rfl (by decide) w4_112 dX10_plainByte_1 ?_
  refine v_if_eq G (tgt := 30) dX10_plainByte_4 (by decide) (fun c_1 => ?_) (fun c_1 => ?_)
  · refine v_iconst G (v := (-1 : Int32)) dX10_plainByte_30 (by decide) ?_
    exact v_iret G rfl rfl dX10_plainByte_31
  · replace hk := ok_f c_1 hk
    refine v_aload_n G 0 dX10_plainByte_7 rfl ?_
    refine v_getr G (ci := 10) (T := TX10) (j := 15) inX10 rfl rfl rfl (by decide) w4_110 dX10_plainByte_8 ?_
    refine v_iload_n G 1 dX10_plainByte_11 rfl ?_
    refine v_lconst G (v := (1 : Int64)) dX10_plainByte_12 (by decide) ?_
    refine v_callVi G (As := [.int a1, .long (1 : Int64)]) (st := []) (c_H_isIn l hJ hX 7 8 9 10 2048 ⟨rfl, rfl, rfl, rfl⟩ S a1 (1 : Int64)) (by decide) (by decide) (ci := 9) rfl rfl w5_193 w5_82 w5_83 w1_10 w5_84 qyX9_isIn rfl (Nat.le_of_ble_eq_true rfl) dX10_plainByte_13 ?_
    refine v_if_eq G (tgt := 30) dX10_plainByte_16 (by decide) (fun c_2 => ?_) (fun c_2 => ?_)
    · refine v_iconst G (v := (-1 : Int32)) dX10_plainByte_30 (by decide) ?_
      exact v_iret G rfl rfl dX10_plainByte_31
    · replace hk := ok_f c_2 hk
      refine v_aload_n G 0 dX10_plainByte_19 rfl ?_
      refine v_getr G (ci := 10) (T := TX10) (j := 15) inX10 rfl rfl rfl (by decide) w4_110 dX10_plainByte_20 ?_
      refine v_iload_n G 1 dX10_plainByte_23 rfl ?_
      refine v_callVi G (As := [.int a1]) (st := []) (c_H_byteAt l hJ hX 7 8 9 10 2048 ⟨rfl, rfl, rfl, rfl⟩ S a1 hk) (by decide) (by decide) (ci := 9) rfl rfl w5_143 w5_69 w5_70 w1_10 w5_71 qyX9_byteAt rfl (Nat.le_of_ble_eq_true rfl) dX10_plainByte_24 ?_
      refine v_goto G (tgt := 31) dX10_plainByte_27 (by decide) ?_
      exact v_iret G rfl rfl dX10_plainByte_31
/-! SensorNodeModel.plainFrame -/
theorem qyX10_plainFrame : yX10_plainFrame.cls ≠ "java/lang/invoke/MethodHandle" ∧ yX10_plainFrame.cls ≠ "java/lang/invoke/VarHandle" ∧ (parseMethodDescriptor yX10_plainFrame.desc).map (fun d => d.parameters.length) = some 1 := by decide +kernel
noncomputable def f_M_plainFrame (S : St) (a1 : Int32) : Int32 := (if (S 0 17) = 0 then (-1 : Int32) else (if (f_A_has S 16 17 18 19 20 a1) = 0 then (-1 : Int32) else S 18 a1.toNatClampNeg))
def k_M_plainFrame (S : St) (a1 : Int32) : Prop := (if (S 0 17) = 0 then True else (if (f_A_has S 16 17 18 19 20 a1) = 0 then True else vp_in a1 400))
set_option linter.unusedVariables false in
set_option maxHeartbeats 4000000 in
set_option maxRecDepth 100000 in
theorem c_M_plainFrame (l : Launch) {X : vD} (hJ : sh_J X) (hX : shp X = shM)  (S : St) (a1 : Int32) (hk : k_M_plainFrame S a1) : Con l X yX10_plainFrame cX10_plainFrame 2 (some .int) 1 [.ref (adr X 0), .int a1] S (some (.int (f_M_plainFrame S a1)), S) := by
  refine con_of (ρ := (fun r : Int32 => ((some (.int r), S) : Option Value × St))) (K := f_M_plainFrame S a1) hJ hX (by decide) (Nat.le_of_ble_eq_true rfl) (lv := [(0, .ref (adr X 0)), (1, .int a1)]) rfl ?_
  intro p e s m below meth c G
  have G : vG p s m _ meth c X shM "SensorNodeModel" cX10_plainFrame 2 (some .int) := G
  unfold f_M_plainFrame
  unfold k_M_plainFrame at hk
  refine v_aload_n G 0 dX10_plainFrame_0 rfl ?_
  refine v_geti G (ci := 10) (T := TX10) (j := 17) inX10 rfl rfl rfl (by decide) w4_112 dX10_plainFrame_1 ?_
  refine v_if_eq G (tgt := 30) dX10_plainFrame_4 (by decide) (fun c_1 => ?_) (fun c_1 => ?_)
  · refine v_iconst G (v := (-1 : Int32)) dX10_plainFrame_30 (by decide) ?_
    exact v_iret G rfl rfl dX10_plainFrame_31
  · replace hk := ok_f c_1 hk
    refine v_aload_n G 0 dX10_plainFrame_7 rfl ?_
    refine v_getr G (ci := 10) (T := TX10) (j := 19) inX10 rfl rfl rfl (by decide) w4_114 dX10_plainFrame_8 ?_
    refine v_iload_n G 1 dX10_plainFrame_11 rfl ?_
    refine v_callVi G (As := [.int a1]) (st := []) (c_A_has l hJ hX 16 17 18 19 20 ⟨rfl, rfl, rfl, rfl, rfl⟩ S a1) (by decide) (by decide) (ci := 8) rfl rfl w5_160 w5_161 w5_162 w1_11 w5_163 qyX8_has rfl (Nat.le_of_ble_eq_true rfl) dX10_plainFrame_12 ?_
    refine v_if_eq G (tgt := 30) dX10_plainFrame_15 (by decide) (fun c_2 => ?_) (fun c_2 => ?_)
    · refine v_iconst G (v := (-1 : Int32)) dX10_plainFrame_30 (by decide) ?_
      exact v_iret G rfl rfl dX10_plainFrame_31
    · replace hk := ok_f c_2 hk
      refine v_aload_n G 0 dX10_plainFrame_18 rfl ?_
      refine v_getr G (ci := 10) (T := TX10) (j := 19) inX10 rfl rfl rfl (by decide) w4_114 dX10_plainFrame_19 ?_
      refine v_getr G (ci := 8) (T := TX8) (j := 2) inX8 rfl rfl rfl (by decide) w4_77 dX10_plainFrame_22 ?_
      refine v_iload_n G 1 dX10_plainFrame_25 rfl ?_
      refine v_iald G rfl hk dX10_plainFrame_26 ?_
      refine v_goto G (tgt := 31) dX10_plainFrame_27 (by decide) ?_
      exact v_iret G rfl rfl dX10_plainFrame_31
/-! SensorNodeModel.plainHeard -/
theorem qyX10_plainHeard : yX10_plainHeard.cls ≠ "java/lang/invoke/MethodHandle" ∧ yX10_plainHeard.cls ≠ "java/lang/invoke/VarHandle" ∧ (parseMethodDescriptor yX10_plainHeard.desc).map (fun d => d.parameters.length) = some 2 := by decide +kernel
noncomputable def f_M_plainHeard (S : St) (a1 : Int32) (a2 : Int32) : Int32 := (if (S 0 17) = 0 then (-1 : Int32) else f_A_at S 16 17 18 19 20 a1 a2)
def k_M_plainHeard (S : St) (a1 : Int32) (a2 : Int32) : Prop := (if (S 0 17) = 0 then True else k_A_at S 16 17 18 19 20 a1 a2)
set_option linter.unusedVariables false in
set_option maxHeartbeats 4000000 in
set_option maxRecDepth 100000 in
theorem c_M_plainHeard (l : Launch) {X : vD} (hJ : sh_J X) (hX : shp X = shM)  (S : St) (a1 : Int32) (a2 : Int32) (hk : k_M_plainHeard S a1 a2) : Con l X yX10_plainHeard cX10_plainHeard 3 (some .int) 2 [.ref (adr X 0), .int a1, .int a2] S (some (.int (f_M_plainHeard S a1 a2)), S) := by
  refine con_of (ρ := (fun r : Int32 => ((some (.int r), S) : Option Value × St))) (K := f_M_plainHeard S a1 a2) hJ hX (by decide) (Nat.le_of_ble_eq_true rfl) (lv := [(0, .ref (adr X 0)), (1, .int a1), (2, .int a2)]) rfl ?_
  intro p e s m below meth c G
  have G : vG p s m _ meth c X shM "SensorNodeModel" cX10_plainHeard 3 (some .int) := G
  unfold f_M_plainHeard
  unfold k_M_plainHeard at hk
  refine v_aload_n G 0 dX10_plainHeard_0 rfl ?_
  refine v_geti G (ci := 10) (T := TX10) (j := 17) inX10 rfl rfl rfl (by decide) w4_112 dX10_plainHeard_1 ?_
  refine v_if_eq G (tgt := 19) dX10_plainHeard_4 (by decide) (fun c_1 => ?_) (fun c_1 => ?_)
  · refine v_iconst G (v := (-1 : Int32)) dX10_plainHeard_19 (by decide) ?_
    exact v_iret G rfl rfl dX10_plainHeard_20
  · replace hk := ok_f c_1 hk
    refine v_aload_n G 0 dX10_plainHeard_7 rfl ?_
    refine v_getr G (ci := 10) (T := TX10) (j := 19) inX10 rfl rfl rfl (by decide) w4_114 dX10_plainHeard_8 ?_
    refine v_iload_n G 1 dX10_plainHeard_11 rfl ?_
    refine v_iload_n G 2 dX10_plainHeard_12 rfl ?_
    refine v_callVi G (As := [.int a1, .int a2]) (st := []) (c_A_at l hJ hX 16 17 18 19 20 ⟨rfl, rfl, rfl, rfl, rfl⟩ S a1 a2 hk) (by decide) (by decide) (ci := 8) rfl rfl w5_168 w5_169 w5_170 w1_11 w5_171 qyX8_at rfl (Nat.le_of_ble_eq_true rfl) dX10_plainHeard_13 ?_
    refine v_goto G (tgt := 20) dX10_plainHeard_16 (by decide) ?_
    exact v_iret G rfl rfl dX10_plainHeard_20
/-! SensorNodeModel.strays -/
theorem qyX10_strays : yX10_strays.cls ≠ "java/lang/invoke/MethodHandle" ∧ yX10_strays.cls ≠ "java/lang/invoke/VarHandle" ∧ (parseMethodDescriptor yX10_strays.desc).map (fun d => d.parameters.length) = some 0 := by decide +kernel
noncomputable def f_M_strays (S : St) : Int32 := S 0 32
set_option linter.unusedVariables false in
set_option maxHeartbeats 4000000 in
set_option maxRecDepth 100000 in
theorem c_M_strays (l : Launch) {X : vD} (hJ : sh_J X) (hX : shp X = shM)  (S : St)  : Con l X yX10_strays cX10_strays 1 (some .int) 0 [.ref (adr X 0)] S (some (.int (f_M_strays S)), S) := by
  refine con_of (ρ := (fun r : Int32 => ((some (.int r), S) : Option Value × St))) (K := f_M_strays S) hJ hX (by decide) (Nat.le_of_ble_eq_true rfl) (lv := [(0, .ref (adr X 0))]) rfl ?_
  intro p e s m below meth c G
  have G : vG p s m _ meth c X shM "SensorNodeModel" cX10_strays 1 (some .int) := G
  unfold f_M_strays
  refine v_aload_n G 0 dX10_strays_0 rfl ?_
  refine v_geti G (ci := 10) (T := TX10) (j := 32) inX10 rfl rfl rfl (by decide) w4_127 dX10_strays_1 ?_
  exact v_iret G rfl rfl dX10_strays_4

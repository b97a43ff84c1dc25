/-! SensorNodeModel.state -/
theorem qyX10_state : yX10_state.cls ≠ "java/lang/invoke/MethodHandle" ∧ yX10_state.cls ≠ "java/lang/invoke/VarHandle" ∧ (parseMethodDescriptor yX10_state.desc).map (fun d => d.parameters.length) = some 0 := by decide +kernel
noncomputable def f_M_state (S : St) : Int32 := (if (S 0 0) = 0 then (0 : Int32) else (if (S 0 2) = 0 then (1 : Int32) else (if 0 < (S 0 21) then S 0 21 else (if (S 0 22) = (1 : Int32) then (2 : Int32) else (if (S 0 22) = 0 then (3 : Int32) else (if (S 0 22) = (2 : Int32) then (4 : Int32) else (5 : Int32)))))))
set_option linter.unusedVariables false in
set_option maxHeartbeats 4000000 in
set_option maxRecDepth 100000 in
theorem c_M_state (l : Launch) {X : vD} (hJ : sh_J X) (hX : shp X = shM)  (S : St)  : Con l X yX10_state cX10_state 1 (some .int) 0 [.ref (adr X 0)] S (some (.int (f_M_state S)), S) := by
  refine con_of (ρ := (fun r : Int32 => ((some (.int r), S) : Option Value × St))) (K := f_M_state S) hJ hX (by decide) (Nat.le_of_ble_eq_true rfl) (lv := [(0, .ref (adr X 0))]) rfl ?_
  intro p e s m below meth c G
  have G : vG p s m _ meth c X shM "SensorNodeModel" cX10_state 1 (some .int) := G
  unfold f_M_state
  refine v_aload_n G 0 dX10_state_0 rfl ?_
  refine v_geti G (ci := 10) (T := TX10) (j := 0) inX10 rfl rfl rfl (by decide) w4_95 dX10_state_1 ?_
  refine v_if_ne G (tgt := 9) dX10_state_4 (by decide) (fun c_1 => ?_) (fun c_1 => ?_)
  · refine v_aload_n G 0 dX10_state_9 rfl ?_
    refine v_geti G (ci := 10) (T := TX10) (j := 2) inX10 rfl rfl rfl (by decide) w4_97 dX10_state_10 ?_
    refine v_if_ne G (tgt := 18) dX10_state_13 (by decide) (fun c_2 => ?_) (fun c_2 => ?_)
    · refine v_aload_n G 0 dX10_state_18 rfl ?_
      refine v_geti G (ci := 10) (T := TX10) (j := 21) inX10 rfl rfl rfl (by decide) w4_116 dX10_state_19 ?_
      refine v_if_le G (tgt := 30) dX10_state_22 (by decide) (fun c_3 => ?_) (fun c_3 => ?_)
      · refine v_aload_n G 0 dX10_state_30 rfl ?_
        refine v_geti G (ci := 10) (T := TX10) (j := 22) inX10 rfl rfl rfl (by decide) w4_117 dX10_state_31 ?_
        refine v_iconst G (v := (1 : Int32)) dX10_state_34 (by decide) ?_
        refine v_icmp_ne G (tgt := 42) dX10_state_35 (by decide) (fun c_4 => ?_) (fun c_4 => ?_)
        · refine v_aload_n G 0 dX10_state_42 rfl ?_
          refine v_geti G (ci := 10) (T := TX10) (j := 22) inX10 rfl rfl rfl (by decide) w4_117 dX10_state_43 ?_
          refine v_if_ne G (tgt := 53) dX10_state_46 (by decide) (fun c_5 => ?_) (fun c_5 => ?_)
          · refine v_aload_n G 0 dX10_state_53 rfl ?_
            refine v_geti G (ci := 10) (T := TX10) (j := 22) inX10 rfl rfl rfl (by decide) w4_117 dX10_state_54 ?_
            refine v_iconst G (v := (2 : Int32)) dX10_state_57 (by decide) ?_
            refine v_icmp_ne G (tgt := 65) dX10_state_58 (by decide) (fun c_6 => ?_) (fun c_6 => ?_)
            · refine v_iconst G (v := (5 : Int32)) dX10_state_65 (by decide) ?_
              exact v_iret G rfl rfl dX10_state_66
            · refine v_iconst G (v := (4 : Int32)) dX10_state_61 (by decide) ?_
              refine v_goto G (tgt := 66) dX10_state_62 (by decide) ?_
              exact v_iret G rfl rfl dX10_state_66
          · refine v_iconst G (v := (3 : Int32)) dX10_state_49 (by decide) ?_
            refine v_goto G (tgt := 66) dX10_state_50 (by decide) ?_
            exact v_iret G rfl rfl dX10_state_66
        · refine v_iconst G (v := (2 : Int32)) dX10_state_38 (by decide) ?_
          refine v_goto G (tgt := 66) dX10_state_39 (by decide) ?_
          exact v_iret G rfl rfl dX10_state_66
      · refine v_aload_n G 0 dX10_state_25 rfl ?_
        refine v_geti G (ci := 10) (T := TX10) (j := 21) inX10 rfl rfl rfl (by decide) w4_116 dX10_state_26 ?_
        exact v_iret G rfl rfl dX10_state_29
    · refine v_iconst G (v := (1 : Int32)) dX10_state_16 (by decide) ?_
      exact v_iret G rfl rfl dX10_state_17
  · refine v_iconst G (v := (0 : Int32)) dX10_state_7 (by decide) ?_
    exact v_iret G rfl rfl dX10_state_8
/-! SensorNodeModel.told -/
theorem qyX10_told : yX10_told.cls ≠ "java/lang/invoke/MethodHandle" ∧ yX10_told.cls ≠ "java/lang/invoke/VarHandle" ∧ (parseMethodDescriptor yX10_told.desc).map (fun d => d.parameters.length) = some 2 := by decide +kernel
noncomputable def f_M_told (S : St) (kg kx kr ko n : Nat) (a1 : Int32) : Int32 := (if a1 < 0 then (if a1 = (32 : Int32) then S kg 1 else (if a1 = (33 : Int32) then S kg 2 else (if a1 = (34 : Int32) then S kg 3 else (0 : Int32)))) else (if a1 < (32 : Int32) then S kx a1.toNatClampNeg else (if a1 = (32 : Int32) then S kg 1 else (if a1 = (33 : Int32) then S kg 2 else (if a1 = (34 : Int32) then S kg 3 else (0 : Int32))))))
def k_M_told (S : St) (kg kx kr ko n : Nat) (a1 : Int32) : Prop := (if a1 < 0 then True else (if a1 < (32 : Int32) then vp_in a1 32 else True))
set_option linter.unusedVariables false in
set_option maxHeartbeats 4000000 in
set_option maxRecDepth 100000 in
theorem c_M_told (l : Launch) {X : vD} (hJ : sh_J X) (hX : shp X = shM) (kg kx kr ko n : Nat) (hH : isH kg kx kr ko n) (S : St) (a1 : Int32) (hk : k_M_told S kg kx kr ko n a1) : Con l X yX10_told cX10_told 2 (some .int) 0 [.ref (adr X kg), .int a1] S (some (.int (f_M_told S kg kx kr ko n a1)), S) := by
  refine con_of (ρ := (fun r : Int32 => ((some (.int r), S) : Option Value × St))) (K := f_M_told S kg kx kr ko n a1) hJ hX (by decide) (Nat.le_of_ble_eq_true rfl) (lv := [(0, .ref (adr X kg)), (1, .int a1)]) rfl ?_
  intro p e s m below meth c G
  have G : vG p s m _ meth c X shM "SensorNodeModel" cX10_told 2 (some .int) := G
  unfold f_M_told
  unfold k_M_told at hk
  refine v_iload_n G 1 dX10_told_0 rfl ?_
  refine v_if_lt G (tgt := 19) dX10_told_1 (by decide) (fun c_1 => ?_) (fun c_1 => ?_)
  · refine v_iload_n G 1 dX10_told_19 rfl ?_
    refine v_bipush G (v := (32 : Int32)) dX10_told_20 (by decide) ?_
    refine v_icmp_ne G (tgt := 32) dX10_told_22 (by decide) (fun c_2 => ?_) (fun c_2 => ?_)
    · refine v_iload_n G 1 dX10_told_32 rfl ?_
      refine v_bipush G (v := (33 : Int32)) dX10_told_33 (by decide) ?_
      refine v_icmp_ne G (tgt := 45) dX10_told_35 (by decide) (fun c_3 => ?_) (fun c_3 => ?_)
      · refine v_iload_n G 1 dX10_told_45 rfl ?_
        refine v_bipush G (v := (34 : Int32)) dX10_told_46 (by decide) ?_
        refine v_icmp_ne G (tgt := 58) dX10_told_48 (by decide) (fun c_4 => ?_) (fun c_4 => ?_)
        · refine v_iconst G (v := (0 : Int32)) dX10_told_58 (by decide) ?_
          exact v_iret G rfl rfl dX10_told_59
        · refine v_aload_n G 0 dX10_told_51 rfl ?_
          refine v_geti G (ci := 9) (T := TX9) (j := 3) inX9 rfl hH.1 rfl (by decide) w3_235 dX10_told_52 ?_
          refine v_goto G (tgt := 59) dX10_told_55 (by decide) ?_
          exact v_iret G rfl rfl dX10_told_59
      · refine v_aload_n G 0 dX10_told_38 rfl ?_
        refine v_geti G (ci := 9) (T := TX9) (j := 2) inX9 rfl hH.1 rfl (by decide) w3_233 dX10_told_39 ?_
        refine v_goto G (tgt := 59) dX10_told_42 (by decide) ?_
        exact v_iret G rfl rfl dX10_told_59
    · refine v_aload_n G 0 dX10_told_25 rfl ?_
      refine v_geti G (ci := 9) (T := TX9) (j := 1) inX9 rfl hH.1 rfl (by decide) w3_231 dX10_told_26 ?_
      refine v_goto G (tgt := 59) dX10_told_29 (by decide) ?_
      exact v_iret G rfl rfl dX10_told_59
  · replace hk := ok_f c_1 hk
    refine v_iload_n G 1 dX10_told_4 rfl ?_
    refine v_bipush G (v := (32 : Int32)) dX10_told_5 (by decide) ?_
    refine v_icmp_ge G (tgt := 19) dX10_told_7 (by decide) (fun c_5 => ?_) (fun c_5 => ?_)
    · refine v_iload_n G 1 dX10_told_19 rfl ?_
      refine v_bipush G (v := (32 : Int32)) dX10_told_20 (by decide) ?_
      refine v_icmp_ne G (tgt := 32) dX10_told_22 (by decide) (fun c_6 => ?_) (fun c_6 => ?_)
      · refine v_iload_n G 1 dX10_told_32 rfl ?_
        refine v_bipush G (v := (33 : Int32)) dX10_told_33 (by decide) ?_
        refine v_icmp_ne G (tgt := 45) dX10_told_35 (by decide) (fun c_7 => ?_) (fun c_7 => ?_)
        · refine v_iload_n G 1 dX10_told_45 rfl ?_
          refine v_bipush G (v := (34 : Int32)) dX10_told_46 (by decide) ?_
          refine v_icmp_ne G (tgt := 58) dX10_told_48 (by decide) (fun c_8 => ?_) (fun c_8 => ?_)
          · refine v_iconst G (v := (0 : Int32)) dX10_told_58 (by decide) ?_
            exact v_iret G rfl rfl dX10_told_59
          · refine v_aload_n G 0 dX10_told_51 rfl ?_
            refine v_geti G (ci := 9) (T := TX9) (j := 3) inX9 rfl hH.1 rfl (by decide) w3_235 dX10_told_52 ?_
            refine v_goto G (tgt := 59) dX10_told_55 (by decide) ?_
            exact v_iret G rfl rfl dX10_told_59
        · refine v_aload_n G 0 dX10_told_38 rfl ?_
          refine v_geti G (ci := 9) (T := TX9) (j := 2) inX9 rfl hH.1 rfl (by decide) w3_233 dX10_told_39 ?_
          refine v_goto G (tgt := 59) dX10_told_42 (by decide) ?_
          exact v_iret G rfl rfl dX10_told_59
      · refine v_aload_n G 0 dX10_told_25 rfl ?_
        refine v_geti G (ci := 9) (T := TX9) (j := 1) inX9 rfl hH.1 rfl (by decide) w3_231 dX10_told_26 ?_
        refine v_goto G (tgt := 59) dX10_told_29 (by decide) ?_
        exact v_iret G rfl rfl dX10_told_59
    · replace hk := ok_t c_5 hk
      refine v_aload_n G 0 dX10_told_10 rfl ?_
      refine v_getr G (ci := 9) (T := TX9) (j := 0) inX9 rfl hH.1 rfl (by decide) w3_229 dX10_told_11 ?_
      refine v_iload_n G 1 dX10_told_14 rfl ?_
      refine v_iald G hH.2.1 hk dX10_told_15 ?_
      refine v_goto G (tgt := 59) dX10_told_16 (by decide) ?_
      exact v_iret G rfl rfl dX10_told_59
/-! SensorNodeModel.register -/
theorem qyX10_register : yX10_register.cls ≠ "java/lang/invoke/MethodHandle" ∧ yX10_register.cls ≠ "java/lang/invoke/VarHandle" ∧ (parseMethodDescriptor yX10_register.desc).map (fun d => d.parameters.length) = some 1 := by decide +kernel
noncomputable def f_M_register (S : St) (a1 : Int32) : Int32 := (if (S 0 2) = 0 then (0 : Int32) else (if a1 = (35 : Int32) then S 4 4 else (if a1 = (36 : Int32) then S 0 20 else f_M_told S 4 5 6 1 6219 a1)))
def k_M_register (S : St) (a1 : Int32) : Prop := (if (S 0 2) = 0 then True else (if a1 = (35 : Int32) then True else (if a1 = (36 : Int32) then True else k_M_told S 4 5 6 1 6219 a1)))
set_option linter.unusedVariables false in
set_option maxHeartbeats 4000000 in
set_option maxRecDepth 100000 in
theorem c_M_register (l : Launch) {X : vD} (hJ : sh_J X) (hX : shp X = shM)  (S : St) (a1 : Int32) (hk : k_M_register S a1) : Con l X yX10_register cX10_register 2 (some .int) 1 [.ref (adr X 0), .int a1] S (some (.int (f_M_register S a1)), S) := by
  refine con_of (ρ := (fun r : Int32 => ((some (.int r), S) : Option Value × St))) (K := f_M_register S a1) hJ hX (by decide) (Nat.le_of_ble_eq_true rfl) (lv := [(0, .ref (adr X 0)), (1, .int a1)]) rfl ?_
  intro p e s m below meth c G
  have G : vG p s m _ meth c X shM "SensorNodeModel" cX10_register 2 (some .int) := G
  unfold f_M_register
  unfold k_M_register at hk
  refine v_aload_n G 0 dX10_register_0 rfl ?_
  refine v_geti G (ci := 10) (T := TX10) (j := 2) inX10 rfl rfl rfl (by decide) w4_97 dX10_register_1 ?_
  refine v_if_ne G (tgt := 9) dX10_register_4 (by decide) (fun c_1 => ?_) (fun c_1 => ?_)
  · replace hk := ok_f c_1 hk
    refine v_iload_n G 1 dX10_register_9 rfl ?_
    refine v_bipush G (v := (35 : Int32)) dX10_register_10 (by decide) ?_
    refine v_icmp_ne G (tgt := 25) dX10_register_12 (by decide) (fun c_2 => ?_) (fun c_2 => ?_)
    · replace hk := ok_f c_2 hk
      refine v_iload_n G 1 dX10_register_25 rfl ?_
      refine v_bipush G (v := (36 : Int32)) dX10_register_26 (by decide) ?_
      refine v_icmp_ne G (tgt := 38) dX10_register_28 (by decide) (fun c_3 => ?_) (fun c_3 => ?_)
      · replace hk := ok_f c_3 hk
        refine v_aload_n G 0 dX10_register_38 rfl ?_
        refine v_getr G (ci := 10) (T := TX10) (j := 14) inX10 rfl rfl rfl (by decide) w4_109 dX10_register_39 ?_
        refine v_iload_n G 1 dX10_register_42 rfl ?_
        refine v_callSi G (As := [.ref (adr X 4), .int a1]) (st := []) (c_M_told l hJ hX 4 5 6 1 6219 ⟨rfl, rfl, rfl, rfl⟩ S a1 hk) (by decide) (by decide) w5_136 w5_137 w1_9 w5_138 qyX10_told rfl (Nat.le_of_ble_eq_true rfl) dX10_register_43 ?_
        exact v_iret G rfl rfl dX10_register_46
      · refine v_aload_n G 0 dX10_register_31 rfl ?_
        refine v_geti G (ci := 10) (T := TX10) (j := 20) inX10 rfl rfl rfl (by decide) w4_115 dX10_register_32 ?_
        refine v_goto G (tgt := 46) dX10_register_35 (by decide) ?_
        exact v_iret G rfl rfl dX10_register_46
    · refine v_aload_n G 0 dX10_register_15 rfl ?_
      refine v_getr G (ci := 10) (T := TX10) (j := 14) inX10 rfl rfl rfl (by decide) w4_109 dX10_register_16 ?_
      refine v_geti G (ci := 9) (T := TX9) (j := 4) inX9 rfl rfl rfl (by decide) w3_237 dX10_register_19 ?_
      refine v_goto G (tgt := 46) dX10_register_22 (by decide) ?_
      exact v_iret G rfl rfl dX10_register_46
  · refine v_iconst G (v := (0 : Int32)) dX10_register_7 (by decide) ?_
    exact v_iret G rfl rfl dX10_register_8
/-! SensorNodeModel.ram -/
theorem qyX10_ram : yX10_ram.cls ≠ "java/lang/invoke/MethodHandle" ∧ yX10_ram.cls ≠ "java/lang/invoke/VarHandle" ∧ (parseMethodDescriptor yX10_ram.desc).map (fun d => d.parameters.length) = some 1 := by decide +kernel
noncomputable def f_M_ram (S : St) (a1 : Int32) : Int32 := (if (S 0 2) = 0 then (-1 : Int32) else (if a1 < 0 then (-1 : Int32) else (if a1 < (S 0 3) then f_H_byteAt S 4 5 6 1 6219 a1 else (-1 : Int32))))
def k_M_ram (S : St) (a1 : Int32) : Prop := (if (S 0 2) = 0 then True else (if a1 < 0 then True else (if a1 < (S 0 3) then k_H_byteAt S 4 5 6 1 6219 a1 else True)))
set_option linter.unusedVariables false in
set_option maxHeartbeats 4000000 in
set_option maxRecDepth 100000 in
theorem c_M_ram (l : Launch) {X : vD} (hJ : sh_J X) (hX : shp X = shM)  (S : St) (a1 : Int32) (hk : k_M_ram S a1) : Con l X yX10_ram cX10_ram 2 (some .int) 3 [.ref (adr X 0), .int a1] S (some (.int (f_M_ram S a1)), S) := by
  refine con_of (ρ := (fun r : Int32 => ((some (.int r), S) : Option Value × St))) (K := f_M_ram S a1) hJ hX (by decide) (Nat.le_of_ble_eq_true rfl) (lv := [(0, .ref (adr X 0)), (1, .int a1)]) rfl ?_
  intro p e s m below meth c G
  have G : vG p s m _ meth c X shM "SensorNodeModel" cX10_ram 2 (some .int) := G
  unfold f_M_ram
  unfold k_M_ram at hk
  refine v_aload_n G 0 dX10_ram_0 rfl ?_
  refine v_geti G (ci := 10) (T := TX10) (j := 2) inX10 rfl rfl rfl (by decide) w4_97 dX10_ram_1 ?_
  refine v_if_eq G (tgt := 30) dX10_ram_4 (by decide) (fun c_1 => ?_) (fun c_1 => ?_)
  · refine v_iconst G (v := (-1 : Int32)) dX10_ram_30 (by decide) ?_
    exact v_iret G rfl rfl dX10_ram_31
  · replace hk := ok_f c_1 hk
    refine v_iload_n G 1 dX10_ram_7 rfl ?_
    refine v_if_lt G (tgt := 30) dX10_ram_8 (by decide) (fun c_2 => ?_) (fun c_2 => ?_)
    · refine v_iconst G (v := (-1 : Int32)) dX10_ram_30 (by decide) ?_
      exact v_iret G rfl rfl dX10_ram_31
    · replace hk := ok_f c_2 hk
      refine v_iload_n G 1 dX10_ram_11 rfl ?_
      refine v_aload_n G 0 dX10_ram_12 rfl ?_
      refine v_geti G (ci := 10) (T := TX10) (j := 3) inX10 rfl rfl rfl (by decide) w4_98 dX10_ram_13 ?_
      refine v_icmp_ge G (tgt := 30) dX10_ram_16 (by decide) (fun c_3 => ?_) (fun c_3 => ?_)
      · refine v_iconst G (v := (-1 : Int32)) dX10_ram_30 (by decide) ?_
        exact v_iret G rfl rfl dX10_ram_31
      · replace hk := ok_t c_3 hk
        refine v_aload_n G 0 dX10_ram_19 rfl ?_
        refine v_getr G (ci := 10) (T := TX10) (j := 14) inX10 rfl rfl rfl (by decide) w4_109 dX10_ram_20 ?_
        refine v_iload_n G 1 dX10_ram_23 rfl ?_
        refine v_callVi G (As := [.int a1]) (st := []) (c_H_byteAt l hJ hX 4 5 6 1 6219 ⟨rfl, rfl, rfl, rfl⟩ S a1 hk) (by decide) (by decide) (ci := 9) rfl rfl w5_143 w5_69 w5_70 w1_10 w5_71 qyX9_byteAt rfl (Nat.le_of_ble_eq_true rfl) dX10_ram_24 ?_
        refine v_goto G (tgt := 31) dX10_ram_27 (by decide) ?_
        exact v_iret G rfl rfl dX10_ram_31
/-! SensorNodeModel.words -/
theorem qyX10_words : yX10_words.cls ≠ "java/lang/invoke/MethodHandle" ∧ yX10_words.cls ≠ "java/lang/invoke/VarHandle" ∧ (parseMethodDescriptor yX10_words.desc).map (fun d => d.parameters.length) = some 0 := by decide +kernel
noncomputable def f_M_words (S : St) : Int32 := (if (S 0 0) = 0 then (0 : Int32) else S 0 8)
set_option linter.unusedVariables false in
set_option maxHeartbeats 4000000 in
set_option maxRecDepth 100000 in
theorem c_M_words (l : Launch) {X : vD} (hJ : sh_J X) (hX : shp X = shM)  (S : St)  : Con l X yX10_words cX10_words 1 (some .int) 0 [.ref (adr X 0)] S (some (.int (f_M_words S)), S) := by
  refine con_of (ρ := (fun r : Int32 => ((some (.int r), S) : Option Value × St))) (K := f_M_words S) hJ hX (by decide) (Nat.le_of_ble_eq_true rfl) (lv := [(0, .ref (adr X 0))]) rfl ?_
  intro p e s m below meth c G
  have G : vG p s m _ meth c X shM "SensorNodeModel" cX10_words 1 (some .int) := G
  unfold f_M_words
  refine v_aload_n G 0 dX10_words_0 rfl ?_
  refine v_geti G (ci := 10) (T := TX10) (j := 0) inX10 rfl rfl rfl (by decide) w4_95 dX10_words_1 ?_
  refine v_if_eq G (tgt := 14) dX10_words_4 (by decide) (fun c_1 => ?_) (fun c_1 => ?_)
  · refine v_iconst G (v := (0 : Int32)) dX10_words_14 (by decide) ?_
    exact v_iret G rfl rfl dX10_words_15
  · refine v_aload_n G 0 dX10_words_7 rfl ?_
    refine v_geti G (ci := 10) (T := TX10) (j := 8) inX10 rfl rfl rfl (by decide) w4_103 dX10_words_8 ?_
    refine v_goto G (tgt := 15) dX10_words_11 (by decide) ?_
    exact v_iret G rfl rfl dX10_words_15
/-! SensorNodeModel.word -/
theorem qyX10_word : yX10_word.cls ≠ "java/lang/invoke/MethodHandle" ∧ yX10_word.cls ≠ "java/lang/invoke/VarHandle" ∧ (parseMethodDescriptor yX10_word.desc).map (fun d => d.parameters.length) = some 1 := by decide +kernel
noncomputable def f_M_word (S : St) (a1 : Int32) : Int32 := (if (S 0 0) = 0 then (0 : Int32) else (if a1 < 0 then (0 : Int32) else (if a1 < (S 0 8) then S 1 a1.toNatClampNeg else (0 : Int32))))
def k_M_word (S : St) (a1 : Int32) : Prop := (if (S 0 0) = 0 then True else (if a1 < 0 then True else (if a1 < (S 0 8) then vp_in a1 6219 else True)))
set_option linter.unusedVariables false in
set_option maxHeartbeats 4000000 in
set_option maxRecDepth 100000 in
theorem c_M_word (l : Launch) {X : vD} (hJ : sh_J X) (hX : shp X = shM)  (S : St) (a1 : Int32) (hk : k_M_word S a1) : Con l X yX10_word cX10_word 2 (some .int) 0 [.ref (adr X 0), .int a1] S (some (.int (f_M_word S a1)), S) := by
  refine con_of (ρ := (fun r : Int32 => ((some (.int r), S) : Option Value × St))) (K := f_M_word S a1) hJ hX (by decide) (Nat.le_of_ble_eq_true rfl) (lv := [(0, .ref (adr X 0)), (1, .int a1)]) rfl ?_
  intro p e s m below meth c G
  have G : vG p s m _ meth c X shM "SensorNodeModel" cX10_word 2 (some .int) := G
  unfold f_M_word
  unfold k_M_word at hk
  refine v_aload_n G 0 dX10_word_0 rfl ?_
  refine v_geti G (ci := 10) (T := TX10) (j := 0) inX10 rfl rfl rfl (by decide) w4_95 dX10_word_1 ?_
  refine v_if_eq G (tgt := 28) dX10_word_4 (by decide) (fun c_1 => ?_) (fun c_1 => ?_)
  · refine v_iconst G (v := (0 : Int32)) dX10_word_28 (by decide) ?_
    exact v_iret G rfl rfl dX10_word_29
  · replace hk := ok_f c_1 hk
    refine v_iload_n G 1 dX10_word_7 rfl ?_
    refine v_if_lt G (tgt := 28) dX10_word_8 (by decide) (fun c_2 => ?_) (fun c_2 => ?_)
    · refine v_iconst G (v := (0 : Int32)) dX10_word_28 (by decide) ?_
      exact v_iret G rfl rfl dX10_word_29
    · replace hk := ok_f c_2 hk
      refine v_iload_n G 1 dX10_word_11 rfl ?_
      refine v_aload_n G 0 dX10_word_12 rfl ?_
      refine v_geti G (ci := 10) (T := TX10) (j := 8) inX10 rfl rfl rfl (by decide) w4_103 dX10_word_13 ?_
      refine v_icmp_ge G (tgt := 28) dX10_word_16 (by decide) (fun c_3 => ?_) (fun c_3 => ?_)
      · refine v_iconst G (v := (0 : Int32)) dX10_word_28 (by decide) ?_
        exact v_iret G rfl rfl dX10_word_29
      · replace hk := ok_t c_3 hk
        refine v_aload_n G 0 dX10_word_19 rfl ?_
        refine v_getr G (ci := 10) (T := TX10) (j := 11) inX10 rfl rfl rfl (by decide) w4_106 dX10_word_20 ?_
        refine v_iload_n G 1 dX10_word_23 rfl ?_
        refine v_iald G rfl hk dX10_word_24 ?_
        refine v_goto G (tgt := 29) dX10_word_25 (by decide) ?_
        exact v_iret G rfl rfl dX10_word_29
/-! SensorNodeModel.frames -/
theorem qyX10_frames : yX10_frames.cls ≠ "java/lang/invoke/MethodHandle" ∧ yX10_frames.cls ≠ "java/lang/invoke/VarHandle" ∧ (parseMethodDescriptor yX10_frames.desc).map (fun d => d.parameters.length) = some 0 := by decide +kernel
noncomputable def f_M_frames (S : St) : Int32 := S 11 0
set_option linter.unusedVariables false in
set_option maxHeartbeats 4000000 in
set_option maxRecDepth 100000 in
theorem c_M_frames (l : Launch) {X : vD} (hJ : sh_J X) (hX : shp X = shM)  (S : St)  : Con l X yX10_frames cX10_frames 1 (some .int) 0 [.ref (adr X 0)] S (some (.int (f_M_frames S)), S) := by
  refine con_of (ρ := (fun r : Int32 => ((some (.int r), S) : Option Value × St))) (K := f_M_frames S) hJ hX (by decide) (Nat.le_of_ble_eq_true rfl) (lv := [(0, .ref (adr X 0))]) rfl ?_
  intro p e s m below meth c G
  have G : vG p s m _ meth c X shM "SensorNodeModel" cX10_frames 1 (some .int) := G
  unfold f_M_frames
  refine v_aload_n G 0 dX10_frames_0 rfl ?_
  refine v_getr G (ci := 10) (T := TX10) (j := 18) inX10 rfl rfl rfl (by decide) w4_113 dX10_frames_1 ?_
  refine v_geti G (ci := 8) (T := TX8) (j := 0) inX8 rfl rfl rfl (by decide) w4_70 dX10_frames_4 ?_
  exact v_iret G rfl rfl dX10_frames_7
/-! SensorNodeModel.frame -/
theorem qyX10_frame : yX10_frame.cls ≠ "java/lang/invoke/MethodHandle" ∧ yX10_frame.cls ≠ "java/lang/invoke/VarHandle" ∧ (parseMethodDescriptor yX10_frame.desc).map (fun d => d.parameters.length) = some 2 := by decide +kernel
noncomputable def f_M_frame (S : St) (a1 : Int32) (a2 : Int32) : Int32 := (if (f_A_has S 11 12 13 14 15 a1) = 0 then (-1 : Int32) else (if a2 = 0 then S 12 a1.toNatClampNeg else (if a2 = (1 : Int32) then S 13 a1.toNatClampNeg else (if a2 = (2 : Int32) then S 14 a1.toNatClampNeg else (-1 : Int32)))))
def k_M_frame (S : St) (a1 : Int32) (a2 : Int32) : Prop := (if (f_A_has S 11 12 13 14 15 a1) = 0 then True else (if a2 = 0 then vp_in a1 400 else (if a2 = (1 : Int32) then vp_in a1 400 else (if a2 = (2 : Int32) then vp_in a1 400 else True))))
set_option linter.unusedVariables false in
set_option maxHeartbeats 4000000 in
set_option maxRecDepth 100000 in
theorem c_M_frame (l : Launch) {X : vD} (hJ : sh_J X) (hX : shp X = shM)  (S : St) (a1 : Int32) (a2 : Int32) (hk : k_M_frame S a1 a2) : Con l X yX10_frame cX10_frame 3 (some .int) 1 [.ref (adr X 0), .int a1, .int a2] S (some (.int (f_M_frame S a1 a2)), S) := by
  refine con_of (ρ := (fun r : Int32 => ((some (.int r), S) : Option Value × St))) (K := f_M_frame S a1 a2) hJ hX (by decide) (Nat.le_of_ble_eq_true rfl) (lv := [(0, .ref (adr X 0)), (1, .int a1), (2, .int a2)]) rfl ?_
  intro p e s m below meth c G
  have G : vG p s m _ meth c X shM "SensorNodeModel" cX10_frame 3 (some .int) := G
  unfold f_M_frame
  unfold k_M_frame at hk
  refine v_aload_n G 0 dX10_frame_0 rfl ?_
  refine v_getr G (ci := 10) (T := TX10) (j := 18) inX10 rfl rfl rfl (by decide) w4_113 dX10_frame_1 ?_
  refine v_iload_n G 1 dX10_frame_4 rfl ?_
  refine v_callVi G (As := [.int a1]) (st := []) (c_A_has l hJ hX 11 12 13 14 15 ⟨rfl, rfl, rfl, rfl, rfl⟩ S a1) (by decide) (by decide) (ci := 8) rfl rfl w5_160 w5_161 w5_162 w1_11 w5_163 qyX8_has rfl (Nat.le_of_ble_eq_true rfl) dX10_frame_5 ?_
  refine v_if_ne G (tgt := 13) dX10_frame_8 (by decide) (fun c_1 => ?_) (fun c_1 => ?_)
  · replace hk := ok_f c_1 hk
    refine v_iload_n G 2 dX10_frame_13 rfl ?_
    refine v_if_ne G (tgt := 29) dX10_frame_14 (by decide) (fun c_2 => ?_) (fun c_2 => ?_)
    · replace hk := ok_f c_2 hk
      refine v_iload_n G 2 dX10_frame_29 rfl ?_
      refine v_iconst G (v := (1 : Int32)) dX10_frame_30 (by decide) ?_
      refine v_icmp_ne G (tgt := 46) dX10_frame_31 (by decide) (fun c_3 => ?_) (fun c_3 => ?_)
      · replace hk := ok_f c_3 hk
        refine v_iload_n G 2 dX10_frame_46 rfl ?_
        refine v_iconst G (v := (2 : Int32)) dX10_frame_47 (by decide) ?_
        refine v_icmp_ne G (tgt := 63) dX10_frame_48 (by decide) (fun c_4 => ?_) (fun c_4 => ?_)
        · refine v_iconst G (v := (-1 : Int32)) dX10_frame_63 (by decide) ?_
          exact v_iret G rfl rfl dX10_frame_64
        · replace hk := ok_t c_4 hk
          refine v_aload_n G 0 dX10_frame_51 rfl ?_
          refine v_getr G (ci := 10) (T := TX10) (j := 18) inX10 rfl rfl rfl (by decide) w4_113 dX10_frame_52 ?_
          refine v_getr G (ci := 8) (T := TX8) (j := 3) inX8 rfl rfl rfl (by decide) w4_80 dX10_frame_55 ?_
          refine v_iload_n G 1 dX10_frame_58 rfl ?_
          refine v_iald G rfl hk dX10_frame_59 ?_
          refine v_goto G (tgt := 64) dX10_frame_60 (by decide) ?_
          exact v_iret G rfl rfl dX10_frame_64
      · replace hk := ok_t c_3 hk
        refine v_aload_n G 0 dX10_frame_34 rfl ?_
        refine v_getr G (ci := 10) (T := TX10) (j := 18) inX10 rfl rfl rfl (by decide) w4_113 dX10_frame_35 ?_
        refine v_getr G (ci := 8) (T := TX8) (j := 2) inX8 rfl rfl rfl (by decide) w4_77 dX10_frame_38 ?_
        refine v_iload_n G 1 dX10_frame_41 rfl ?_
        refine v_iald G rfl hk dX10_frame_42 ?_
        refine v_goto G (tgt := 64) dX10_frame_43 (by decide) ?_
        exact v_iret G rfl rfl dX10_frame_64
    · replace hk := ok_t c_2 hk
      refine v_aload_n G 0 dX10_frame_17 rfl ?_
      refine v_getr G (ci := 10) (T := TX10) (j := 18) inX10 rfl rfl rfl (by decide) w4_113 dX10_frame_18 ?_
      refine v_getr G (ci := 8) (T := TX8) (j := 1) inX8 rfl rfl rfl (by decide) w4_74 dX10_frame_21 ?_
      refine v_iload_n G 1 dX10_frame_24 rfl ?_
      refine v_iald G rfl hk dX10_frame_25 ?_
      refine v_goto G (tgt := 64) dX10_frame_26 (by decide) ?_
      exact v_iret G rfl rfl dX10_frame_64
  · refine v_iconst G (v := (-1 : Int32)) dX10_frame_11 (by decide) ?_
    exact v_iret G rfl rfl dX10_frame_12
/-! SensorNodeModel.heard -/
theorem qyX10_heard : yX10_heard.cls ≠ "java/lang/invoke/MethodHandle" ∧ yX10_heard.cls ≠ "java/lang/invoke/VarHandle" ∧ (parseMethodDescriptor yX10_heard.desc).map (fun d => d.parameters.length) = some 2 := by decide +kernel
noncomputable def f_M_heard (S : St) (a1 : Int32) (a2 : Int32) : Int32 := f_A_at S 11 12 13 14 15 a1 a2
def k_M_heard (S : St) (a1 : Int32) (a2 : Int32) : Prop := k_A_at S 11 12 13 14 15 a1 a2
set_option linter.unusedVariables false in
set_option maxHeartbeats 4000000 in
set_option maxRecDepth 100000 in
theorem c_M_heard (l : Launch) {X : vD} (hJ : sh_J X) (hX : shp X = shM)  (S : St) (a1 : Int32) (a2 : Int32) (hk : k_M_heard S a1 a2) : Con l X yX10_heard cX10_heard 3 (some .int) 2 [.ref (adr X 0), .int a1, .int a2] S (some (.int (f_M_heard S a1 a2)), S) := by
  refine con_of (ρ := (fun r : Int32 => ((some (.int r), S) : Option Value × St))) (K := f_M_heard S a1 a2) hJ hX (by decide) (Nat.le_of_ble_eq_true rfl) (lv := [(0, .ref (adr X 0)), (1, .int a1), (2, .int a2)]) rfl ?_
  intro p e s m below meth c G
  have G : vG p s m _ meth c X shM "SensorNodeModel" cX10_heard 3 (some .int) := G
  unfold f_M_heard
  unfold k_M_heard at hk
  refine v_aload_n G 0 dX10_heard_0 rfl ?_
  refine v_getr G (ci := 10) (T := TX10) (j := 18) inX10 rfl rfl rfl (by decide) w4_113 dX10_heard_1 ?_
  refine v_iload_n G 1 dX10_heard_4 rfl ?_
  refine v_iload_n G 2 dX10_heard_5 rfl ?_
  refine v_callVi G (As := [.int a1, .int a2]) (st := []) (c_A_at l hJ hX 11 12 13 14 15 ⟨rfl, rfl, rfl, rfl, rfl⟩ S a1 a2 hk) (by decide) (by decide) (ci := 8) rfl rfl w5_168 w5_169 w5_170 w1_11 w5_171 qyX8_at rfl (Nat.le_of_ble_eq_true rfl) dX10_heard_6 ?_
  exact v_iret G rfl rfl dX10_heard_9
/-! SensorNodeModel.count -/
theorem qyX10_count : yX10_count.cls ≠ "java/lang/invoke/MethodHandle" ∧ yX10_count.cls ≠ "java/lang/invoke/VarHandle" ∧ (parseMethodDescriptor yX10_count.desc).map (fun d => d.parameters.length) = some 1 := by decide +kernel
noncomputable def f_M_count (S : St) (a1 : Int32) : Int32 := (if (S 0 0) = 0 then (-1 : Int32) else (if a1 = (0 : Int32) then S 0 25
 else (if a1 = (1 : Int32) then S 0 26
 else (if a1 = (2 : Int32) then S 0 28
 else (if a1 = (3 : Int32) then S 0 27
 else (if a1 = (4 : Int32) then S 0 29
 else (if a1 = (5 : Int32) then S 0 30
 else (if a1 = (6 : Int32) then S 0 31
 else (-1 : Int32)))))))))
set_option linter.unusedVariables false in
set_option maxHeartbeats 4000000 in
set_option maxRecDepth 100000 in
theorem c_M_count (l : Launch) {X : vD} (hJ : sh_J X) (hX : shp X = shM)  (S : St) (a1 : Int32)  : Con l X yX10_count cX10_count 2 (some .int) 0 [.ref (adr X 0), .int a1] S (some (.int (f_M_count S a1)), S) := by
  refine con_of (ρ := (fun r : Int32 => ((some (.int r), S) : Option Value × St))) (K := f_M_count S a1) hJ hX (by decide) (Nat.le_of_ble_eq_true rfl) (lv := [(0, .ref (adr X 0)), (1, .int a1)]) rfl ?_
  intro p e s m below meth c G
  have G : vG p s m _ meth c X shM "SensorNodeModel" cX10_count 2 (some .int) := G
  unfold f_M_count
  refine v_aload_n G 0 dX10_count_0 rfl ?_
  refine v_geti G (ci := 10) (T := TX10) (j := 0) inX10 rfl rfl rfl (by decide) w4_95 dX10_count_1 ?_
  refine v_if_ne G (tgt := 9) dX10_count_4 (by decide) (fun c_1 => ?_) (fun c_1 => ?_)
  · refine v_iload_n G 1 dX10_count_9 rfl ?_
    refine v_sw (0 : Int32) (fun h_2 => ?_) (fun h_2 => ?_)
    · refine v_tableIn G (tgt := 52) (off := 42) dX10_count_10 (by decide) (by decide) (by decide) (by decide) ?_
      refine v_aload_n G 0 dX10_count_52 rfl ?_
      refine v_geti G (ci := 10) (T := TX10) (j := 25) inX10 rfl rfl rfl (by decide) w4_120 dX10_count_53 ?_
      exact v_iret G rfl rfl dX10_count_56
    refine v_sw (1 : Int32) (fun h_3 => ?_) (fun h_3 => ?_)
    · refine v_tableIn G (tgt := 57) (off := 47) dX10_count_10 (by decide) (by decide) (by decide) (by decide) ?_
      refine v_aload_n G 0 dX10_count_57 rfl ?_
      refine v_geti G (ci := 10) (T := TX10) (j := 26) inX10 rfl rfl rfl (by decide) w4_121 dX10_count_58 ?_
      exact v_iret G rfl rfl dX10_count_61
    refine v_sw (2 : Int32) (fun h_4 => ?_) (fun h_4 => ?_)
    · refine v_tableIn G (tgt := 62) (off := 52) dX10_count_10 (by decide) (by decide) (by decide) (by decide) ?_
      refine v_aload_n G 0 dX10_count_62 rfl ?_
      refine v_geti G (ci := 10) (T := TX10) (j := 28) inX10 rfl rfl rfl (by decide) w4_123 dX10_count_63 ?_
      exact v_iret G rfl rfl dX10_count_66
    refine v_sw (3 : Int32) (fun h_5 => ?_) (fun h_5 => ?_)
    · refine v_tableIn G (tgt := 67) (off := 57) dX10_count_10 (by decide) (by decide) (by decide) (by decide) ?_
      refine v_aload_n G 0 dX10_count_67 rfl ?_
      refine v_geti G (ci := 10) (T := TX10) (j := 27) inX10 rfl rfl rfl (by decide) w4_122 dX10_count_68 ?_
      exact v_iret G rfl rfl dX10_count_71
    refine v_sw (4 : Int32) (fun h_6 => ?_) (fun h_6 => ?_)
    · refine v_tableIn G (tgt := 72) (off := 62) dX10_count_10 (by decide) (by decide) (by decide) (by decide) ?_
      refine v_aload_n G 0 dX10_count_72 rfl ?_
      refine v_geti G (ci := 10) (T := TX10) (j := 29) inX10 rfl rfl rfl (by decide) w4_124 dX10_count_73 ?_
      exact v_iret G rfl rfl dX10_count_76
    refine v_sw (5 : Int32) (fun h_7 => ?_) (fun h_7 => ?_)
    · refine v_tableIn G (tgt := 77) (off := 67) dX10_count_10 (by decide) (by decide) (by decide) (by decide) ?_
      refine v_aload_n G 0 dX10_count_77 rfl ?_
      refine v_geti G (ci := 10) (T := TX10) (j := 30) inX10 rfl rfl rfl (by decide) w4_125 dX10_count_78 ?_
      exact v_iret G rfl rfl dX10_count_81
    refine v_sw (6 : Int32) (fun h_8 => ?_) (fun h_8 => ?_)
    · refine v_tableIn G (tgt := 82) (off := 72) dX10_count_10 (by decide) (by decide) (by decide) (by decide) ?_
      refine v_aload_n G 0 dX10_count_82 rfl ?_
      refine v_geti G (ci := 10) (T := TX10) (j := 31) inX10 rfl rfl rfl (by decide) w4_126 dX10_count_83 ?_
      exact v_iret G rfl rfl dX10_count_86
    have th_2 := lv_neT (a := 0) h_2 (by decide)
    have th_3 := lv_neT (a := 1) h_3 (by decide)
    have th_4 := lv_neT (a := 2) h_4 (by decide)
    have th_5 := lv_neT (a := 3) h_5 (by decide)
    have th_6 := lv_neT (a := 4) h_6 (by decide)
    have th_7 := lv_neT (a := 5) h_7 (by decide)
    have th_8 := lv_neT (a := 6) h_8 (by decide)
    refine v_tableOut G (tgt := 87) dX10_count_10 (by omega) (by decide) ?_
    refine v_iconst G (v := (-1 : Int32)) dX10_count_87 (by decide) ?_
    exact v_iret G rfl rfl dX10_count_88
  · refine v_iconst G (v := (-1 : Int32)) dX10_count_7 (by decide) ?_
    exact v_iret G rfl rfl dX10_count_8

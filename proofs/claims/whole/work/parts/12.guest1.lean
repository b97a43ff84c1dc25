/-! SensorNode$Guest.setStoreStart -/
theorem qyX1_setStoreStart : yX1_setStoreStart.cls ≠ "java/lang/invoke/MethodHandle" ∧ yX1_setStoreStart.cls ≠ "java/lang/invoke/VarHandle" ∧ (parseMethodDescriptor yX1_setStoreStart.desc).map (fun d => d.parameters.length) = some 1 := by decide +kernel
noncomputable def f_G_setStoreStart (S : St) (kg ko km ks n : Nat) (a1 : Int32) : St := bnv (st_up S kg 4 a1) (fun S_1 => S_1)
set_option linter.unusedVariables false in
set_option maxHeartbeats 4000000 in
set_option maxRecDepth 100000 in
theorem c_G_setStoreStart (l : Launch) {X : vD} (hJ : sh_J X) (hX : shp X = shX) (kg ko km ks n : Nat) (hG : isG kg ko km ks n) (S : St) (a1 : Int32)  : Con l X yX1_setStoreStart cX1_setStoreStart 2 none 0 [.ref (adr X kg), .int a1] S (none, f_G_setStoreStart S kg ko km ks n a1) := by
  refine con_of (ρ := (fun S : St => ((none, S) : Option Value × St))) (K := f_G_setStoreStart S kg ko km ks n a1) hJ hX (by decide) (Nat.le_of_ble_eq_true rfl) (lv := [(0, .ref (adr X kg)), (1, .int a1)]) rfl ?_
  intro p e s m below meth c G
  have G : vG p s m _ meth c X shX "SensorNode$Guest" cX1_setStoreStart 2 none := G
  unfold f_G_setStoreStart
  refine v_aload_n G 0 dX1_setStoreStart_0 rfl ?_
  refine v_iload_n G 1 dX1_setStoreStart_1 rfl ?_
  refine v_puti G (ci := 1) (T := TX1) (j := 4) inX1 rfl hG.1 tyX1_ok nmX1 rfl (by decide) rfl rfl rfl w1_132 dX1_setStoreStart_2 (fun S_1 eS_1 => ?_)
  exact v_vret G rfl rfl dX1_setStoreStart_5
/-! SensorNode$Guest.owned -/
theorem qyX1_owned : yX1_owned.cls ≠ "java/lang/invoke/MethodHandle" ∧ yX1_owned.cls ≠ "java/lang/invoke/VarHandle" ∧ (parseMethodDescriptor yX1_owned.desc).map (fun d => d.parameters.length) = some 1 := by decide +kernel
noncomputable def f_G_owned (S : St) (kg ko km ks n : Nat) (a1 : Int32) : Int32 := (if a1 < 0 then (0 : Int32) else (if a1 < (36 : Int32) then S ko a1.toNatClampNeg else (0 : Int32)))
set_option linter.unusedVariables false in
set_option maxHeartbeats 4000000 in
set_option maxRecDepth 100000 in
theorem c_G_owned (l : Launch) {X : vD} (hJ : sh_J X) (hX : shp X = shX) (kg ko km ks n : Nat) (hG : isG kg ko km ks n) (S : St) (a1 : Int32)  : Con l X yX1_owned cX1_owned 2 (some .int) 0 [.ref (adr X kg), .int a1] S (some (.int (f_G_owned S kg ko km ks n a1)), S) := by
  refine con_of (ρ := (fun r : Int32 => ((some (.int r), S) : Option Value × St))) (K := f_G_owned S kg ko km ks n a1) hJ hX (by decide) (Nat.le_of_ble_eq_true rfl) (lv := [(0, .ref (adr X kg)), (1, .int a1)]) rfl ?_
  intro p e s m below meth c G
  have G : vG p s m _ meth c X shX "SensorNode$Guest" cX1_owned 2 (some .int) := G
  unfold f_G_owned
  refine v_iload_n G 1 dX1_owned_0 rfl ?_
  refine v_if_lt G (tgt := 19) dX1_owned_1 (by decide) (fun c_1 => ?_) (fun c_1 => ?_)
  · refine v_iconst G (v := (0 : Int32)) dX1_owned_19 (by decide) ?_
    exact v_iret G rfl rfl dX1_owned_20
  · refine v_iload_n G 1 dX1_owned_4 rfl ?_
    refine v_bipush G (v := (36 : Int32)) dX1_owned_5 (by decide) ?_
    refine v_icmp_ge G (tgt := 19) dX1_owned_7 (by decide) (fun c_2 => ?_) (fun c_2 => ?_)
    · refine v_iconst G (v := (0 : Int32)) dX1_owned_19 (by decide) ?_
      exact v_iret G rfl rfl dX1_owned_20
    · refine v_aload_n G 0 dX1_owned_10 rfl ?_
      refine v_getr G (ci := 1) (T := TX1) (j := 1) inX1 rfl hG.1 rfl (by decide) w1_129 dX1_owned_11 ?_
      refine v_iload_n G 1 dX1_owned_14 rfl ?_
      refine v_iald G hG.2.1 (vi_br (by assumption) (by assumption) (by decide)) dX1_owned_15 ?_
      refine v_goto G (tgt := 20) dX1_owned_16 (by decide) ?_
      exact v_iret G rfl rfl dX1_owned_20
/-! SensorNode$Guest.saved -/
theorem qyX1_saved : yX1_saved.cls ≠ "java/lang/invoke/MethodHandle" ∧ yX1_saved.cls ≠ "java/lang/invoke/VarHandle" ∧ (parseMethodDescriptor yX1_saved.desc).map (fun d => d.parameters.length) = some 1 := by decide +kernel
noncomputable def f_G_saved (S : St) (kg ko km ks n : Nat) (a1 : Int32) : Int32 := bnx (a1 - (36 : Int32)) (fun x_1 => (if x_1 < 0 then f_G_owned S kg ko km ks n a1 else (if x_1 < (nI 1024) then S km x_1.toNatClampNeg else f_G_owned S kg ko km ks n a1)))
set_option linter.unusedVariables false in
set_option maxHeartbeats 4000000 in
set_option maxRecDepth 100000 in
theorem c_G_saved (l : Launch) {X : vD} (hJ : sh_J X) (hX : shp X = shX) (kg ko km ks n : Nat) (hG : isG kg ko km ks n) (S : St) (a1 : Int32)  : Con l X yX1_saved cX1_saved 3 (some .int) 1 [.ref (adr X kg), .int a1] S (some (.int (f_G_saved S kg ko km ks n a1)), S) := by
  refine con_of (ρ := (fun r : Int32 => ((some (.int r), S) : Option Value × St))) (K := f_G_saved S kg ko km ks n a1) hJ hX (by decide) (Nat.le_of_ble_eq_true rfl) (lv := [(0, .ref (adr X kg)), (1, .int a1)]) rfl ?_
  intro p e s m below meth c G
  have G : vG p s m _ meth c X shX "SensorNode$Guest" cX1_saved 3 (some .int) := G
  unfold f_G_saved
  refine v_iload_n G 1 dX1_saved_0 rfl ?_
  refine v_bipush G (v := (36 : Int32)) dX1_saved_1 (by decide) ?_
  refine v_isub G dX1_saved_3 ?_
  refine v_namei (fun x_1 ex_1 => ?_)
  refine v_istore_n G [(2, .int x_1), (0, .ref (adr X kg)), (1, .int a1)] dX1_saved_4 (by decide) rfl ?_
  refine v_iload_n G 0 dX1_saved_5 rfl ?_
  refine v_if_lt G (tgt := 27) dX1_saved_6 (by decide) (fun c_2 => ?_) (fun c_2 => ?_)
  · refine v_aload_n G 1 dX1_saved_27 rfl ?_
    refine v_iload_n G 2 dX1_saved_28 rfl ?_
    refine v_callVi G (As := [.int a1]) (st := []) (c_G_owned l hJ hX kg ko km ks n hG S a1) (by decide) (by decide) (ci := 1) rfl hG.1 w3_22 w3_23 w3_24 w1_7 w3_25 qyX1_owned rfl (Nat.le_of_ble_eq_true rfl) dX1_saved_29 ?_
    exact v_iret G rfl rfl dX1_saved_32
  · refine v_iload_n G 0 dX1_saved_9 rfl ?_
    refine v_aload_n G 1 dX1_saved_10 rfl ?_
    refine v_getr G (ci := 1) (T := TX1) (j := 2) inX1 rfl hG.1 rfl (by decide) w1_130 dX1_saved_11 ?_
    refine v_alen G (ty := .int) hG.2.2.1 rfl dX1_saved_14 ?_
    refine v_icmp_ge G (tgt := 27) dX1_saved_15 (by decide) (fun c_3 => ?_) (fun c_3 => ?_)
    · refine v_aload_n G 1 dX1_saved_27 rfl ?_
      refine v_iload_n G 2 dX1_saved_28 rfl ?_
      refine v_callVi G (As := [.int a1]) (st := []) (c_G_owned l hJ hX kg ko km ks n hG S a1) (by decide) (by decide) (ci := 1) rfl hG.1 w3_22 w3_23 w3_24 w1_7 w3_25 qyX1_owned rfl (Nat.le_of_ble_eq_true rfl) dX1_saved_29 ?_
      exact v_iret G rfl rfl dX1_saved_32
    · refine v_aload_n G 1 dX1_saved_18 rfl ?_
      refine v_getr G (ci := 1) (T := TX1) (j := 2) inX1 rfl hG.1 rfl (by decide) w1_130 dX1_saved_19 ?_
      refine v_iload_n G 0 dX1_saved_22 rfl ?_
      refine v_iald G hG.2.2.1 (vi_br (by assumption) (by assumption) (by decide)) dX1_saved_23 ?_
      refine v_goto G (tgt := 32) dX1_saved_24 (by decide) ?_
      exact v_iret G rfl rfl dX1_saved_32
/-! SensorNode$Guest.restore -/
theorem qyX1_restore : yX1_restore.cls ≠ "java/lang/invoke/MethodHandle" ∧ yX1_restore.cls ≠ "java/lang/invoke/VarHandle" ∧ (parseMethodDescriptor yX1_restore.desc).map (fun d => d.parameters.length) = some 2 := by decide +kernel
noncomputable def f_G_restore (S : St) (kg ko km ks n : Nat) (a1 : Int32) (a2 : Int32) : St := bnx (a1 - (36 : Int32)) (fun x_1 => (if a1 < 0 then (if x_1 < 0 then S else (if x_1 < (nI 1024) then bnv (st_up S km x_1.toNatClampNeg a2) (fun S_5 => S_5) else S)) else (if a1 < (36 : Int32) then bnv (st_up S ko a1.toNatClampNeg a2) (fun S_10 => S_10) else (if x_1 < 0 then S else (if x_1 < (nI 1024) then bnv (st_up S km x_1.toNatClampNeg a2) (fun S_9 => S_9) else S)))))
set_option linter.unusedVariables false in
set_option maxHeartbeats 4000000 in
set_option maxRecDepth 100000 in
theorem c_G_restore (l : Launch) {X : vD} (hJ : sh_J X) (hX : shp X = shX) (kg ko km ks n : Nat) (hG : isG kg ko km ks n) (S : St) (a1 : Int32) (a2 : Int32)  : Con l X yX1_restore cX1_restore 4 none 0 [.ref (adr X kg), .int a1, .int a2] S (none, f_G_restore S kg ko km ks n a1 a2) := by
  refine con_of (ρ := (fun S : St => ((none, S) : Option Value × St))) (K := f_G_restore S kg ko km ks n a1 a2) hJ hX (by decide) (Nat.le_of_ble_eq_true rfl) (lv := [(0, .ref (adr X kg)), (1, .int a1), (2, .int a2)]) rfl ?_
  intro p e s m below meth c G
  have G : vG p s m _ meth c X shX "SensorNode$Guest" cX1_restore 4 none := G
  unfold f_G_restore
  refine v_iload_n G 1 dX1_restore_0 rfl ?_
  refine v_bipush G (v := (36 : Int32)) dX1_restore_1 (by decide) ?_
  refine v_isub G dX1_restore_3 ?_
  refine v_namei (fun x_1 ex_1 => ?_)
  refine v_istore_n G [(3, .int x_1), (0, .ref (adr X kg)), (1, .int a1), (2, .int a2)] dX1_restore_4 (by decide) rfl ?_
  refine v_iload_n G 2 dX1_restore_5 rfl ?_
  refine v_if_lt G (tgt := 25) dX1_restore_6 (by decide) (fun c_2 => ?_) (fun c_2 => ?_)
  · refine v_iload_n G 0 dX1_restore_25 rfl ?_
    refine v_if_lt G (tgt := 45) dX1_restore_26 (by decide) (fun c_3 => ?_) (fun c_3 => ?_)
    · exact v_vret G rfl rfl dX1_restore_45
    · refine v_iload_n G 0 dX1_restore_29 rfl ?_
      refine v_aload_n G 1 dX1_restore_30 rfl ?_
      refine v_getr G (ci := 1) (T := TX1) (j := 2) inX1 rfl hG.1 rfl (by decide) w1_130 dX1_restore_31 ?_
      refine v_alen G (ty := .int) hG.2.2.1 rfl dX1_restore_34 ?_
      refine v_icmp_ge G (tgt := 45) dX1_restore_35 (by decide) (fun c_4 => ?_) (fun c_4 => ?_)
      · exact v_vret G rfl rfl dX1_restore_45
      · refine v_aload_n G 1 dX1_restore_38 rfl ?_
        refine v_getr G (ci := 1) (T := TX1) (j := 2) inX1 rfl hG.1 rfl (by decide) w1_130 dX1_restore_39 ?_
        refine v_iload_n G 0 dX1_restore_42 rfl ?_
        refine v_iload_n G 3 dX1_restore_43 rfl ?_
        refine v_iast G hG.2.2.1 (vi_br (by assumption) (by assumption) (by decide)) dX1_restore_44 (fun S_5 eS_5 => ?_)
        exact v_vret G rfl rfl dX1_restore_45
  · refine v_iload_n G 2 dX1_restore_9 rfl ?_
    refine v_bipush G (v := (36 : Int32)) dX1_restore_10 (by decide) ?_
    refine v_icmp_ge G (tgt := 25) dX1_restore_12 (by decide) (fun c_6 => ?_) (fun c_6 => ?_)
    · refine v_iload_n G 0 dX1_restore_25 rfl ?_
      refine v_if_lt G (tgt := 45) dX1_restore_26 (by decide) (fun c_7 => ?_) (fun c_7 => ?_)
      · exact v_vret G rfl rfl dX1_restore_45
      · refine v_iload_n G 0 dX1_restore_29 rfl ?_
        refine v_aload_n G 1 dX1_restore_30 rfl ?_
        refine v_getr G (ci := 1) (T := TX1) (j := 2) inX1 rfl hG.1 rfl (by decide) w1_130 dX1_restore_31 ?_
        refine v_alen G (ty := .int) hG.2.2.1 rfl dX1_restore_34 ?_
        refine v_icmp_ge G (tgt := 45) dX1_restore_35 (by decide) (fun c_8 => ?_) (fun c_8 => ?_)
        · exact v_vret G rfl rfl dX1_restore_45
        · refine v_aload_n G 1 dX1_restore_38 rfl ?_
          refine v_getr G (ci := 1) (T := TX1) (j := 2) inX1 rfl hG.1 rfl (by decide) w1_130 dX1_restore_39 ?_
          refine v_iload_n G 0 dX1_restore_42 rfl ?_
          refine v_iload_n G 3 dX1_restore_43 rfl ?_
          refine v_iast G hG.2.2.1 (vi_br (by assumption) (by assumption) (by decide)) dX1_restore_44 (fun S_9 eS_9 => ?_)
          exact v_vret G rfl rfl dX1_restore_45
    · refine v_aload_n G 1 dX1_restore_15 rfl ?_
      refine v_getr G (ci := 1) (T := TX1) (j := 1) inX1 rfl hG.1 rfl (by decide) w1_129 dX1_restore_16 ?_
      refine v_iload_n G 2 dX1_restore_19 rfl ?_
      refine v_iload_n G 3 dX1_restore_20 rfl ?_
      refine v_iast G hG.2.1 (vi_br (by assumption) (by assumption) (by decide)) dX1_restore_21 (fun S_10 eS_10 => ?_)
      refine v_goto G (tgt := 45) dX1_restore_22 (by decide) ?_
      exact v_vret G rfl rfl dX1_restore_45
/-! SensorNode$Guest.kind -/
theorem qyX1_kind : yX1_kind.cls ≠ "java/lang/invoke/MethodHandle" ∧ yX1_kind.cls ≠ "java/lang/invoke/VarHandle" ∧ (parseMethodDescriptor yX1_kind.desc).map (fun d => d.parameters.length) = some 0 := by decide +kernel
noncomputable def f_G_kind (S : St) (kg ko km ks n : Nat) : Int32 := S kg 5
set_option linter.unusedVariables false in
set_option maxHeartbeats 4000000 in
set_option maxRecDepth 100000 in
theorem c_G_kind (l : Launch) {X : vD} (hJ : sh_J X) (hX : shp X = shX) (kg ko km ks n : Nat) (hG : isG kg ko km ks n) (S : St)  : Con l X yX1_kind cX1_kind 1 (some .int) 0 [.ref (adr X kg)] S (some (.int (f_G_kind S kg ko km ks n)), S) := by
  refine con_of (ρ := (fun r : Int32 => ((some (.int r), S) : Option Value × St))) (K := f_G_kind S kg ko km ks n) hJ hX (by decide) (Nat.le_of_ble_eq_true rfl) (lv := [(0, .ref (adr X kg))]) rfl ?_
  intro p e s m below meth c G
  have G : vG p s m _ meth c X shX "SensorNode$Guest" cX1_kind 1 (some .int) := G
  unfold f_G_kind
  refine v_aload_n G 0 dX1_kind_0 rfl ?_
  refine v_geti G (ci := 1) (T := TX1) (j := 5) inX1 rfl hG.1 rfl (by decide) w1_133 dX1_kind_1 ?_
  exact v_iret G rfl rfl dX1_kind_4
/-! SensorNode$Guest.cellWritten -/
theorem qyX1_cellWritten : yX1_cellWritten.cls ≠ "java/lang/invoke/MethodHandle" ∧ yX1_cellWritten.cls ≠ "java/lang/invoke/VarHandle" ∧ (parseMethodDescriptor yX1_cellWritten.desc).map (fun d => d.parameters.length) = some 0 := by decide +kernel
noncomputable def f_G_cellWritten (S : St) (kg ko km ks n : Nat) : Int32 := ((S kg 9) - (1073741824 : Int32)) >>> ((2 : Int32) &&& 31)
set_option linter.unusedVariables false in
set_option maxHeartbeats 4000000 in
set_option maxRecDepth 100000 in
theorem c_G_cellWritten (l : Launch) {X : vD} (hJ : sh_J X) (hX : shp X = shX) (kg ko km ks n : Nat) (hG : isG kg ko km ks n) (S : St)  : Con l X yX1_cellWritten cX1_cellWritten 1 (some .int) 0 [.ref (adr X kg)] S (some (.int (f_G_cellWritten S kg ko km ks n)), S) := by
  refine con_of (ρ := (fun r : Int32 => ((some (.int r), S) : Option Value × St))) (K := f_G_cellWritten S kg ko km ks n) hJ hX (by decide) (Nat.le_of_ble_eq_true rfl) (lv := [(0, .ref (adr X kg))]) rfl ?_
  intro p e s m below meth c G
  have G : vG p s m _ meth c X shX "SensorNode$Guest" cX1_cellWritten 1 (some .int) := G
  unfold f_G_cellWritten
  refine v_aload_n G 0 dX1_cellWritten_0 rfl ?_
  refine v_geti G (ci := 1) (T := TX1) (j := 9) inX1 rfl hG.1 rfl (by decide) w1_137 dX1_cellWritten_1 ?_
  refine v_ldc G (v := (1073741824 : Int32)) dX1_cellWritten_4 w2_166 ?_
  refine v_isub G dX1_cellWritten_6 ?_
  refine v_iconst G (v := (2 : Int32)) dX1_cellWritten_7 (by decide) ?_
  refine v_ishr G dX1_cellWritten_8 ?_
  exact v_iret G rfl rfl dX1_cellWritten_9
/-! SensorNode$Guest.sendLength -/
theorem qyX1_sendLength : yX1_sendLength.cls ≠ "java/lang/invoke/MethodHandle" ∧ yX1_sendLength.cls ≠ "java/lang/invoke/VarHandle" ∧ (parseMethodDescriptor yX1_sendLength.desc).map (fun d => d.parameters.length) = some 0 := by decide +kernel
noncomputable def f_G_sendLength (S : St) (kg ko km ks n : Nat) : Int32 := S ko (11 : Int32).toNatClampNeg
set_option linter.unusedVariables false in
set_option maxHeartbeats 4000000 in
set_option maxRecDepth 100000 in
theorem c_G_sendLength (l : Launch) {X : vD} (hJ : sh_J X) (hX : shp X = shX) (kg ko km ks n : Nat) (hG : isG kg ko km ks n) (S : St)  : Con l X yX1_sendLength cX1_sendLength 1 (some .int) 0 [.ref (adr X kg)] S (some (.int (f_G_sendLength S kg ko km ks n)), S) := by
  refine con_of (ρ := (fun r : Int32 => ((some (.int r), S) : Option Value × St))) (K := f_G_sendLength S kg ko km ks n) hJ hX (by decide) (Nat.le_of_ble_eq_true rfl) (lv := [(0, .ref (adr X kg))]) rfl ?_
  intro p e s m below meth c G
  have G : vG p s m _ meth c X shX "SensorNode$Guest" cX1_sendLength 1 (some .int) := G
  unfold f_G_sendLength
  refine v_aload_n G 0 dX1_sendLength_0 rfl ?_
  refine v_getr G (ci := 1) (T := TX1) (j := 1) inX1 rfl hG.1 rfl (by decide) w1_129 dX1_sendLength_1 ?_
  refine v_bipush G (v := (11 : Int32)) dX1_sendLength_4 (by decide) ?_
  refine v_iald G hG.2.1 (by unfold vp_in; decide) dX1_sendLength_6 ?_
  exact v_iret G rfl rfl dX1_sendLength_7
/-! SensorNode$Guest.sendPlace -/
theorem qyX1_sendPlace : yX1_sendPlace.cls ≠ "java/lang/invoke/MethodHandle" ∧ yX1_sendPlace.cls ≠ "java/lang/invoke/VarHandle" ∧ (parseMethodDescriptor yX1_sendPlace.desc).map (fun d => d.parameters.length) = some 0 := by decide +kernel
noncomputable def f_G_sendPlace (S : St) (kg ko km ks n : Nat) : Int32 := S ko (10 : Int32).toNatClampNeg
set_option linter.unusedVariables false in
set_option maxHeartbeats 4000000 in
set_option maxRecDepth 100000 in
theorem c_G_sendPlace (l : Launch) {X : vD} (hJ : sh_J X) (hX : shp X = shX) (kg ko km ks n : Nat) (hG : isG kg ko km ks n) (S : St)  : Con l X yX1_sendPlace cX1_sendPlace 1 (some .int) 0 [.ref (adr X kg)] S (some (.int (f_G_sendPlace S kg ko km ks n)), S) := by
  refine con_of (ρ := (fun r : Int32 => ((some (.int r), S) : Option Value × St))) (K := f_G_sendPlace S kg ko km ks n) hJ hX (by decide) (Nat.le_of_ble_eq_true rfl) (lv := [(0, .ref (adr X kg))]) rfl ?_
  intro p e s m below meth c G
  have G : vG p s m _ meth c X shX "SensorNode$Guest" cX1_sendPlace 1 (some .int) := G
  unfold f_G_sendPlace
  refine v_aload_n G 0 dX1_sendPlace_0 rfl ?_
  refine v_getr G (ci := 1) (T := TX1) (j := 1) inX1 rfl hG.1 rfl (by decide) w1_129 dX1_sendPlace_1 ?_
  refine v_bipush G (v := (10 : Int32)) dX1_sendPlace_4 (by decide) ?_
  refine v_iald G hG.2.1 (by unfold vp_in; decide) dX1_sendPlace_6 ?_
  exact v_iret G rfl rfl dX1_sendPlace_7
/-! SensorNode$Guest.inRam -/
theorem qyX1_inRam : yX1_inRam.cls ≠ "java/lang/invoke/MethodHandle" ∧ yX1_inRam.cls ≠ "java/lang/invoke/VarHandle" ∧ (parseMethodDescriptor yX1_inRam.desc).map (fun d => d.parameters.length) = some 1 := by decide +kernel
noncomputable def f_G_inRam (S : St) (kg ko km ks n : Nat) (a1 : Int32) : Int32 := (if a1 < 0 then (0 : Int32) else (if a1 < (S 1 4) then (if (a1 >>> ((2 : Int32) &&& 31)) < (nI 1024) then (1 : Int32) else (0 : Int32)) else (0 : Int32)))
set_option linter.unusedVariables false in
set_option maxHeartbeats 4000000 in
set_option maxRecDepth 100000 in
theorem c_G_inRam (l : Launch) {X : vD} (hJ : sh_J X) (hX : shp X = shX) (kg ko km ks n : Nat) (hG : isG kg ko km ks n) (S : St) (a1 : Int32)  : Con l X yX1_inRam cX1_inRam 2 (some .boolean) 0 [.ref (adr X kg), .int a1] S (some (.int (f_G_inRam S kg ko km ks n a1)), S) := by
  refine con_of (ρ := (fun r : Int32 => ((some (.int r), S) : Option Value × St))) (K := f_G_inRam S kg ko km ks n a1) hJ hX (by decide) (Nat.le_of_ble_eq_true rfl) (lv := [(0, .ref (adr X kg)), (1, .int a1)]) rfl ?_
  intro p e s m below meth c G
  have G : vG p s m _ meth c X shX "SensorNode$Guest" cX1_inRam 2 (some .boolean) := G
  unfold f_G_inRam
  refine v_iload_n G 1 dX1_inRam_0 rfl ?_
  refine v_if_lt G (tgt := 30) dX1_inRam_1 (by decide) (fun c_1 => ?_) (fun c_1 => ?_)
  · refine v_iconst G (v := (0 : Int32)) dX1_inRam_30 (by decide) ?_
    exact v_zret G rfl rfl rfl dX1_inRam_31
  · refine v_iload_n G 1 dX1_inRam_4 rfl ?_
    refine v_aload_n G 0 dX1_inRam_5 rfl ?_
    refine v_getr G (ci := 1) (T := TX1) (j := 0) inX1 rfl hG.1 rfl (by decide) w1_128 dX1_inRam_6 ?_
    refine v_getNi G (ci := 4) (T := TX4) (j := 4) inX4 rfl rfl rfl (by decide) (host := "SensorNode") (List.mem_of_getElem? (i := 1) rfl) dX1_inRam_9 ?_
    refine v_icmp_ge G (tgt := 30) dX1_inRam_12 (by decide) (fun c_2 => ?_) (fun c_2 => ?_)
    · refine v_iconst G (v := (0 : Int32)) dX1_inRam_30 (by decide) ?_
      exact v_zret G rfl rfl rfl dX1_inRam_31
    · refine v_iload_n G 1 dX1_inRam_15 rfl ?_
      refine v_iconst G (v := (2 : Int32)) dX1_inRam_16 (by decide) ?_
      refine v_ishr G dX1_inRam_17 ?_
      refine v_aload_n G 0 dX1_inRam_18 rfl ?_
      refine v_getr G (ci := 1) (T := TX1) (j := 2) inX1 rfl hG.1 rfl (by decide) w1_130 dX1_inRam_19 ?_
      refine v_alen G (ty := .int) hG.2.2.1 rfl dX1_inRam_22 ?_
      refine v_icmp_ge G (tgt := 30) dX1_inRam_23 (by decide) (fun c_3 => ?_) (fun c_3 => ?_)
      · refine v_iconst G (v := (0 : Int32)) dX1_inRam_30 (by decide) ?_
        exact v_zret G rfl rfl rfl dX1_inRam_31
      · refine v_iconst G (v := (1 : Int32)) dX1_inRam_26 (by decide) ?_
        refine v_goto G (tgt := 31) dX1_inRam_27 (by decide) ?_
        exact v_zret G rfl rfl rfl dX1_inRam_31
/-! SensorNode$Guest.holds -/
theorem qyX1_holds : yX1_holds.cls ≠ "java/lang/invoke/MethodHandle" ∧ yX1_holds.cls ≠ "java/lang/invoke/VarHandle" ∧ (parseMethodDescriptor yX1_holds.desc).map (fun d => d.parameters.length) = some 2 := by decide +kernel
noncomputable def f_G_holds (S : St) (kg ko km ks n : Nat) (a1 : Int32) (a2 : Int32) : Int32 := bnx (a1 - (1073741824 : Int32)) (fun x_1 => (if a1 < 0 then (if x_1 < 0 then (0 : Int32) else (if ((S 1 5) - a2) < x_1 then (0 : Int32) else (1 : Int32))) else (if ((S 1 4) - a2) < a1 then (if x_1 < 0 then (0 : Int32) else (if ((S 1 5) - a2) < x_1 then (0 : Int32) else (1 : Int32))) else (1 : Int32))))
set_option linter.unusedVariables false in
set_option maxHeartbeats 4000000 in
set_option maxRecDepth 100000 in
theorem c_G_holds (l : Launch) {X : vD} (hJ : sh_J X) (hX : shp X = shX) (kg ko km ks n : Nat) (hG : isG kg ko km ks n) (S : St) (a1 : Int32) (a2 : Int32)  : Con l X yX1_holds cX1_holds 4 (some .boolean) 0 [.ref (adr X kg), .int a1, .int a2] S (some (.int (f_G_holds S kg ko km ks n a1 a2)), S) := by
  refine con_of (ρ := (fun r : Int32 => ((some (.int r), S) : Option Value × St))) (K := f_G_holds S kg ko km ks n a1 a2) hJ hX (by decide) (Nat.le_of_ble_eq_true rfl) (lv := [(0, .ref (adr X kg)), (1, .int a1), (2, .int a2)]) rfl ?_
  intro p e s m below meth c G
  have G : vG p s m _ meth c X shX "SensorNode$Guest" cX1_holds 4 (some .boolean) := G
  unfold f_G_holds
  refine v_iload_n G 1 dX1_holds_0 rfl ?_
  refine v_ldc G (v := (1073741824 : Int32)) dX1_holds_1 w2_166 ?_
  refine v_isub G dX1_holds_3 ?_
  refine v_namei (fun x_1 ex_1 => ?_)
  refine v_istore_n G [(3, .int x_1), (0, .ref (adr X kg)), (1, .int a1), (2, .int a2)] dX1_holds_4 (by decide) rfl ?_
  refine v_iload_n G 2 dX1_holds_5 rfl ?_
  refine v_if_lt G (tgt := 22) dX1_holds_6 (by decide) (fun c_2 => ?_) (fun c_2 => ?_)
  · refine v_iload_n G 0 dX1_holds_22 rfl ?_
    refine v_if_lt G (tgt := 43) dX1_holds_23 (by decide) (fun c_3 => ?_) (fun c_3 => ?_)
    · refine v_iconst G (v := (0 : Int32)) dX1_holds_43 (by decide) ?_
      exact v_zret G rfl rfl rfl dX1_holds_44
    · refine v_iload_n G 0 dX1_holds_26 rfl ?_
      refine v_aload_n G 1 dX1_holds_27 rfl ?_
      refine v_getr G (ci := 1) (T := TX1) (j := 0) inX1 rfl hG.1 rfl (by decide) w1_128 dX1_holds_28 ?_
      refine v_getNi G (ci := 4) (T := TX4) (j := 5) inX4 rfl rfl rfl (by decide) (host := "SensorNode") (List.mem_of_getElem? (i := 3) rfl) dX1_holds_31 ?_
      refine v_iload_n G 3 dX1_holds_34 rfl ?_
      refine v_isub G dX1_holds_35 ?_
      refine v_icmp_gt G (tgt := 43) dX1_holds_36 (by decide) (fun c_4 => ?_) (fun c_4 => ?_)
      · refine v_iconst G (v := (0 : Int32)) dX1_holds_43 (by decide) ?_
        exact v_zret G rfl rfl rfl dX1_holds_44
      · refine v_iconst G (v := (1 : Int32)) dX1_holds_39 (by decide) ?_
        refine v_goto G (tgt := 44) dX1_holds_40 (by decide) ?_
        exact v_zret G rfl rfl rfl dX1_holds_44
  · refine v_iload_n G 2 dX1_holds_9 rfl ?_
    refine v_aload_n G 1 dX1_holds_10 rfl ?_
    refine v_getr G (ci := 1) (T := TX1) (j := 0) inX1 rfl hG.1 rfl (by decide) w1_128 dX1_holds_11 ?_
    refine v_getNi G (ci := 4) (T := TX4) (j := 4) inX4 rfl rfl rfl (by decide) (host := "SensorNode") (List.mem_of_getElem? (i := 1) rfl) dX1_holds_14 ?_
    refine v_iload_n G 3 dX1_holds_17 rfl ?_
    refine v_isub G dX1_holds_18 ?_
    refine v_icmp_le G (tgt := 39) dX1_holds_19 (by decide) (fun c_5 => ?_) (fun c_5 => ?_)
    · refine v_iconst G (v := (1 : Int32)) dX1_holds_39 (by decide) ?_
      refine v_goto G (tgt := 44) dX1_holds_40 (by decide) ?_
      exact v_zret G rfl rfl rfl dX1_holds_44
    · refine v_iload_n G 0 dX1_holds_22 rfl ?_
      refine v_if_lt G (tgt := 43) dX1_holds_23 (by decide) (fun c_6 => ?_) (fun c_6 => ?_)
      · refine v_iconst G (v := (0 : Int32)) dX1_holds_43 (by decide) ?_
        exact v_zret G rfl rfl rfl dX1_holds_44
      · refine v_iload_n G 0 dX1_holds_26 rfl ?_
        refine v_aload_n G 1 dX1_holds_27 rfl ?_
        refine v_getr G (ci := 1) (T := TX1) (j := 0) inX1 rfl hG.1 rfl (by decide) w1_128 dX1_holds_28 ?_
        refine v_getNi G (ci := 4) (T := TX4) (j := 5) inX4 rfl rfl rfl (by decide) (host := "SensorNode") (List.mem_of_getElem? (i := 3) rfl) dX1_holds_31 ?_
        refine v_iload_n G 3 dX1_holds_34 rfl ?_
        refine v_isub G dX1_holds_35 ?_
        refine v_icmp_gt G (tgt := 43) dX1_holds_36 (by decide) (fun c_7 => ?_) (fun c_7 => ?_)
        · refine v_iconst G (v := (0 : Int32)) dX1_holds_43 (by decide) ?_
          exact v_zret G rfl rfl rfl dX1_holds_44
        · refine v_iconst G (v := (1 : Int32)) dX1_holds_39 (by decide) ?_
          refine v_goto G (tgt := 44) dX1_holds_40 (by decide) ?_
          exact v_zret G rfl rfl rfl dX1_holds_44
/-! SensorNode$Guest.wordAt -/
theorem G_inRam_in {S : St} {kg ko km ks n : Nat} {a : Int32} (h : ¬ f_G_inRam S kg ko km ks n a = 0) : vp_in (a >>> ((2 : Int32) &&& 31)) 1024 := by
  unfold f_G_inRam at h
  split at h
  · exact absurd rfl h
  split at h
  · split at h
    · exact vi_br (sr_nn (by assumption)) (by assumption) (by decide)
    · exact absurd rfl h
  · exact absurd rfl h
theorem qyX1_wordAt : yX1_wordAt.cls ≠ "java/lang/invoke/MethodHandle" ∧ yX1_wordAt.cls ≠ "java/lang/invoke/VarHandle" ∧ (parseMethodDescriptor yX1_wordAt.desc).map (fun d => d.parameters.length) = some 1 := by decide +kernel
noncomputable def f_G_wordAt (S : St) (kg ko km ks n : Nat) (a1 : Int32) : Int32 := (if (f_G_inRam S kg ko km ks n a1) = 0 then bnx ((S kg 4) + ((a1 - (1073741824 : Int32)) >>> ((2 : Int32) &&& 31))) (fun x_2 => (if x_2 < 0 then (0 : Int32) else (if x_2 < (nI n) then S ks x_2.toNatClampNeg else (0 : Int32)))) else S km (a1 >>> ((2 : Int32) &&& 31)).toNatClampNeg)
set_option linter.unusedVariables false in
set_option maxHeartbeats 4000000 in
set_option maxRecDepth 100000 in
theorem c_G_wordAt (l : Launch) {X : vD} (hJ : sh_J X) (hX : shp X = shX) (kg ko km ks n : Nat) (hG : isG kg ko km ks n) (S : St) (a1 : Int32)  : Con l X yX1_wordAt cX1_wordAt 3 (some .int) 1 [.ref (adr X kg), .int a1] S (some (.int (f_G_wordAt S kg ko km ks n a1)), S) := by
  refine con_of (ρ := (fun r : Int32 => ((some (.int r), S) : Option Value × St))) (K := f_G_wordAt S kg ko km ks n a1) hJ hX (by decide) (Nat.le_of_ble_eq_true rfl) (lv := [(0, .ref (adr X kg)), (1, .int a1)]) rfl ?_
  intro p e s m below meth c G
  have G : vG p s m _ meth c X shX "SensorNode$Guest" cX1_wordAt 3 (some .int) := G
  unfold f_G_wordAt
  refine v_aload_n G 0 dX1_wordAt_0 rfl ?_
  refine v_iload_n G 1 dX1_wordAt_1 rfl ?_
  refine v_callVi G (As := [.int a1]) (st := []) (c_G_inRam l hJ hX kg ko km ks n hG S a1) (by decide) (by decide) (ci := 1) rfl hG.1 w2_171 w2_172 w2_173 w1_7 w2_174 qyX1_inRam rfl (Nat.le_of_ble_eq_true rfl) dX1_wordAt_2 ?_
  refine v_if_eq G (tgt := 17) dX1_wordAt_5 (by decide) (fun c_1 => ?_) (fun c_1 => ?_)
  · refine v_aload_n G 0 dX1_wordAt_17 rfl ?_
    refine v_geti G (ci := 1) (T := TX1) (j := 4) inX1 rfl hG.1 rfl (by decide) w1_132 dX1_wordAt_18 ?_
    refine v_iload_n G 1 dX1_wordAt_21 rfl ?_
    refine v_ldc G (v := (1073741824 : Int32)) dX1_wordAt_22 w2_166 ?_
    refine v_isub G dX1_wordAt_24 ?_
    refine v_iconst G (v := (2 : Int32)) dX1_wordAt_25 (by decide) ?_
    refine v_ishr G dX1_wordAt_26 ?_
    refine v_iadd G dX1_wordAt_27 ?_
    refine v_namei (fun x_2 ex_2 => ?_)
    refine v_istore_n G [(2, .int x_2), (0, .ref (adr X kg)), (1, .int a1)] dX1_wordAt_28 (by decide) rfl ?_
    refine v_iload_n G 0 dX1_wordAt_29 rfl ?_
    refine v_if_lt G (tgt := 51) dX1_wordAt_30 (by decide) (fun c_3 => ?_) (fun c_3 => ?_)
    · refine v_iconst G (v := (0 : Int32)) dX1_wordAt_51 (by decide) ?_
      exact v_iret G rfl rfl dX1_wordAt_52
    · refine v_iload_n G 0 dX1_wordAt_33 rfl ?_
      refine v_aload_n G 1 dX1_wordAt_34 rfl ?_
      refine v_getr G (ci := 1) (T := TX1) (j := 3) inX1 rfl hG.1 rfl (by decide) w1_131 dX1_wordAt_35 ?_
      refine v_alen G (ty := .int) hG.2.2.2.1 rfl dX1_wordAt_38 ?_
      refine v_icmp_ge G (tgt := 51) dX1_wordAt_39 (by decide) (fun c_4 => ?_) (fun c_4 => ?_)
      · refine v_iconst G (v := (0 : Int32)) dX1_wordAt_51 (by decide) ?_
        exact v_iret G rfl rfl dX1_wordAt_52
      · refine v_aload_n G 1 dX1_wordAt_42 rfl ?_
        refine v_getr G (ci := 1) (T := TX1) (j := 3) inX1 rfl hG.1 rfl (by decide) w1_131 dX1_wordAt_43 ?_
        refine v_iload_n G 0 dX1_wordAt_46 rfl ?_
        refine v_iald G hG.2.2.2.1 (vi_br (by assumption) (by assumption) hG.2.2.2.2) dX1_wordAt_47 ?_
        refine v_goto G (tgt := 52) dX1_wordAt_48 (by decide) ?_
        exact v_iret G rfl rfl dX1_wordAt_52
  · refine v_aload_n G 0 dX1_wordAt_8 rfl ?_
    refine v_getr G (ci := 1) (T := TX1) (j := 2) inX1 rfl hG.1 rfl (by decide) w1_130 dX1_wordAt_9 ?_
    refine v_iload_n G 1 dX1_wordAt_12 rfl ?_
    refine v_iconst G (v := (2 : Int32)) dX1_wordAt_13 (by decide) ?_
    refine v_ishr G dX1_wordAt_14 ?_
    refine v_iald G hG.2.2.1 (G_inRam_in (by assumption)) dX1_wordAt_15 ?_
    exact v_iret G rfl rfl dX1_wordAt_16
/-! SensorNode$Guest.byteAt -/
theorem qyX1_byteAt : yX1_byteAt.cls ≠ "java/lang/invoke/MethodHandle" ∧ yX1_byteAt.cls ≠ "java/lang/invoke/VarHandle" ∧ (parseMethodDescriptor yX1_byteAt.desc).map (fun d => d.parameters.length) = some 1 := by decide +kernel
noncomputable def f_G_byteAt (S : St) (kg ko km ks n : Nat) (a1 : Int32) : Int32 := (ush (f_G_wordAt S kg ko km ks n a1) ((8 : Int32) * (a1 &&& (3 : Int32)))) &&& (255 : Int32)
set_option linter.unusedVariables false in
set_option maxHeartbeats 4000000 in
set_option maxRecDepth 100000 in
theorem c_G_byteAt (l : Launch) {X : vD} (hJ : sh_J X) (hX : shp X = shX) (kg ko km ks n : Nat) (hG : isG kg ko km ks n) (S : St) (a1 : Int32)  : Con l X yX1_byteAt cX1_byteAt 2 (some .int) 2 [.ref (adr X kg), .int a1] S (some (.int (f_G_byteAt S kg ko km ks n a1)), S) := by
  refine con_of (ρ := (fun r : Int32 => ((some (.int r), S) : Option Value × St))) (K := f_G_byteAt S kg ko km ks n a1) hJ hX (by decide) (Nat.le_of_ble_eq_true rfl) (lv := [(0, .ref (adr X kg)), (1, .int a1)]) rfl ?_
  intro p e s m below meth c G
  have G : vG p s m _ meth c X shX "SensorNode$Guest" cX1_byteAt 2 (some .int) := G
  unfold f_G_byteAt
  refine v_aload_n G 0 dX1_byteAt_0 rfl ?_
  refine v_iload_n G 1 dX1_byteAt_1 rfl ?_
  refine v_callVi G (As := [.int a1]) (st := []) (c_G_wordAt l hJ hX kg ko km ks n hG S a1) (by decide) (by decide) (ci := 1) rfl hG.1 w2_167 w2_169 w0_7 w1_7 w2_170 qyX1_wordAt rfl (Nat.le_of_ble_eq_true rfl) dX1_byteAt_2 ?_
  refine v_bipush G (v := (8 : Int32)) dX1_byteAt_5 (by decide) ?_
  refine v_iload_n G 1 dX1_byteAt_7 rfl ?_
  refine v_iconst G (v := (3 : Int32)) dX1_byteAt_8 (by decide) ?_
  refine v_iand G dX1_byteAt_9 ?_
  refine v_imul G dX1_byteAt_10 ?_
  refine v_iushr G dX1_byteAt_11 ?_
  refine v_sipush G (v := (255 : Int32)) dX1_byteAt_12 (by decide) ?_
  refine v_iand G dX1_byteAt_15 ?_
  exact v_iret G rfl rfl dX1_byteAt_16
/-! SensorNode$Guest.putWord -/
theorem qyX1_putWord : yX1_putWord.cls ≠ "java/lang/invoke/MethodHandle" ∧ yX1_putWord.cls ≠ "java/lang/invoke/VarHandle" ∧ (parseMethodDescriptor yX1_putWord.desc).map (fun d => d.parameters.length) = some 2 := by decide +kernel
noncomputable def f_G_putWord (S : St) (kg ko km ks n : Nat) (a1 : Int32) (a2 : Int32) : St := bnx ((S kg 4) + ((a1 - (1073741824 : Int32)) >>> ((2 : Int32) &&& 31))) (fun x_1 => (if (f_G_inRam S kg ko km ks n a1) = 0 then (if x_1 < 0 then S else (if x_1 < (nI n) then bnv (st_up S ks x_1.toNatClampNeg a2) (fun S_5 => S_5) else S)) else bnv (st_up S km (a1 >>> ((2 : Int32) &&& 31)).toNatClampNeg a2) (fun S_6 => S_6)))
set_option linter.unusedVariables false in
set_option maxHeartbeats 4000000 in
set_option maxRecDepth 100000 in
theorem c_G_putWord (l : Launch) {X : vD} (hJ : sh_J X) (hX : shp X = shX) (kg ko km ks n : Nat) (hG : isG kg ko km ks n) (S : St) (a1 : Int32) (a2 : Int32)  : Con l X yX1_putWord cX1_putWord 4 none 1 [.ref (adr X kg), .int a1, .int a2] S (none, f_G_putWord S kg ko km ks n a1 a2) := by
  refine con_of (ρ := (fun S : St => ((none, S) : Option Value × St))) (K := f_G_putWord S kg ko km ks n a1 a2) hJ hX (by decide) (Nat.le_of_ble_eq_true rfl) (lv := [(0, .ref (adr X kg)), (1, .int a1), (2, .int a2)]) rfl ?_
  intro p e s m below meth c G
  have G : vG p s m _ meth c X shX "SensorNode$Guest" cX1_putWord 4 none := G
  unfold f_G_putWord
  refine v_aload_n G 0 dX1_putWord_0 rfl ?_
  refine v_geti G (ci := 1) (T := TX1) (j := 4) inX1 rfl hG.1 rfl (by decide) w1_132 dX1_putWord_1 ?_
  refine v_iload_n G 1 dX1_putWord_4 rfl ?_
  refine v_ldc G (v := (1073741824 : Int32)) dX1_putWord_5 w2_166 ?_
  refine v_isub G dX1_putWord_7 ?_
  refine v_iconst G (v := (2 : Int32)) dX1_putWord_8 (by decide) ?_
  refine v_ishr G dX1_putWord_9 ?_
  refine v_iadd G dX1_putWord_10 ?_
  refine v_namei (fun x_1 ex_1 => ?_)
  refine v_istore_n G [(3, .int x_1), (0, .ref (adr X kg)), (1, .int a1), (2, .int a2)] dX1_putWord_11 (by decide) rfl ?_
  refine v_aload_n G 1 dX1_putWord_12 rfl ?_
  refine v_iload_n G 2 dX1_putWord_13 rfl ?_
  refine v_callVi G (As := [.int a1]) (st := []) (c_G_inRam l hJ hX kg ko km ks n hG S a1) (by decide) (by decide) (ci := 1) rfl hG.1 w2_171 w2_172 w2_173 w1_7 w2_174 qyX1_inRam rfl (Nat.le_of_ble_eq_true rfl) dX1_putWord_14 ?_
  refine v_if_eq G (tgt := 32) dX1_putWord_17 (by decide) (fun c_2 => ?_) (fun c_2 => ?_)
  · refine v_iload_n G 0 dX1_putWord_32 rfl ?_
    refine v_if_lt G (tgt := 52) dX1_putWord_33 (by decide) (fun c_3 => ?_) (fun c_3 => ?_)
    · exact v_vret G rfl rfl dX1_putWord_52
    · refine v_iload_n G 0 dX1_putWord_36 rfl ?_
      refine v_aload_n G 1 dX1_putWord_37 rfl ?_
      refine v_getr G (ci := 1) (T := TX1) (j := 3) inX1 rfl hG.1 rfl (by decide) w1_131 dX1_putWord_38 ?_
      refine v_alen G (ty := .int) hG.2.2.2.1 rfl dX1_putWord_41 ?_
      refine v_icmp_ge G (tgt := 52) dX1_putWord_42 (by decide) (fun c_4 => ?_) (fun c_4 => ?_)
      · exact v_vret G rfl rfl dX1_putWord_52
      · refine v_aload_n G 1 dX1_putWord_45 rfl ?_
        refine v_getr G (ci := 1) (T := TX1) (j := 3) inX1 rfl hG.1 rfl (by decide) w1_131 dX1_putWord_46 ?_
        refine v_iload_n G 0 dX1_putWord_49 rfl ?_
        refine v_iload_n G 3 dX1_putWord_50 rfl ?_
        refine v_iast G hG.2.2.2.1 (vi_br (by assumption) (by assumption) hG.2.2.2.2) dX1_putWord_51 (fun S_5 eS_5 => ?_)
        exact v_vret G rfl rfl dX1_putWord_52
  · refine v_aload_n G 1 dX1_putWord_20 rfl ?_
    refine v_getr G (ci := 1) (T := TX1) (j := 2) inX1 rfl hG.1 rfl (by decide) w1_130 dX1_putWord_21 ?_
    refine v_iload_n G 2 dX1_putWord_24 rfl ?_
    refine v_iconst G (v := (2 : Int32)) dX1_putWord_25 (by decide) ?_
    refine v_ishr G dX1_putWord_26 ?_
    refine v_iload_n G 3 dX1_putWord_27 rfl ?_
    refine v_iast G hG.2.2.1 (G_inRam_in (by assumption)) dX1_putWord_28 (fun S_6 eS_6 => ?_)
    refine v_goto G (tgt := 52) dX1_putWord_29 (by decide) ?_
    exact v_vret G rfl rfl dX1_putWord_52
/-! SensorNode$Guest.jumpOffset -/
theorem qyX1_jumpOffset : yX1_jumpOffset.cls ≠ "java/lang/invoke/MethodHandle" ∧ yX1_jumpOffset.cls ≠ "java/lang/invoke/VarHandle" ∧ (parseMethodDescriptor yX1_jumpOffset.desc).map (fun d => d.parameters.length) = some 1 := by decide +kernel
noncomputable def f_G_jumpOffset (S : St) (a0 : Int32) : Int32 := ((((a0 >>> ((31 : Int32) &&& 31)) <<< ((20 : Int32) &&& 31)) ||| (a0 &&& (1044480 : Int32))) ||| ((ush a0 (9 : Int32)) &&& (2048 : Int32))) ||| ((ush a0 (20 : Int32)) &&& (2046 : Int32))
set_option linter.unusedVariables false in
set_option maxHeartbeats 4000000 in
set_option maxRecDepth 100000 in
theorem c_G_jumpOffset (l : Launch) {X : vD} (hJ : sh_J X) (hX : shp X = shX)  (S : St) (a0 : Int32)  : Con l X yX1_jumpOffset cX1_jumpOffset 1 (some .int) 0 [.int a0] S (some (.int (f_G_jumpOffset S a0)), S) := by
  refine con_of (ρ := (fun r : Int32 => ((some (.int r), S) : Option Value × St))) (K := f_G_jumpOffset S a0) hJ hX (by decide) (Nat.le_of_ble_eq_true rfl) (lv := [(0, .int a0)]) rfl ?_
  intro p e s m below meth c G
  have G : vG p s m _ meth c X shX "SensorNode$Guest" cX1_jumpOffset 1 (some .int) := G
  unfold f_G_jumpOffset
  refine v_iload_n G 0 dX1_jumpOffset_0 rfl ?_
  refine v_bipush G (v := (31 : Int32)) dX1_jumpOffset_1 (by decide) ?_
  refine v_ishr G dX1_jumpOffset_3 ?_
  refine v_bipush G (v := (20 : Int32)) dX1_jumpOffset_4 (by decide) ?_
  refine v_ishl G dX1_jumpOffset_6 ?_
  refine v_iload_n G 0 dX1_jumpOffset_7 rfl ?_
  refine v_ldc G (v := (1044480 : Int32)) dX1_jumpOffset_8 w2_182 ?_
  refine v_iand G dX1_jumpOffset_10 ?_
  refine v_ior G dX1_jumpOffset_11 ?_
  refine v_iload_n G 0 dX1_jumpOffset_12 rfl ?_
  refine v_bipush G (v := (9 : Int32)) dX1_jumpOffset_13 (by decide) ?_
  refine v_iushr G dX1_jumpOffset_15 ?_
  refine v_sipush G (v := (2048 : Int32)) dX1_jumpOffset_16 (by decide) ?_
  refine v_iand G dX1_jumpOffset_19 ?_
  refine v_ior G dX1_jumpOffset_20 ?_
  refine v_iload_n G 0 dX1_jumpOffset_21 rfl ?_
  refine v_bipush G (v := (20 : Int32)) dX1_jumpOffset_22 (by decide) ?_
  refine v_iushr G dX1_jumpOffset_24 ?_
  refine v_sipush G (v := (2046 : Int32)) dX1_jumpOffset_25 (by decide) ?_
  refine v_iand G dX1_jumpOffset_28 ?_
  refine v_ior G dX1_jumpOffset_29 ?_
  exact v_iret G rfl rfl dX1_jumpOffset_30
/-! SensorNode$Guest.branchOffset -/
theorem qyX1_branchOffset : yX1_branchOffset.cls ≠ "java/lang/invoke/MethodHandle" ∧ yX1_branchOffset.cls ≠ "java/lang/invoke/VarHandle" ∧ (parseMethodDescriptor yX1_branchOffset.desc).map (fun d => d.parameters.length) = some 1 := by decide +kernel
noncomputable def f_G_branchOffset (S : St) (a0 : Int32) : Int32 := ((((a0 >>> ((31 : Int32) &&& 31)) <<< ((12 : Int32) &&& 31)) ||| ((a0 <<< ((4 : Int32) &&& 31)) &&& (2048 : Int32))) ||| ((ush a0 (20 : Int32)) &&& (2016 : Int32))) ||| ((ush a0 (7 : Int32)) &&& (30 : Int32))
set_option linter.unusedVariables false in
set_option maxHeartbeats 4000000 in
set_option maxRecDepth 100000 in
theorem c_G_branchOffset (l : Launch) {X : vD} (hJ : sh_J X) (hX : shp X = shX)  (S : St) (a0 : Int32)  : Con l X yX1_branchOffset cX1_branchOffset 1 (some .int) 0 [.int a0] S (some (.int (f_G_branchOffset S a0)), S) := by
  refine con_of (ρ := (fun r : Int32 => ((some (.int r), S) : Option Value × St))) (K := f_G_branchOffset S a0) hJ hX (by decide) (Nat.le_of_ble_eq_true rfl) (lv := [(0, .int a0)]) rfl ?_
  intro p e s m below meth c G
  have G : vG p s m _ meth c X shX "SensorNode$Guest" cX1_branchOffset 1 (some .int) := G
  unfold f_G_branchOffset
  refine v_iload_n G 0 dX1_branchOffset_0 rfl ?_
  refine v_bipush G (v := (31 : Int32)) dX1_branchOffset_1 (by decide) ?_
  refine v_ishr G dX1_branchOffset_3 ?_
  refine v_bipush G (v := (12 : Int32)) dX1_branchOffset_4 (by decide) ?_
  refine v_ishl G dX1_branchOffset_6 ?_
  refine v_iload_n G 0 dX1_branchOffset_7 rfl ?_
  refine v_iconst G (v := (4 : Int32)) dX1_branchOffset_8 (by decide) ?_
  refine v_ishl G dX1_branchOffset_9 ?_
  refine v_sipush G (v := (2048 : Int32)) dX1_branchOffset_10 (by decide) ?_
  refine v_iand G dX1_branchOffset_13 ?_
  refine v_ior G dX1_branchOffset_14 ?_
  refine v_iload_n G 0 dX1_branchOffset_15 rfl ?_
  refine v_bipush G (v := (20 : Int32)) dX1_branchOffset_16 (by decide) ?_
  refine v_iushr G dX1_branchOffset_18 ?_
  refine v_sipush G (v := (2016 : Int32)) dX1_branchOffset_19 (by decide) ?_
  refine v_iand G dX1_branchOffset_22 ?_
  refine v_ior G dX1_branchOffset_23 ?_
  refine v_iload_n G 0 dX1_branchOffset_24 rfl ?_
  refine v_bipush G (v := (7 : Int32)) dX1_branchOffset_25 (by decide) ?_
  refine v_iushr G dX1_branchOffset_27 ?_
  refine v_bipush G (v := (30 : Int32)) dX1_branchOffset_28 (by decide) ?_
  refine v_iand G dX1_branchOffset_30 ?_
  refine v_ior G dX1_branchOffset_31 ?_
  exact v_iret G rfl rfl dX1_branchOffset_32
/-! SensorNode$Guest.below -/
theorem qyX1_below : yX1_below.cls ≠ "java/lang/invoke/MethodHandle" ∧ yX1_below.cls ≠ "java/lang/invoke/VarHandle" ∧ (parseMethodDescriptor yX1_below.desc).map (fun d => d.parameters.length) = some 2 := by decide +kernel
noncomputable def f_G_below (S : St) (a0 : Int32) (a1 : Int32) : Int32 := (if (a0 ^^^ (-2147483648 : Int32)) < (a1 ^^^ (-2147483648 : Int32)) then (1 : Int32) else (0 : Int32))
set_option linter.unusedVariables false in
set_option maxHeartbeats 4000000 in
set_option maxRecDepth 100000 in
theorem c_G_below (l : Launch) {X : vD} (hJ : sh_J X) (hX : shp X = shX)  (S : St) (a0 : Int32) (a1 : Int32)  : Con l X yX1_below cX1_below 2 (some .boolean) 0 [.int a0, .int a1] S (some (.int (f_G_below S a0 a1)), S) := by
  refine con_of (ρ := (fun r : Int32 => ((some (.int r), S) : Option Value × St))) (K := f_G_below S a0 a1) hJ hX (by decide) (Nat.le_of_ble_eq_true rfl) (lv := [(0, .int a0), (1, .int a1)]) rfl ?_
  intro p e s m below meth c G
  have G : vG p s m _ meth c X shX "SensorNode$Guest" cX1_below 2 (some .boolean) := G
  unfold f_G_below
  refine v_iload_n G 0 dX1_below_0 rfl ?_
  refine v_ldc G (v := (-2147483648 : Int32)) dX1_below_1 w2_197 ?_
  refine v_ixor G dX1_below_3 ?_
  refine v_iload_n G 1 dX1_below_4 rfl ?_
  refine v_ldc G (v := (-2147483648 : Int32)) dX1_below_5 w2_197 ?_
  refine v_ixor G dX1_below_7 ?_
  refine v_icmp_ge G (tgt := 15) dX1_below_8 (by decide) (fun c_1 => ?_) (fun c_1 => ?_)
  · refine v_iconst G (v := (0 : Int32)) dX1_below_15 (by decide) ?_
    exact v_zret G rfl rfl rfl dX1_below_16
  · refine v_iconst G (v := (1 : Int32)) dX1_below_11 (by decide) ?_
    refine v_goto G (tgt := 16) dX1_below_12 (by decide) ?_
    exact v_zret G rfl rfl rfl dX1_below_16
/-! SensorNode$Guest.give -/
theorem qyX1_give : yX1_give.cls ≠ "java/lang/invoke/MethodHandle" ∧ yX1_give.cls ≠ "java/lang/invoke/VarHandle" ∧ (parseMethodDescriptor yX1_give.desc).map (fun d => d.parameters.length) = some 1 := by decide +kernel
noncomputable def f_G_give (S : St) (kg ko km ks n : Nat) (a1 : Int32) : Int32 × St := bnv (st_up S kg 7 a1) (fun S_1 => ((0 : Int32), S_1))
set_option linter.unusedVariables false in
set_option maxHeartbeats 4000000 in
set_option maxRecDepth 100000 in
theorem c_G_give (l : Launch) {X : vD} (hJ : sh_J X) (hX : shp X = shX) (kg ko km ks n : Nat) (hG : isG kg ko km ks n) (S : St) (a1 : Int32)  : Con l X yX1_give cX1_give 2 (some .int) 0 [.ref (adr X kg), .int a1] S (some (.int (f_G_give S kg ko km ks n a1).1), (f_G_give S kg ko km ks n a1).2) := by
  refine con_of (ρ := (fun q : Int32 × St => ((some (.int q.1), q.2) : Option Value × St))) (K := f_G_give S kg ko km ks n a1) hJ hX (by decide) (Nat.le_of_ble_eq_true rfl) (lv := [(0, .ref (adr X kg)), (1, .int a1)]) rfl ?_
  intro p e s m below meth c G
  generalize hρ0 : (fun q : Int32 × St => ((some (.int q.1), q.2) : Option Value × St)) = ρ
  have hρ : ∀ q : Int32 × St, ρ q = ((some (.int q.1), q.2) : Option Value × St) := fun q => by rw [← hρ0]
  have G : vG p s m _ meth c X shX "SensorNode$Guest" cX1_give 2 (some .int) := G
  unfold f_G_give
  refine v_aload_n G 0 dX1_give_0 rfl ?_
  refine v_iload_n G 1 dX1_give_1 rfl ?_
  refine v_puti G (ci := 1) (T := TX1) (j := 7) inX1 rfl hG.1 tyX1_ok nmX1 rfl (by decide) rfl rfl rfl w1_135 dX1_give_2 (fun S_1 eS_1 => ?_)
  refine v_iconst G (v := (0 : Int32)) dX1_give_5 (by decide) ?_
  exact v_iret G rfl (hρ _) dX1_give_6
/-! SensorNode$Guest.jump -/
theorem qyX1_jump : yX1_jump.cls ≠ "java/lang/invoke/MethodHandle" ∧ yX1_jump.cls ≠ "java/lang/invoke/VarHandle" ∧ (parseMethodDescriptor yX1_jump.desc).map (fun d => d.parameters.length) = some 2 := by decide +kernel
noncomputable def f_G_jump (S : St) (kg ko km ks n : Nat) (a1 : Int32) (a2 : Int32) : Int32 × St := (if (a1 &&& (3 : Int32)) = 0 then bnv (st_up S kg 8 a1) (fun S_2 => bnd (f_G_give S_2 kg ko km ks n a2) (fun r_4 S_3 => (r_4, S_3))) else ((12 : Int32), S))
set_option linter.unusedVariables false in
set_option maxHeartbeats 4000000 in
set_option maxRecDepth 100000 in
theorem c_G_jump (l : Launch) {X : vD} (hJ : sh_J X) (hX : shp X = shX) (kg ko km ks n : Nat) (hG : isG kg ko km ks n) (S : St) (a1 : Int32) (a2 : Int32)  : Con l X yX1_jump cX1_jump 3 (some .int) 1 [.ref (adr X kg), .int a1, .int a2] S (some (.int (f_G_jump S kg ko km ks n a1 a2).1), (f_G_jump S kg ko km ks n a1 a2).2) := by
  refine con_of (ρ := (fun q : Int32 × St => ((some (.int q.1), q.2) : Option Value × St))) (K := f_G_jump S kg ko km ks n a1 a2) hJ hX (by decide) (Nat.le_of_ble_eq_true rfl) (lv := [(0, .ref (adr X kg)), (1, .int a1), (2, .int a2)]) rfl ?_
  intro p e s m below meth c G
  generalize hρ0 : (fun q : Int32 × St => ((some (.int q.1), q.2) : Option Value × St)) = ρ
  have hρ : ∀ q : Int32 × St, ρ q = ((some (.int q.1), q.2) : Option Value × St) := fun q => by rw [← hρ0]
  have G : vG p s m _ meth c X shX "SensorNode$Guest" cX1_jump 3 (some .int) := G
  unfold f_G_jump
  refine v_iload_n G 1 dX1_jump_0 rfl ?_
  refine v_iconst G (v := (3 : Int32)) dX1_jump_1 (by decide) ?_
  refine v_iand G dX1_jump_2 ?_
  refine v_if_eq G (tgt := 9) dX1_jump_3 (by decide) (fun c_1 => ?_) (fun c_1 => ?_)
  · refine v_aload_n G 0 dX1_jump_9 rfl ?_
    refine v_iload_n G 1 dX1_jump_10 rfl ?_
    refine v_puti G (ci := 1) (T := TX1) (j := 8) inX1 rfl hG.1 tyX1_ok nmX1 rfl (by decide) rfl rfl rfl w1_136 dX1_jump_11 (fun S_2 eS_2 => ?_)
    refine v_aload_n G 0 dX1_jump_14 rfl ?_
    refine v_iload_n G 2 dX1_jump_15 rfl ?_
    refine v_callVi G (As := [.int a2]) (st := []) (c_G_give l hJ hX kg ko km ks n hG S_2 a2) (by decide) (by decide) (ci := 1) rfl hG.1 w2_175 w2_177 w0_8 w1_7 w2_178 qyX1_give rfl (Nat.le_of_ble_eq_true rfl) dX1_jump_16 ?_
    refine v_bnd (fun r_4 S_3 eS_3 => ?_)
    exact v_iret G rfl (hρ _) dX1_jump_19
  · refine v_bipush G (v := (12 : Int32)) dX1_jump_6 (by decide) ?_
    exact v_iret G rfl (hρ _) dX1_jump_8
/-! SensorNode$Guest.branch -/
theorem qyX1_branch : yX1_branch.cls ≠ "java/lang/invoke/MethodHandle" ∧ yX1_branch.cls ≠ "java/lang/invoke/VarHandle" ∧ (parseMethodDescriptor yX1_branch.desc).map (fun d => d.parameters.length) = some 4 := by decide +kernel
noncomputable def f_G_branch (S : St) (kg ko km ks n : Nat) (a1 : Int32) (a2 : Int32) (a3 : Int32) (a4 : Int32) : Int32 × St := bnx (a1 &&& (6 : Int32)) (fun x_1 => (if x_1 = (0 : Int32) then (if a2 = a3 then (if (a1 &&& (1 : Int32)) = 0 then bnd (f_G_jump S kg ko km ks n a4 (0 : Int32)) (fun r_9 S_8 => (r_9, S_8)) else ((0 : Int32), S)) else (if (a1 &&& (1 : Int32)) = 0 then ((0 : Int32), S) else bnd (f_G_jump S kg ko km ks n a4 (0 : Int32)) (fun r_6 S_5 => (r_6, S_5))))
 else (if x_1 = (4 : Int32) then (if a2 < a3 then (if (a1 &&& (1 : Int32)) = 0 then bnd (f_G_jump S kg ko km ks n a4 (0 : Int32)) (fun r_17 S_16 => (r_17, S_16)) else ((0 : Int32), S)) else (if (a1 &&& (1 : Int32)) = 0 then ((0 : Int32), S) else bnd (f_G_jump S kg ko km ks n a4 (0 : Int32)) (fun r_14 S_13 => (r_14, S_13))))
 else (if x_1 = (6 : Int32) then bnx (f_G_below S a2 a3) (fun x_19 => (if (a1 &&& (1 : Int32)) = 0 then (if x_19 = (0 : Int32) then ((0 : Int32), S) else bnd (f_G_jump S kg ko km ks n a4 (0 : Int32)) (fun r_23 S_22 => (r_23, S_22))) else (if x_19 = (1 : Int32) then ((0 : Int32), S) else bnd (f_G_jump S kg ko km ks n a4 (0 : Int32)) (fun r_26 S_25 => (r_26, S_25)))))
 else ((11 : Int32), S)))))
set_option linter.unusedVariables false in
set_option maxHeartbeats 4000000 in
set_option maxRecDepth 100000 in
theorem c_G_branch (l : Launch) {X : vD} (hJ : sh_J X) (hX : shp X = shX) (kg ko km ks n : Nat) (hG : isG kg ko km ks n) (S : St) (a1 : Int32) (a2 : Int32) (a3 : Int32) (a4 : Int32)  : Con l X yX1_branch cX1_branch 7 (some .int) 2 [.ref (adr X kg), .int a1, .int a2, .int a3, .int a4] S (some (.int (f_G_branch S kg ko km ks n a1 a2 a3 a4).1), (f_G_branch S kg ko km ks n a1 a2 a3 a4).2) := by
  refine con_of (ρ := (fun q : Int32 × St => ((some (.int q.1), q.2) : Option Value × St))) (K := f_G_branch S kg ko km ks n a1 a2 a3 a4) hJ hX (by decide) (Nat.le_of_ble_eq_true rfl) (lv := [(0, .ref (adr X kg)), (1, .int a1), (2, .int a2), (3, .int a3), (4, .int a4)]) rfl ?_
  intro p e s m below meth c G
  generalize hρ0 : (fun q : Int32 × St => ((some (.int q.1), q.2) : Option Value × St)) = ρ
  have hρ : ∀ q : Int32 × St, ρ q = ((some (.int q.1), q.2) : Option Value × St) := fun q => by rw [← hρ0]
  have G : vG p s m _ meth c X shX "SensorNode$Guest" cX1_branch 7 (some .int) := G
  unfold f_G_branch
  refine v_iload_n G 1 dX1_branch_0 rfl ?_
  refine v_bipush G (v := (6 : Int32)) dX1_branch_1 (by decide) ?_
  refine v_iand G dX1_branch_3 ?_
  refine v_namei (fun x_1 ex_1 => ?_)
  refine v_sw (0 : Int32) (fun h_2 => ?_) (fun h_2 => ?_)
  · refine v_lookup G (tgt := 40) (off := 36) dX1_branch_4 (by decide) (by decide) (by decide) ?_
    refine v_iload_n G 2 dX1_branch_40 rfl ?_
    refine v_iload_n G 3 dX1_branch_41 rfl ?_
    refine v_icmp_ne G (tgt := 49) dX1_branch_42 (by decide) (fun c_3 => ?_) (fun c_3 => ?_)
    · refine v_iconst G (v := (0 : Int32)) dX1_branch_49 (by decide) ?_
      refine v_istore G [(5, .int (0 : Int32)), (0, .ref (adr X kg)), (1, .int a1), (2, .int a2), (3, .int a3), (4, .int a4)] dX1_branch_50 (by decide) rfl ?_
      refine v_goto G (tgt := 83) dX1_branch_52 (by decide) ?_
      refine v_iload_n G 2 dX1_branch_83 rfl ?_
      refine v_iconst G (v := (1 : Int32)) dX1_branch_84 (by decide) ?_
      refine v_iand G dX1_branch_85 ?_
      refine v_if_eq G (tgt := 93) dX1_branch_86 (by decide) (fun c_4 => ?_) (fun c_4 => ?_)
      · refine v_iconst G (v := (0 : Int32)) dX1_branch_93 (by decide) ?_
        refine v_istore G [(6, .int (0 : Int32)), (5, .int (0 : Int32)), (0, .ref (adr X kg)), (1, .int a1), (2, .int a2), (3, .int a3), (4, .int a4)] dX1_branch_94 (by decide) rfl ?_
        refine v_iload G 1 dX1_branch_96 rfl ?_
        refine v_iload G 0 dX1_branch_98 rfl ?_
        refine v_icmp_eq_t G (tgt := 113) dX1_branch_100 (by decide) (by decide) ?_
        refine v_iconst G (v := (0 : Int32)) dX1_branch_113 (by decide) ?_
        exact v_iret G rfl (hρ _) dX1_branch_114
      · refine v_iconst G (v := (1 : Int32)) dX1_branch_89 (by decide) ?_
        refine v_goto G (tgt := 94) dX1_branch_90 (by decide) ?_
        refine v_istore G [(6, .int (1 : Int32)), (5, .int (0 : Int32)), (0, .ref (adr X kg)), (1, .int a1), (2, .int a2), (3, .int a3), (4, .int a4)] dX1_branch_94 (by decide) rfl ?_
        refine v_iload G 1 dX1_branch_96 rfl ?_
        refine v_iload G 0 dX1_branch_98 rfl ?_
        refine v_icmp_eq_f G (tgt := 113) dX1_branch_100 (by decide) (by decide) ?_
        refine v_aload_n G 2 dX1_branch_103 rfl ?_
        refine v_iload G 6 dX1_branch_104 rfl ?_
        refine v_iconst G (v := (0 : Int32)) dX1_branch_106 (by decide) ?_
        refine v_callVi G (As := [.int a4, .int (0 : Int32)]) (st := []) (c_G_jump l hJ hX kg ko km ks n hG S a4 (0 : Int32)) (by decide) (by decide) (ci := 1) rfl hG.1 w2_183 w2_185 w0_9 w1_7 w2_186 qyX1_jump rfl (Nat.le_of_ble_eq_true rfl) dX1_branch_107 ?_
        refine v_bnd (fun r_6 S_5 eS_5 => ?_)
        refine v_goto G (tgt := 114) dX1_branch_110 (by decide) ?_
        exact v_iret G rfl (hρ _) dX1_branch_114
    · refine v_iconst G (v := (1 : Int32)) dX1_branch_45 (by decide) ?_
      refine v_goto G (tgt := 50) dX1_branch_46 (by decide) ?_
      refine v_istore G [(5, .int (1 : Int32)), (0, .ref (adr X kg)), (1, .int a1), (2, .int a2), (3, .int a3), (4, .int a4)] dX1_branch_50 (by decide) rfl ?_
      refine v_goto G (tgt := 83) dX1_branch_52 (by decide) ?_
      refine v_iload_n G 2 dX1_branch_83 rfl ?_
      refine v_iconst G (v := (1 : Int32)) dX1_branch_84 (by decide) ?_
      refine v_iand G dX1_branch_85 ?_
      refine v_if_eq G (tgt := 93) dX1_branch_86 (by decide) (fun c_7 => ?_) (fun c_7 => ?_)
      · refine v_iconst G (v := (0 : Int32)) dX1_branch_93 (by decide) ?_
        refine v_istore G [(6, .int (0 : Int32)), (5, .int (1 : Int32)), (0, .ref (adr X kg)), (1, .int a1), (2, .int a2), (3, .int a3), (4, .int a4)] dX1_branch_94 (by decide) rfl ?_
        refine v_iload G 1 dX1_branch_96 rfl ?_
        refine v_iload G 0 dX1_branch_98 rfl ?_
        refine v_icmp_eq_f G (tgt := 113) dX1_branch_100 (by decide) (by decide) ?_
        refine v_aload_n G 2 dX1_branch_103 rfl ?_
        refine v_iload G 6 dX1_branch_104 rfl ?_
        refine v_iconst G (v := (0 : Int32)) dX1_branch_106 (by decide) ?_
        refine v_callVi G (As := [.int a4, .int (0 : Int32)]) (st := []) (c_G_jump l hJ hX kg ko km ks n hG S a4 (0 : Int32)) (by decide) (by decide) (ci := 1) rfl hG.1 w2_183 w2_185 w0_9 w1_7 w2_186 qyX1_jump rfl (Nat.le_of_ble_eq_true rfl) dX1_branch_107 ?_
        refine v_bnd (fun r_9 S_8 eS_8 => ?_)
        refine v_goto G (tgt := 114) dX1_branch_110 (by decide) ?_
        exact v_iret G rfl (hρ _) dX1_branch_114
      · refine v_iconst G (v := (1 : Int32)) dX1_branch_89 (by decide) ?_
        refine v_goto G (tgt := 94) dX1_branch_90 (by decide) ?_
        refine v_istore G [(6, .int (1 : Int32)), (5, .int (1 : Int32)), (0, .ref (adr X kg)), (1, .int a1), (2, .int a2), (3, .int a3), (4, .int a4)] dX1_branch_94 (by decide) rfl ?_
        refine v_iload G 1 dX1_branch_96 rfl ?_
        refine v_iload G 0 dX1_branch_98 rfl ?_
        refine v_icmp_eq_t G (tgt := 113) dX1_branch_100 (by decide) (by decide) ?_
        refine v_iconst G (v := (0 : Int32)) dX1_branch_113 (by decide) ?_
        exact v_iret G rfl (hρ _) dX1_branch_114
  refine v_sw (4 : Int32) (fun h_10 => ?_) (fun h_10 => ?_)
  · refine v_lookup G (tgt := 55) (off := 51) dX1_branch_4 (by decide) (by decide) (by decide) ?_
    refine v_iload_n G 2 dX1_branch_55 rfl ?_
    refine v_iload_n G 3 dX1_branch_56 rfl ?_
    refine v_icmp_ge G (tgt := 64) dX1_branch_57 (by decide) (fun c_11 => ?_) (fun c_11 => ?_)
    · refine v_iconst G (v := (0 : Int32)) dX1_branch_64 (by decide) ?_
      refine v_istore G [(5, .int (0 : Int32)), (0, .ref (adr X kg)), (1, .int a1), (2, .int a2), (3, .int a3), (4, .int a4)] dX1_branch_65 (by decide) rfl ?_
      refine v_goto G (tgt := 83) dX1_branch_67 (by decide) ?_
      refine v_iload_n G 2 dX1_branch_83 rfl ?_
      refine v_iconst G (v := (1 : Int32)) dX1_branch_84 (by decide) ?_
      refine v_iand G dX1_branch_85 ?_
      refine v_if_eq G (tgt := 93) dX1_branch_86 (by decide) (fun c_12 => ?_) (fun c_12 => ?_)
      · refine v_iconst G (v := (0 : Int32)) dX1_branch_93 (by decide) ?_
        refine v_istore G [(6, .int (0 : Int32)), (5, .int (0 : Int32)), (0, .ref (adr X kg)), (1, .int a1), (2, .int a2), (3, .int a3), (4, .int a4)] dX1_branch_94 (by decide) rfl ?_
        refine v_iload G 1 dX1_branch_96 rfl ?_
        refine v_iload G 0 dX1_branch_98 rfl ?_
        refine v_icmp_eq_t G (tgt := 113) dX1_branch_100 (by decide) (by decide) ?_
        refine v_iconst G (v := (0 : Int32)) dX1_branch_113 (by decide) ?_
        exact v_iret G rfl (hρ _) dX1_branch_114
      · refine v_iconst G (v := (1 : Int32)) dX1_branch_89 (by decide) ?_
        refine v_goto G (tgt := 94) dX1_branch_90 (by decide) ?_
        refine v_istore G [(6, .int (1 : Int32)), (5, .int (0 : Int32)), (0, .ref (adr X kg)), (1, .int a1), (2, .int a2), (3, .int a3), (4, .int a4)] dX1_branch_94 (by decide) rfl ?_
        refine v_iload G 1 dX1_branch_96 rfl ?_
        refine v_iload G 0 dX1_branch_98 rfl ?_
        refine v_icmp_eq_f G (tgt := 113) dX1_branch_100 (by decide) (by decide) ?_
        refine v_aload_n G 2 dX1_branch_103 rfl ?_
        refine v_iload G 6 dX1_branch_104 rfl ?_
        refine v_iconst G (v := (0 : Int32)) dX1_branch_106 (by decide) ?_
        refine v_callVi G (As := [.int a4, .int (0 : Int32)]) (st := []) (c_G_jump l hJ hX kg ko km ks n hG S a4 (0 : Int32)) (by decide) (by decide) (ci := 1) rfl hG.1 w2_183 w2_185 w0_9 w1_7 w2_186 qyX1_jump rfl (Nat.le_of_ble_eq_true rfl) dX1_branch_107 ?_
        refine v_bnd (fun r_14 S_13 eS_13 => ?_)
        refine v_goto G (tgt := 114) dX1_branch_110 (by decide) ?_
        exact v_iret G rfl (hρ _) dX1_branch_114
    · refine v_iconst G (v := (1 : Int32)) dX1_branch_60 (by decide) ?_
      refine v_goto G (tgt := 65) dX1_branch_61 (by decide) ?_
      refine v_istore G [(5, .int (1 : Int32)), (0, .ref (adr X kg)), (1, .int a1), (2, .int a2), (3, .int a3), (4, .int a4)] dX1_branch_65 (by decide) rfl ?_
      refine v_goto G (tgt := 83) dX1_branch_67 (by decide) ?_
      refine v_iload_n G 2 dX1_branch_83 rfl ?_
      refine v_iconst G (v := (1 : Int32)) dX1_branch_84 (by decide) ?_
      refine v_iand G dX1_branch_85 ?_
      refine v_if_eq G (tgt := 93) dX1_branch_86 (by decide) (fun c_15 => ?_) (fun c_15 => ?_)
      · refine v_iconst G (v := (0 : Int32)) dX1_branch_93 (by decide) ?_
        refine v_istore G [(6, .int (0 : Int32)), (5, .int (1 : Int32)), (0, .ref (adr X kg)), (1, .int a1), (2, .int a2), (3, .int a3), (4, .int a4)] dX1_branch_94 (by decide) rfl ?_
        refine v_iload G 1 dX1_branch_96 rfl ?_
        refine v_iload G 0 dX1_branch_98 rfl ?_
        refine v_icmp_eq_f G (tgt := 113) dX1_branch_100 (by decide) (by decide) ?_
        refine v_aload_n G 2 dX1_branch_103 rfl ?_
        refine v_iload G 6 dX1_branch_104 rfl ?_
        refine v_iconst G (v := (0 : Int32)) dX1_branch_106 (by decide) ?_
        refine v_callVi G (As := [.int a4, .int (0 : Int32)]) (st := []) (c_G_jump l hJ hX kg ko km ks n hG S a4 (0 : Int32)) (by decide) (by decide) (ci := 1) rfl hG.1 w2_183 w2_185 w0_9 w1_7 w2_186 qyX1_jump rfl (Nat.le_of_ble_eq_true rfl) dX1_branch_107 ?_
        refine v_bnd (fun r_17 S_16 eS_16 => ?_)
        refine v_goto G (tgt := 114) dX1_branch_110 (by decide) ?_
        exact v_iret G rfl (hρ _) dX1_branch_114
      · refine v_iconst G (v := (1 : Int32)) dX1_branch_89 (by decide) ?_
        refine v_goto G (tgt := 94) dX1_branch_90 (by decide) ?_
        refine v_istore G [(6, .int (1 : Int32)), (5, .int (1 : Int32)), (0, .ref (adr X kg)), (1, .int a1), (2, .int a2), (3, .int a3), (4, .int a4)] dX1_branch_94 (by decide) rfl ?_
        refine v_iload G 1 dX1_branch_96 rfl ?_
        refine v_iload G 0 dX1_branch_98 rfl ?_
        refine v_icmp_eq_t G (tgt := 113) dX1_branch_100 (by decide) (by decide) ?_
        refine v_iconst G (v := (0 : Int32)) dX1_branch_113 (by decide) ?_
        exact v_iret G rfl (hρ _) dX1_branch_114
  refine v_sw (6 : Int32) (fun h_18 => ?_) (fun h_18 => ?_)
  · refine v_lookup G (tgt := 70) (off := 66) dX1_branch_4 (by decide) (by decide) (by decide) ?_
    refine v_iload_n G 2 dX1_branch_70 rfl ?_
    refine v_iload_n G 3 dX1_branch_71 rfl ?_
    refine v_callSi G (As := [.int a2, .int a3]) (st := []) (c_G_below l hJ hX S a2 a3) (by decide) (by decide) w2_194 w2_195 w1_7 w2_196 qyX1_below rfl (Nat.le_of_ble_eq_true rfl) dX1_branch_72 ?_
    refine v_namei (fun x_19 ex_19 => ?_)
    refine v_istore G [(5, .int x_19), (0, .ref (adr X kg)), (1, .int a1), (2, .int a2), (3, .int a3), (4, .int a4)] dX1_branch_75 (by decide) rfl ?_
    refine v_goto G (tgt := 83) dX1_branch_77 (by decide) ?_
    refine v_iload_n G 2 dX1_branch_83 rfl ?_
    refine v_iconst G (v := (1 : Int32)) dX1_branch_84 (by decide) ?_
    refine v_iand G dX1_branch_85 ?_
    refine v_if_eq G (tgt := 93) dX1_branch_86 (by decide) (fun c_20 => ?_) (fun c_20 => ?_)
    · refine v_iconst G (v := (0 : Int32)) dX1_branch_93 (by decide) ?_
      refine v_istore G [(6, .int (0 : Int32)), (5, .int x_19), (0, .ref (adr X kg)), (1, .int a1), (2, .int a2), (3, .int a3), (4, .int a4)] dX1_branch_94 (by decide) rfl ?_
      refine v_iload G 1 dX1_branch_96 rfl ?_
      refine v_iload G 0 dX1_branch_98 rfl ?_
      refine v_icmp_eq G (tgt := 113) dX1_branch_100 (by decide) (fun c_21 => ?_) (fun c_21 => ?_)
      · refine v_iconst G (v := (0 : Int32)) dX1_branch_113 (by decide) ?_
        exact v_iret G rfl (hρ _) dX1_branch_114
      · refine v_aload_n G 2 dX1_branch_103 rfl ?_
        refine v_iload G 6 dX1_branch_104 rfl ?_
        refine v_iconst G (v := (0 : Int32)) dX1_branch_106 (by decide) ?_
        refine v_callVi G (As := [.int a4, .int (0 : Int32)]) (st := []) (c_G_jump l hJ hX kg ko km ks n hG S a4 (0 : Int32)) (by decide) (by decide) (ci := 1) rfl hG.1 w2_183 w2_185 w0_9 w1_7 w2_186 qyX1_jump rfl (Nat.le_of_ble_eq_true rfl) dX1_branch_107 ?_
        refine v_bnd (fun r_23 S_22 eS_22 => ?_)
        refine v_goto G (tgt := 114) dX1_branch_110 (by decide) ?_
        exact v_iret G rfl (hρ _) dX1_branch_114
    · refine v_iconst G (v := (1 : Int32)) dX1_branch_89 (by decide) ?_
      refine v_goto G (tgt := 94) dX1_branch_90 (by decide) ?_
      refine v_istore G [(6, .int (1 : Int32)), (5, .int x_19), (0, .ref (adr X kg)), (1, .int a1), (2, .int a2), (3, .int a3), (4, .int a4)] dX1_branch_94 (by decide) rfl ?_
      refine v_iload G 1 dX1_branch_96 rfl ?_
      refine v_iload G 0 dX1_branch_98 rfl ?_
      refine v_icmp_eq G (tgt := 113) dX1_branch_100 (by decide) (fun c_24 => ?_) (fun c_24 => ?_)
      · refine v_iconst G (v := (0 : Int32)) dX1_branch_113 (by decide) ?_
        exact v_iret G rfl (hρ _) dX1_branch_114
      · refine v_aload_n G 2 dX1_branch_103 rfl ?_
        refine v_iload G 6 dX1_branch_104 rfl ?_
        refine v_iconst G (v := (0 : Int32)) dX1_branch_106 (by decide) ?_
        refine v_callVi G (As := [.int a4, .int (0 : Int32)]) (st := []) (c_G_jump l hJ hX kg ko km ks n hG S a4 (0 : Int32)) (by decide) (by decide) (ci := 1) rfl hG.1 w2_183 w2_185 w0_9 w1_7 w2_186 qyX1_jump rfl (Nat.le_of_ble_eq_true rfl) dX1_branch_107 ?_
        refine v_bnd (fun r_26 S_25 eS_25 => ?_)
        refine v_goto G (tgt := 114) dX1_branch_110 (by decide) ?_
        exact v_iret G rfl (hρ _) dX1_branch_114
  refine v_lookup G (tgt := 80) (off := 76) dX1_branch_4 (by decide) (by show Op.lookupswitch.offset [(0, 36), (4, 51), (6, 66)] _ _ = _; rw [lv_osw h_2 (by decide), lv_osw h_10 (by decide), lv_osw h_18 (by decide)]; rfl) (by decide) ?_
  refine v_bipush G (v := (11 : Int32)) dX1_branch_80 (by decide) ?_
  exact v_iret G rfl (hρ _) dX1_branch_82
/-! SensorNode$Guest.trapOfPlace -/
theorem qyX1_trapOfPlace : yX1_trapOfPlace.cls ≠ "java/lang/invoke/MethodHandle" ∧ yX1_trapOfPlace.cls ≠ "java/lang/invoke/VarHandle" ∧ (parseMethodDescriptor yX1_trapOfPlace.desc).map (fun d => d.parameters.length) = some 2 := by decide +kernel
noncomputable def f_G_trapOfPlace (S : St) (kg ko km ks n : Nat) (a1 : Int32) (a2 : Int32) : Int32 := (if (a1 &&& (a2 - (1 : Int32))) = 0 then (if (f_G_holds S kg ko km ks n a1 a2) = 0 then (13 : Int32) else (0 : Int32)) else (12 : Int32))
set_option linter.unusedVariables false in
set_option maxHeartbeats 4000000 in
set_option maxRecDepth 100000 in
theorem c_G_trapOfPlace (l : Launch) {X : vD} (hJ : sh_J X) (hX : shp X = shX) (kg ko km ks n : Nat) (hG : isG kg ko km ks n) (S : St) (a1 : Int32) (a2 : Int32)  : Con l X yX1_trapOfPlace cX1_trapOfPlace 3 (some .int) 1 [.ref (adr X kg), .int a1, .int a2] S (some (.int (f_G_trapOfPlace S kg ko km ks n a1 a2)), S) := by
  refine con_of (ρ := (fun r : Int32 => ((some (.int r), S) : Option Value × St))) (K := f_G_trapOfPlace S kg ko km ks n a1 a2) hJ hX (by decide) (Nat.le_of_ble_eq_true rfl) (lv := [(0, .ref (adr X kg)), (1, .int a1), (2, .int a2)]) rfl ?_
  intro p e s m below meth c G
  have G : vG p s m _ meth c X shX "SensorNode$Guest" cX1_trapOfPlace 3 (some .int) := G
  unfold f_G_trapOfPlace
  refine v_iload_n G 1 dX1_trapOfPlace_0 rfl ?_
  refine v_iload_n G 2 dX1_trapOfPlace_1 rfl ?_
  refine v_iconst G (v := (1 : Int32)) dX1_trapOfPlace_2 (by decide) ?_
  refine v_isub G dX1_trapOfPlace_3 ?_
  refine v_iand G dX1_trapOfPlace_4 ?_
  refine v_if_eq G (tgt := 11) dX1_trapOfPlace_5 (by decide) (fun c_1 => ?_) (fun c_1 => ?_)
  · refine v_aload_n G 0 dX1_trapOfPlace_11 rfl ?_
    refine v_iload_n G 1 dX1_trapOfPlace_12 rfl ?_
    refine v_iload_n G 2 dX1_trapOfPlace_13 rfl ?_
    refine v_callVi G (As := [.int a1, .int a2]) (st := []) (c_G_holds l hJ hX kg ko km ks n hG S a1 a2) (by decide) (by decide) (ci := 1) rfl hG.1 w2_162 w2_163 w2_164 w1_7 w2_165 qyX1_holds rfl (Nat.le_of_ble_eq_true rfl) dX1_trapOfPlace_14 ?_
    refine v_if_eq G (tgt := 24) dX1_trapOfPlace_17 (by decide) (fun c_2 => ?_) (fun c_2 => ?_)
    · refine v_bipush G (v := (13 : Int32)) dX1_trapOfPlace_24 (by decide) ?_
      exact v_iret G rfl rfl dX1_trapOfPlace_26
    · refine v_iconst G (v := (0 : Int32)) dX1_trapOfPlace_20 (by decide) ?_
      refine v_goto G (tgt := 26) dX1_trapOfPlace_21 (by decide) ?_
      exact v_iret G rfl rfl dX1_trapOfPlace_26
  · refine v_bipush G (v := (12 : Int32)) dX1_trapOfPlace_8 (by decide) ?_
    exact v_iret G rfl rfl dX1_trapOfPlace_10
/-! SensorNode$Guest.load -/
theorem qyX1_load : yX1_load.cls ≠ "java/lang/invoke/MethodHandle" ∧ yX1_load.cls ≠ "java/lang/invoke/VarHandle" ∧ (parseMethodDescriptor yX1_load.desc).map (fun d => d.parameters.length) = some 2 := by decide +kernel
noncomputable def f_G_load (S : St) (kg ko km ks n : Nat) (a1 : Int32) (a2 : Int32) : Int32 × St := (if a1 = (3 : Int32) then ((11 : Int32), S) else (if (5 : Int32) < a1 then ((11 : Int32), S) else bnx (f_G_trapOfPlace S kg ko km ks n a2 ((1 : Int32) <<< ((a1 &&& (3 : Int32)) &&& 31))) (fun x_3 => (if x_3 = 0 then bnx (ush (f_G_wordAt S kg ko km ks n a2) ((8 : Int32) * (a2 &&& (3 : Int32)))) (fun x_5 => (if a1 = (0 : Int32) then bnd (f_G_give S kg ko km ks n ((x_5 <<< ((24 : Int32) &&& 31)) >>> ((24 : Int32) &&& 31))) (fun r_8 S_7 => (r_8, S_7))
 else (if a1 = (1 : Int32) then bnd (f_G_give S kg ko km ks n ((x_5 <<< ((16 : Int32) &&& 31)) >>> ((16 : Int32) &&& 31))) (fun r_11 S_10 => (r_11, S_10))
 else (if a1 = (2 : Int32) then bnd (f_G_give S kg ko km ks n x_5) (fun r_14 S_13 => (r_14, S_13))
 else (if a1 = (3 : Int32) then bnd (f_G_give S kg ko km ks n x_5) (fun r_17 S_16 => (r_17, S_16))
 else (if a1 = (4 : Int32) then bnd (f_G_give S kg ko km ks n (x_5 &&& (255 : Int32))) (fun r_20 S_19 => (r_20, S_19))
 else (if a1 = (5 : Int32) then bnd (f_G_give S kg ko km ks n (x_5 &&& (65535 : Int32))) (fun r_23 S_22 => (r_23, S_22))
 else bnd (f_G_give S kg ko km ks n x_5) (fun r_25 S_24 => (r_25, S_24))))))))) else (x_3, S)))))
set_option linter.unusedVariables false in
set_option maxHeartbeats 4000000 in
set_option maxRecDepth 100000 in
theorem c_G_load (l : Launch) {X : vD} (hJ : sh_J X) (hX : shp X = shX) (kg ko km ks n : Nat) (hG : isG kg ko km ks n) (S : St) (a1 : Int32) (a2 : Int32)  : Con l X yX1_load cX1_load 5 (some .int) 2 [.ref (adr X kg), .int a1, .int a2] S (some (.int (f_G_load S kg ko km ks n a1 a2).1), (f_G_load S kg ko km ks n a1 a2).2) := by
  refine con_of (ρ := (fun q : Int32 × St => ((some (.int q.1), q.2) : Option Value × St))) (K := f_G_load S kg ko km ks n a1 a2) hJ hX (by decide) (Nat.le_of_ble_eq_true rfl) (lv := [(0, .ref (adr X kg)), (1, .int a1), (2, .int a2)]) rfl ?_
  intro p e s m below meth c G
  generalize hρ0 : (fun q : Int32 × St => ((some (.int q.1), q.2) : Option Value × St)) = ρ
  have hρ : ∀ q : Int32 × St, ρ q = ((some (.int q.1), q.2) : Option Value × St) := fun q => by rw [← hρ0]
  have G : vG p s m _ meth c X shX "SensorNode$Guest" cX1_load 5 (some .int) := G
  unfold f_G_load
  refine v_iload_n G 1 dX1_load_0 rfl ?_
  refine v_iconst G (v := (3 : Int32)) dX1_load_1 (by decide) ?_
  refine v_icmp_eq G (tgt := 10) dX1_load_2 (by decide) (fun c_1 => ?_) (fun c_1 => ?_)
  · refine v_bipush G (v := (11 : Int32)) dX1_load_10 (by decide) ?_
    exact v_iret G rfl (hρ _) dX1_load_12
  · refine v_iload_n G 1 dX1_load_5 rfl ?_
    refine v_iconst G (v := (5 : Int32)) dX1_load_6 (by decide) ?_
    refine v_icmp_le G (tgt := 13) dX1_load_7 (by decide) (fun c_2 => ?_) (fun c_2 => ?_)
    · refine v_aload_n G 0 dX1_load_13 rfl ?_
      refine v_iload_n G 2 dX1_load_14 rfl ?_
      refine v_iconst G (v := (1 : Int32)) dX1_load_15 (by decide) ?_
      refine v_iload_n G 1 dX1_load_16 rfl ?_
      refine v_iconst G (v := (3 : Int32)) dX1_load_17 (by decide) ?_
      refine v_iand G dX1_load_18 ?_
      refine v_ishl G dX1_load_19 ?_
      refine v_callVi G (As := [.int a2, .int ((1 : Int32) <<< ((a1 &&& (3 : Int32)) &&& 31))]) (st := []) (c_G_trapOfPlace l hJ hX kg ko km ks n hG S a2 ((1 : Int32) <<< ((a1 &&& (3 : Int32)) &&& 31))) (by decide) (by decide) (ci := 1) rfl hG.1 w2_158 w2_160 w0_6 w1_7 w2_161 qyX1_trapOfPlace rfl (Nat.le_of_ble_eq_true rfl) dX1_load_20 ?_
      refine v_namei (fun x_3 ex_3 => ?_)
      refine v_istore_n G [(3, .int x_3), (0, .ref (adr X kg)), (1, .int a1), (2, .int a2)] dX1_load_23 (by decide) rfl ?_
      refine v_iload_n G 0 dX1_load_24 rfl ?_
      refine v_if_eq G (tgt := 30) dX1_load_25 (by decide) (fun c_4 => ?_) (fun c_4 => ?_)
      · refine v_aload_n G 1 dX1_load_30 rfl ?_
        refine v_iload_n G 3 dX1_load_31 rfl ?_
        refine v_callVi G (As := [.int a2]) (st := []) (c_G_wordAt l hJ hX kg ko km ks n hG S a2) (by decide) (by decide) (ci := 1) rfl hG.1 w2_167 w2_169 w0_7 w1_7 w2_170 qyX1_wordAt rfl (Nat.le_of_ble_eq_true rfl) dX1_load_32 ?_
        refine v_bipush G (v := (8 : Int32)) dX1_load_35 (by decide) ?_
        refine v_iload_n G 3 dX1_load_37 rfl ?_
        refine v_iconst G (v := (3 : Int32)) dX1_load_38 (by decide) ?_
        refine v_iand G dX1_load_39 ?_
        refine v_imul G dX1_load_40 ?_
        refine v_iushr G dX1_load_41 ?_
        refine v_namei (fun x_5 ex_5 => ?_)
        refine v_istore G [(4, .int x_5), (3, .int x_3), (0, .ref (adr X kg)), (1, .int a1), (2, .int a2)] dX1_load_42 (by decide) rfl ?_
        refine v_iload_n G 3 dX1_load_44 rfl ?_
        refine v_sw (0 : Int32) (fun h_6 => ?_) (fun h_6 => ?_)
        · refine v_tableIn G (tgt := 84) (off := 39) dX1_load_45 (by decide) (by decide) (by decide) (by decide) ?_
          refine v_aload_n G 2 dX1_load_84 rfl ?_
          refine v_iload G 0 dX1_load_85 rfl ?_
          refine v_bipush G (v := (24 : Int32)) dX1_load_87 (by decide) ?_
          refine v_ishl G dX1_load_89 ?_
          refine v_bipush G (v := (24 : Int32)) dX1_load_90 (by decide) ?_
          refine v_ishr G dX1_load_92 ?_
          refine v_callVi G (As := [.int ((x_5 <<< ((24 : Int32) &&& 31)) >>> ((24 : Int32) &&& 31))]) (st := []) (c_G_give l hJ hX kg ko km ks n hG S ((x_5 <<< ((24 : Int32) &&& 31)) >>> ((24 : Int32) &&& 31))) (by decide) (by decide) (ci := 1) rfl hG.1 w2_175 w2_177 w0_8 w1_7 w2_178 qyX1_give rfl (Nat.le_of_ble_eq_true rfl) dX1_load_93 ?_
          refine v_bnd (fun r_8 S_7 eS_7 => ?_)
          exact v_iret G rfl (hρ _) dX1_load_96
        refine v_sw (1 : Int32) (fun h_9 => ?_) (fun h_9 => ?_)
        · refine v_tableIn G (tgt := 97) (off := 52) dX1_load_45 (by decide) (by decide) (by decide) (by decide) ?_
          refine v_aload_n G 2 dX1_load_97 rfl ?_
          refine v_iload G 0 dX1_load_98 rfl ?_
          refine v_bipush G (v := (16 : Int32)) dX1_load_100 (by decide) ?_
          refine v_ishl G dX1_load_102 ?_
          refine v_bipush G (v := (16 : Int32)) dX1_load_103 (by decide) ?_
          refine v_ishr G dX1_load_105 ?_
          refine v_callVi G (As := [.int ((x_5 <<< ((16 : Int32) &&& 31)) >>> ((16 : Int32) &&& 31))]) (st := []) (c_G_give l hJ hX kg ko km ks n hG S ((x_5 <<< ((16 : Int32) &&& 31)) >>> ((16 : Int32) &&& 31))) (by decide) (by decide) (ci := 1) rfl hG.1 w2_175 w2_177 w0_8 w1_7 w2_178 qyX1_give rfl (Nat.le_of_ble_eq_true rfl) dX1_load_106 ?_
          refine v_bnd (fun r_11 S_10 eS_10 => ?_)
          exact v_iret G rfl (hρ _) dX1_load_109
        refine v_sw (2 : Int32) (fun h_12 => ?_) (fun h_12 => ?_)
        · refine v_tableIn G (tgt := 131) (off := 86) dX1_load_45 (by decide) (by decide) (by decide) (by decide) ?_
          refine v_aload_n G 2 dX1_load_131 rfl ?_
          refine v_iload G 0 dX1_load_132 rfl ?_
          refine v_callVi G (As := [.int x_5]) (st := []) (c_G_give l hJ hX kg ko km ks n hG S x_5) (by decide) (by decide) (ci := 1) rfl hG.1 w2_175 w2_177 w0_8 w1_7 w2_178 qyX1_give rfl (Nat.le_of_ble_eq_true rfl) dX1_load_134 ?_
          refine v_bnd (fun r_14 S_13 eS_13 => ?_)
          exact v_iret G rfl (hρ _) dX1_load_137
        refine v_sw (3 : Int32) (fun h_15 => ?_) (fun h_15 => ?_)
        · refine v_tableIn G (tgt := 131) (off := 86) dX1_load_45 (by decide) (by decide) (by decide) (by decide) ?_
          refine v_aload_n G 2 dX1_load_131 rfl ?_
          refine v_iload G 0 dX1_load_132 rfl ?_
          refine v_callVi G (As := [.int x_5]) (st := []) (c_G_give l hJ hX kg ko km ks n hG S x_5) (by decide) (by decide) (ci := 1) rfl hG.1 w2_175 w2_177 w0_8 w1_7 w2_178 qyX1_give rfl (Nat.le_of_ble_eq_true rfl) dX1_load_134 ?_
          refine v_bnd (fun r_17 S_16 eS_16 => ?_)
          exact v_iret G rfl (hρ _) dX1_load_137
        refine v_sw (4 : Int32) (fun h_18 => ?_) (fun h_18 => ?_)
        · refine v_tableIn G (tgt := 110) (off := 65) dX1_load_45 (by decide) (by decide) (by decide) (by decide) ?_
          refine v_aload_n G 2 dX1_load_110 rfl ?_
          refine v_iload G 0 dX1_load_111 rfl ?_
          refine v_sipush G (v := (255 : Int32)) dX1_load_113 (by decide) ?_
          refine v_iand G dX1_load_116 ?_
          refine v_callVi G (As := [.int (x_5 &&& (255 : Int32))]) (st := []) (c_G_give l hJ hX kg ko km ks n hG S (x_5 &&& (255 : Int32))) (by decide) (by decide) (ci := 1) rfl hG.1 w2_175 w2_177 w0_8 w1_7 w2_178 qyX1_give rfl (Nat.le_of_ble_eq_true rfl) dX1_load_117 ?_
          refine v_bnd (fun r_20 S_19 eS_19 => ?_)
          exact v_iret G rfl (hρ _) dX1_load_120
        refine v_sw (5 : Int32) (fun h_21 => ?_) (fun h_21 => ?_)
        · refine v_tableIn G (tgt := 121) (off := 76) dX1_load_45 (by decide) (by decide) (by decide) (by decide) ?_
          refine v_aload_n G 2 dX1_load_121 rfl ?_
          refine v_iload G 0 dX1_load_122 rfl ?_
          refine v_ldc G (v := (65535 : Int32)) dX1_load_124 w2_202 ?_
          refine v_iand G dX1_load_126 ?_
          refine v_callVi G (As := [.int (x_5 &&& (65535 : Int32))]) (st := []) (c_G_give l hJ hX kg ko km ks n hG S (x_5 &&& (65535 : Int32))) (by decide) (by decide) (ci := 1) rfl hG.1 w2_175 w2_177 w0_8 w1_7 w2_178 qyX1_give rfl (Nat.le_of_ble_eq_true rfl) dX1_load_127 ?_
          refine v_bnd (fun r_23 S_22 eS_22 => ?_)
          exact v_iret G rfl (hρ _) dX1_load_130
        have th_6 := lv_neT (a := 0) h_6 (by decide)
        have th_9 := lv_neT (a := 1) h_9 (by decide)
        have th_12 := lv_neT (a := 2) h_12 (by decide)
        have th_15 := lv_neT (a := 3) h_15 (by decide)
        have th_18 := lv_neT (a := 4) h_18 (by decide)
        have th_21 := lv_neT (a := 5) h_21 (by decide)
        refine v_tableOut G (tgt := 131) dX1_load_45 (by omega) (by decide) ?_
        refine v_aload_n G 2 dX1_load_131 rfl ?_
        refine v_iload G 0 dX1_load_132 rfl ?_
        refine v_callVi G (As := [.int x_5]) (st := []) (c_G_give l hJ hX kg ko km ks n hG S x_5) (by decide) (by decide) (ci := 1) rfl hG.1 w2_175 w2_177 w0_8 w1_7 w2_178 qyX1_give rfl (Nat.le_of_ble_eq_true rfl) dX1_load_134 ?_
        refine v_bnd (fun r_25 S_24 eS_24 => ?_)
        exact v_iret G rfl (hρ _) dX1_load_137
      · refine v_iload_n G 0 dX1_load_28 rfl ?_
        exact v_iret G rfl (hρ _) dX1_load_29
    · refine v_bipush G (v := (11 : Int32)) dX1_load_10 (by decide) ?_
      exact v_iret G rfl (hρ _) dX1_load_12
/-! SensorNode$Guest.storeAt -/
theorem qyX1_storeAt : yX1_storeAt.cls ≠ "java/lang/invoke/MethodHandle" ∧ yX1_storeAt.cls ≠ "java/lang/invoke/VarHandle" ∧ (parseMethodDescriptor yX1_storeAt.desc).map (fun d => d.parameters.length) = some 3 := by decide +kernel
noncomputable def f_G_storeAt (S : St) (kg ko km ks n : Nat) (a1 : Int32) (a2 : Int32) (a3 : Int32) : Int32 × St := (if (2 : Int32) < a1 then ((11 : Int32), S) else bnx (f_G_trapOfPlace S kg ko km ks n a2 ((1 : Int32) <<< (a1 &&& 31))) (fun x_2 => (if x_2 = 0 then (if a1 = 0 then bnx ((8 : Int32) * (a2 &&& (3 : Int32))) (fun x_26 => (if (f_G_inRam S kg ko km ks n a2) = 0 then bnv (st_up S kg 5 (4 : Int32)) (fun S_28 => bnv (st_up S_28 kg 9 a2) (fun S_29 => bnd (f_G_give S_29 kg ko km ks n (((f_G_wordAt S_29 kg ko km ks n a2) &&& (((255 : Int32) <<< (x_26 &&& 31)) ^^^ (-1 : Int32))) ||| ((a3 &&& (255 : Int32)) <<< (x_26 &&& 31)))) (fun r_31 S_30 => (r_31, S_30)))) else bnv (st_up S kg 5 (3 : Int32)) (fun S_32 => bnv (st_up S_32 kg 9 a2) (fun S_33 => bnd (f_G_give S_33 kg ko km ks n (((f_G_wordAt S_33 kg ko km ks n a2) &&& (((255 : Int32) <<< (x_26 &&& 31)) ^^^ (-1 : Int32))) ||| ((a3 &&& (255 : Int32)) <<< (x_26 &&& 31)))) (fun r_35 S_34 => (r_35, S_34)))))) else (if a1 = (1 : Int32) then bnx ((8 : Int32) * (a2 &&& (3 : Int32))) (fun x_16 => (if (f_G_inRam S kg ko km ks n a2) = 0 then bnv (st_up S kg 5 (4 : Int32)) (fun S_18 => bnv (st_up S_18 kg 9 a2) (fun S_19 => bnd (f_G_give S_19 kg ko km ks n (((f_G_wordAt S_19 kg ko km ks n a2) &&& (((65535 : Int32) <<< (x_16 &&& 31)) ^^^ (-1 : Int32))) ||| ((a3 &&& (65535 : Int32)) <<< (x_16 &&& 31)))) (fun r_21 S_20 => (r_21, S_20)))) else bnv (st_up S kg 5 (3 : Int32)) (fun S_22 => bnv (st_up S_22 kg 9 a2) (fun S_23 => bnd (f_G_give S_23 kg ko km ks n (((f_G_wordAt S_23 kg ko km ks n a2) &&& (((65535 : Int32) <<< (x_16 &&& 31)) ^^^ (-1 : Int32))) ||| ((a3 &&& (65535 : Int32)) <<< (x_16 &&& 31)))) (fun r_25 S_24 => (r_25, S_24)))))) else bnx ((8 : Int32) * (a2 &&& (3 : Int32))) (fun x_6 => (if (f_G_inRam S kg ko km ks n a2) = 0 then bnv (st_up S kg 5 (4 : Int32)) (fun S_8 => bnv (st_up S_8 kg 9 a2) (fun S_9 => bnd (f_G_give S_9 kg ko km ks n (((f_G_wordAt S_9 kg ko km ks n a2) &&& (((-1 : Int32) <<< (x_6 &&& 31)) ^^^ (-1 : Int32))) ||| ((a3 &&& (-1 : Int32)) <<< (x_6 &&& 31)))) (fun r_11 S_10 => (r_11, S_10)))) else bnv (st_up S kg 5 (3 : Int32)) (fun S_12 => bnv (st_up S_12 kg 9 a2) (fun S_13 => bnd (f_G_give S_13 kg ko km ks n (((f_G_wordAt S_13 kg ko km ks n a2) &&& (((-1 : Int32) <<< (x_6 &&& 31)) ^^^ (-1 : Int32))) ||| ((a3 &&& (-1 : Int32)) <<< (x_6 &&& 31)))) (fun r_15 S_14 => (r_15, S_14)))))))) else (x_2, S))))
set_option linter.unusedVariables false in
set_option maxHeartbeats 4000000 in
set_option maxRecDepth 100000 in
theorem c_G_storeAt (l : Launch) {X : vD} (hJ : sh_J X) (hX : shp X = shX) (kg ko km ks n : Nat) (hG : isG kg ko km ks n) (S : St) (a1 : Int32) (a2 : Int32) (a3 : Int32)  : Con l X yX1_storeAt cX1_storeAt 7 (some .int) 2 [.ref (adr X kg), .int a1, .int a2, .int a3] S (some (.int (f_G_storeAt S kg ko km ks n a1 a2 a3).1), (f_G_storeAt S kg ko km ks n a1 a2 a3).2) := by
  refine con_of (ρ := (fun q : Int32 × St => ((some (.int q.1), q.2) : Option Value × St))) (K := f_G_storeAt S kg ko km ks n a1 a2 a3) hJ hX (by decide) (Nat.le_of_ble_eq_true rfl) (lv := [(0, .ref (adr X kg)), (1, .int a1), (2, .int a2), (3, .int a3)]) rfl ?_
  intro p e s m below meth c G
  generalize hρ0 : (fun q : Int32 × St => ((some (.int q.1), q.2) : Option Value × St)) = ρ
  have hρ : ∀ q : Int32 × St, ρ q = ((some (.int q.1), q.2) : Option Value × St) := fun q => by rw [← hρ0]
  have G : vG p s m _ meth c X shX "SensorNode$Guest" cX1_storeAt 7 (some .int) := G
  unfold f_G_storeAt
  refine v_iload_n G 1 dX1_storeAt_0 rfl ?_
  refine v_iconst G (v := (2 : Int32)) dX1_storeAt_1 (by decide) ?_
  refine v_icmp_le G (tgt := 8) dX1_storeAt_2 (by decide) (fun c_1 => ?_) (fun c_1 => ?_)
  · refine v_aload_n G 0 dX1_storeAt_8 rfl ?_
    refine v_iload_n G 2 dX1_storeAt_9 rfl ?_
    refine v_iconst G (v := (1 : Int32)) dX1_storeAt_10 (by decide) ?_
    refine v_iload_n G 1 dX1_storeAt_11 rfl ?_
    refine v_ishl G dX1_storeAt_12 ?_
    refine v_callVi G (As := [.int a2, .int ((1 : Int32) <<< (a1 &&& 31))]) (st := []) (c_G_trapOfPlace l hJ hX kg ko km ks n hG S a2 ((1 : Int32) <<< (a1 &&& 31))) (by decide) (by decide) (ci := 1) rfl hG.1 w2_158 w2_160 w0_6 w1_7 w2_161 qyX1_trapOfPlace rfl (Nat.le_of_ble_eq_true rfl) dX1_storeAt_13 ?_
    refine v_namei (fun x_2 ex_2 => ?_)
    refine v_istore G [(4, .int x_2), (0, .ref (adr X kg)), (1, .int a1), (2, .int a2), (3, .int a3)] dX1_storeAt_16 (by decide) rfl ?_
    refine v_iload G 0 dX1_storeAt_18 rfl ?_
    refine v_if_eq G (tgt := 26) dX1_storeAt_20 (by decide) (fun c_3 => ?_) (fun c_3 => ?_)
    · refine v_iload_n G 2 dX1_storeAt_26 rfl ?_
      refine v_if_ne G (tgt := 36) dX1_storeAt_27 (by decide) (fun c_4 => ?_) (fun c_4 => ?_)
      · refine v_iload_n G 2 dX1_storeAt_36 rfl ?_
        refine v_iconst G (v := (1 : Int32)) dX1_storeAt_37 (by decide) ?_
        refine v_icmp_ne G (tgt := 46) dX1_storeAt_38 (by decide) (fun c_5 => ?_) (fun c_5 => ?_)
        · refine v_iconst G (v := (-1 : Int32)) dX1_storeAt_46 (by decide) ?_
          refine v_istore G [(5, .int (-1 : Int32)), (4, .int x_2), (0, .ref (adr X kg)), (1, .int a1), (2, .int a2), (3, .int a3)] dX1_storeAt_47 (by decide) rfl ?_
          refine v_bipush G (v := (8 : Int32)) dX1_storeAt_49 (by decide) ?_
          refine v_iload_n G 4 dX1_storeAt_51 rfl ?_
          refine v_iconst G (v := (3 : Int32)) dX1_storeAt_52 (by decide) ?_
          refine v_iand G dX1_storeAt_53 ?_
          refine v_imul G dX1_storeAt_54 ?_
          refine v_namei (fun x_6 ex_6 => ?_)
          refine v_istore G [(6, .int x_6), (5, .int (-1 : Int32)), (4, .int x_2), (0, .ref (adr X kg)), (1, .int a1), (2, .int a2), (3, .int a3)] dX1_storeAt_55 (by decide) rfl ?_
          refine v_aload_n G 3 dX1_storeAt_57 rfl ?_
          refine v_aload_n G 3 dX1_storeAt_58 rfl ?_
          refine v_iload_n G 5 dX1_storeAt_59 rfl ?_
          refine v_callVi G (As := [.int a2]) (st := [.ref (adr X kg)]) (c_G_inRam l hJ hX kg ko km ks n hG S a2) (by decide) (by decide) (ci := 1) rfl hG.1 w2_171 w2_172 w2_173 w1_7 w2_174 qyX1_inRam rfl (Nat.le_of_ble_eq_true rfl) dX1_storeAt_60 ?_
          refine v_if_eq G (tgt := 70) dX1_storeAt_63 (by decide) (fun c_7 => ?_) (fun c_7 => ?_)
          · refine v_iconst G (v := (4 : Int32)) dX1_storeAt_70 (by decide) ?_
            refine v_puti G (ci := 1) (T := TX1) (j := 5) inX1 rfl hG.1 tyX1_ok nmX1 rfl (by decide) rfl rfl rfl w1_133 dX1_storeAt_71 (fun S_8 eS_8 => ?_)
            refine v_aload_n G 3 dX1_storeAt_74 rfl ?_
            refine v_iload_n G 5 dX1_storeAt_75 rfl ?_
            refine v_puti G (ci := 1) (T := TX1) (j := 9) inX1 rfl hG.1 tyX1_ok nmX1 rfl (by decide) rfl rfl rfl w1_137 dX1_storeAt_76 (fun S_9 eS_9 => ?_)
            refine v_aload_n G 3 dX1_storeAt_79 rfl ?_
            refine v_aload_n G 3 dX1_storeAt_80 rfl ?_
            refine v_iload_n G 5 dX1_storeAt_81 rfl ?_
            refine v_callVi G (As := [.int a2]) (st := [.ref (adr X kg)]) (c_G_wordAt l hJ hX kg ko km ks n hG S_9 a2) (by decide) (by decide) (ci := 1) rfl hG.1 w2_167 w2_169 w0_7 w1_7 w2_170 qyX1_wordAt rfl (Nat.le_of_ble_eq_true rfl) dX1_storeAt_82 ?_
            refine v_iload G 1 dX1_storeAt_85 rfl ?_
            refine v_iload G 0 dX1_storeAt_87 rfl ?_
            refine v_ishl G dX1_storeAt_89 ?_
            refine v_iconst G (v := (-1 : Int32)) dX1_storeAt_90 (by decide) ?_
            refine v_ixor G dX1_storeAt_91 ?_
            refine v_iand G dX1_storeAt_92 ?_
            refine v_iload_n G 6 dX1_storeAt_93 rfl ?_
            refine v_iload G 1 dX1_storeAt_94 rfl ?_
            refine v_iand G dX1_storeAt_96 ?_
            refine v_iload G 0 dX1_storeAt_97 rfl ?_
            refine v_ishl G dX1_storeAt_99 ?_
            refine v_ior G dX1_storeAt_100 ?_
            refine v_callVi G (As := [.int (((f_G_wordAt S_9 kg ko km ks n a2) &&& (((-1 : Int32) <<< (x_6 &&& 31)) ^^^ (-1 : Int32))) ||| ((a3 &&& (-1 : Int32)) <<< (x_6 &&& 31)))]) (st := []) (c_G_give l hJ hX kg ko km ks n hG S_9 (((f_G_wordAt S_9 kg ko km ks n a2) &&& (((-1 : Int32) <<< (x_6 &&& 31)) ^^^ (-1 : Int32))) ||| ((a3 &&& (-1 : Int32)) <<< (x_6 &&& 31)))) (by decide) (by decide) (ci := 1) rfl hG.1 w2_175 w2_177 w0_8 w1_7 w2_178 qyX1_give rfl (Nat.le_of_ble_eq_true rfl) dX1_storeAt_101 ?_
            refine v_bnd (fun r_11 S_10 eS_10 => ?_)
            exact v_iret G rfl (hρ _) dX1_storeAt_104
          · refine v_iconst G (v := (3 : Int32)) dX1_storeAt_66 (by decide) ?_
            refine v_goto G (tgt := 71) dX1_storeAt_67 (by decide) ?_
            refine v_puti G (ci := 1) (T := TX1) (j := 5) inX1 rfl hG.1 tyX1_ok nmX1 rfl (by decide) rfl rfl rfl w1_133 dX1_storeAt_71 (fun S_12 eS_12 => ?_)
            refine v_aload_n G 3 dX1_storeAt_74 rfl ?_
            refine v_iload_n G 5 dX1_storeAt_75 rfl ?_
            refine v_puti G (ci := 1) (T := TX1) (j := 9) inX1 rfl hG.1 tyX1_ok nmX1 rfl (by decide) rfl rfl rfl w1_137 dX1_storeAt_76 (fun S_13 eS_13 => ?_)
            refine v_aload_n G 3 dX1_storeAt_79 rfl ?_
            refine v_aload_n G 3 dX1_storeAt_80 rfl ?_
            refine v_iload_n G 5 dX1_storeAt_81 rfl ?_
            refine v_callVi G (As := [.int a2]) (st := [.ref (adr X kg)]) (c_G_wordAt l hJ hX kg ko km ks n hG S_13 a2) (by decide) (by decide) (ci := 1) rfl hG.1 w2_167 w2_169 w0_7 w1_7 w2_170 qyX1_wordAt rfl (Nat.le_of_ble_eq_true rfl) dX1_storeAt_82 ?_
            refine v_iload G 1 dX1_storeAt_85 rfl ?_
            refine v_iload G 0 dX1_storeAt_87 rfl ?_
            refine v_ishl G dX1_storeAt_89 ?_
            refine v_iconst G (v := (-1 : Int32)) dX1_storeAt_90 (by decide) ?_
            refine v_ixor G dX1_storeAt_91 ?_
            refine v_iand G dX1_storeAt_92 ?_
            refine v_iload_n G 6 dX1_storeAt_93 rfl ?_
            refine v_iload G 1 dX1_storeAt_94 rfl ?_
            refine v_iand G dX1_storeAt_96 ?_
            refine v_iload G 0 dX1_storeAt_97 rfl ?_
            refine v_ishl G dX1_storeAt_99 ?_
            refine v_ior G dX1_storeAt_100 ?_
            refine v_callVi G (As := [.int (((f_G_wordAt S_13 kg ko km ks n a2) &&& (((-1 : Int32) <<< (x_6 &&& 31)) ^^^ (-1 : Int32))) ||| ((a3 &&& (-1 : Int32)) <<< (x_6 &&& 31)))]) (st := []) (c_G_give l hJ hX kg ko km ks n hG S_13 (((f_G_wordAt S_13 kg ko km ks n a2) &&& (((-1 : Int32) <<< (x_6 &&& 31)) ^^^ (-1 : Int32))) ||| ((a3 &&& (-1 : Int32)) <<< (x_6 &&& 31)))) (by decide) (by decide) (ci := 1) rfl hG.1 w2_175 w2_177 w0_8 w1_7 w2_178 qyX1_give rfl (Nat.le_of_ble_eq_true rfl) dX1_storeAt_101 ?_
            refine v_bnd (fun r_15 S_14 eS_14 => ?_)
            exact v_iret G rfl (hρ _) dX1_storeAt_104
        · refine v_ldc G (v := (65535 : Int32)) dX1_storeAt_41 w2_202 ?_
          refine v_goto G (tgt := 47) dX1_storeAt_43 (by decide) ?_
          refine v_istore G [(5, .int (65535 : Int32)), (4, .int x_2), (0, .ref (adr X kg)), (1, .int a1), (2, .int a2), (3, .int a3)] dX1_storeAt_47 (by decide) rfl ?_
          refine v_bipush G (v := (8 : Int32)) dX1_storeAt_49 (by decide) ?_
          refine v_iload_n G 4 dX1_storeAt_51 rfl ?_
          refine v_iconst G (v := (3 : Int32)) dX1_storeAt_52 (by decide) ?_
          refine v_iand G dX1_storeAt_53 ?_
          refine v_imul G dX1_storeAt_54 ?_
          refine v_namei (fun x_16 ex_16 => ?_)
          refine v_istore G [(6, .int x_16), (5, .int (65535 : Int32)), (4, .int x_2), (0, .ref (adr X kg)), (1, .int a1), (2, .int a2), (3, .int a3)] dX1_storeAt_55 (by decide) rfl ?_
          refine v_aload_n G 3 dX1_storeAt_57 rfl ?_
          refine v_aload_n G 3 dX1_storeAt_58 rfl ?_
          refine v_iload_n G 5 dX1_storeAt_59 rfl ?_
          refine v_callVi G (As := [.int a2]) (st := [.ref (adr X kg)]) (c_G_inRam l hJ hX kg ko km ks n hG S a2) (by decide) (by decide) (ci := 1) rfl hG.1 w2_171 w2_172 w2_173 w1_7 w2_174 qyX1_inRam rfl (Nat.le_of_ble_eq_true rfl) dX1_storeAt_60 ?_
          refine v_if_eq G (tgt := 70) dX1_storeAt_63 (by decide) (fun c_17 => ?_) (fun c_17 => ?_)
          · refine v_iconst G (v := (4 : Int32)) dX1_storeAt_70 (by decide) ?_
            refine v_puti G (ci := 1) (T := TX1) (j := 5) inX1 rfl hG.1 tyX1_ok nmX1 rfl (by decide) rfl rfl rfl w1_133 dX1_storeAt_71 (fun S_18 eS_18 => ?_)
            refine v_aload_n G 3 dX1_storeAt_74 rfl ?_
            refine v_iload_n G 5 dX1_storeAt_75 rfl ?_
            refine v_puti G (ci := 1) (T := TX1) (j := 9) inX1 rfl hG.1 tyX1_ok nmX1 rfl (by decide) rfl rfl rfl w1_137 dX1_storeAt_76 (fun S_19 eS_19 => ?_)
            refine v_aload_n G 3 dX1_storeAt_79 rfl ?_
            refine v_aload_n G 3 dX1_storeAt_80 rfl ?_
            refine v_iload_n G 5 dX1_storeAt_81 rfl ?_
            refine v_callVi G (As := [.int a2]) (st := [.ref (adr X kg)]) (c_G_wordAt l hJ hX kg ko km ks n hG S_19 a2) (by decide) (by decide) (ci := 1) rfl hG.1 w2_167 w2_169 w0_7 w1_7 w2_170 qyX1_wordAt rfl (Nat.le_of_ble_eq_true rfl) dX1_storeAt_82 ?_
            refine v_iload G 1 dX1_storeAt_85 rfl ?_
            refine v_iload G 0 dX1_storeAt_87 rfl ?_
            refine v_ishl G dX1_storeAt_89 ?_
            refine v_iconst G (v := (-1 : Int32)) dX1_storeAt_90 (by decide) ?_
            refine v_ixor G dX1_storeAt_91 ?_
            refine v_iand G dX1_storeAt_92 ?_
            refine v_iload_n G 6 dX1_storeAt_93 rfl ?_
            refine v_iload G 1 dX1_storeAt_94 rfl ?_
            refine v_iand G dX1_storeAt_96 ?_
            refine v_iload G 0 dX1_storeAt_97 rfl ?_
            refine v_ishl G dX1_storeAt_99 ?_
            refine v_ior G dX1_storeAt_100 ?_
            refine v_callVi G (As := [.int (((f_G_wordAt S_19 kg ko km ks n a2) &&& (((65535 : Int32) <<< (x_16 &&& 31)) ^^^ (-1 : Int32))) ||| ((a3 &&& (65535 : Int32)) <<< (x_16 &&& 31)))]) (st := []) (c_G_give l hJ hX kg ko km ks n hG S_19 (((f_G_wordAt S_19 kg ko km ks n a2) &&& (((65535 : Int32) <<< (x_16 &&& 31)) ^^^ (-1 : Int32))) ||| ((a3 &&& (65535 : Int32)) <<< (x_16 &&& 31)))) (by decide) (by decide) (ci := 1) rfl hG.1 w2_175 w2_177 w0_8 w1_7 w2_178 qyX1_give rfl (Nat.le_of_ble_eq_true rfl) dX1_storeAt_101 ?_
            refine v_bnd (fun r_21 S_20 eS_20 => ?_)
            exact v_iret G rfl (hρ _) dX1_storeAt_104
          · refine v_iconst G (v := (3 : Int32)) dX1_storeAt_66 (by decide) ?_
            refine v_goto G (tgt := 71) dX1_storeAt_67 (by decide) ?_
            refine v_puti G (ci := 1) (T := TX1) (j := 5) inX1 rfl hG.1 tyX1_ok nmX1 rfl (by decide) rfl rfl rfl w1_133 dX1_storeAt_71 (fun S_22 eS_22 => ?_)
            refine v_aload_n G 3 dX1_storeAt_74 rfl ?_
            refine v_iload_n G 5 dX1_storeAt_75 rfl ?_
            refine v_puti G (ci := 1) (T := TX1) (j := 9) inX1 rfl hG.1 tyX1_ok nmX1 rfl (by decide) rfl rfl rfl w1_137 dX1_storeAt_76 (fun S_23 eS_23 => ?_)
            refine v_aload_n G 3 dX1_storeAt_79 rfl ?_
            refine v_aload_n G 3 dX1_storeAt_80 rfl ?_
            refine v_iload_n G 5 dX1_storeAt_81 rfl ?_
            refine v_callVi G (As := [.int a2]) (st := [.ref (adr X kg)]) (c_G_wordAt l hJ hX kg ko km ks n hG S_23 a2) (by decide) (by decide) (ci := 1) rfl hG.1 w2_167 w2_169 w0_7 w1_7 w2_170 qyX1_wordAt rfl (Nat.le_of_ble_eq_true rfl) dX1_storeAt_82 ?_
            refine v_iload G 1 dX1_storeAt_85 rfl ?_
            refine v_iload G 0 dX1_storeAt_87 rfl ?_
            refine v_ishl G dX1_storeAt_89 ?_
            refine v_iconst G (v := (-1 : Int32)) dX1_storeAt_90 (by decide) ?_
            refine v_ixor G dX1_storeAt_91 ?_
            refine v_iand G dX1_storeAt_92 ?_
            refine v_iload_n G 6 dX1_storeAt_93 rfl ?_
            refine v_iload G 1 dX1_storeAt_94 rfl ?_
            refine v_iand G dX1_storeAt_96 ?_
            refine v_iload G 0 dX1_storeAt_97 rfl ?_
            refine v_ishl G dX1_storeAt_99 ?_
            refine v_ior G dX1_storeAt_100 ?_
            refine v_callVi G (As := [.int (((f_G_wordAt S_23 kg ko km ks n a2) &&& (((65535 : Int32) <<< (x_16 &&& 31)) ^^^ (-1 : Int32))) ||| ((a3 &&& (65535 : Int32)) <<< (x_16 &&& 31)))]) (st := []) (c_G_give l hJ hX kg ko km ks n hG S_23 (((f_G_wordAt S_23 kg ko km ks n a2) &&& (((65535 : Int32) <<< (x_16 &&& 31)) ^^^ (-1 : Int32))) ||| ((a3 &&& (65535 : Int32)) <<< (x_16 &&& 31)))) (by decide) (by decide) (ci := 1) rfl hG.1 w2_175 w2_177 w0_8 w1_7 w2_178 qyX1_give rfl (Nat.le_of_ble_eq_true rfl) dX1_storeAt_101 ?_
            refine v_bnd (fun r_25 S_24 eS_24 => ?_)
            exact v_iret G rfl (hρ _) dX1_storeAt_104
      · refine v_sipush G (v := (255 : Int32)) dX1_storeAt_30 (by decide) ?_
        refine v_goto G (tgt := 47) dX1_storeAt_33 (by decide) ?_
        refine v_istore G [(5, .int (255 : Int32)), (4, .int x_2), (0, .ref (adr X kg)), (1, .int a1), (2, .int a2), (3, .int a3)] dX1_storeAt_47 (by decide) rfl ?_
        refine v_bipush G (v := (8 : Int32)) dX1_storeAt_49 (by decide) ?_
        refine v_iload_n G 4 dX1_storeAt_51 rfl ?_
        refine v_iconst G (v := (3 : Int32)) dX1_storeAt_52 (by decide) ?_
        refine v_iand G dX1_storeAt_53 ?_
        refine v_imul G dX1_storeAt_54 ?_
        refine v_namei (fun x_26 ex_26 => ?_)
        refine v_istore G [(6, .int x_26), (5, .int (255 : Int32)), (4, .int x_2), (0, .ref (adr X kg)), (1, .int a1), (2, .int a2), (3, .int a3)] dX1_storeAt_55 (by decide) rfl ?_
        refine v_aload_n G 3 dX1_storeAt_57 rfl ?_
        refine v_aload_n G 3 dX1_storeAt_58 rfl ?_
        refine v_iload_n G 5 dX1_storeAt_59 rfl ?_
        refine v_callVi G (As := [.int a2]) (st := [.ref (adr X kg)]) (c_G_inRam l hJ hX kg ko km ks n hG S a2) (by decide) (by decide) (ci := 1) rfl hG.1 w2_171 w2_172 w2_173 w1_7 w2_174 qyX1_inRam rfl (Nat.le_of_ble_eq_true rfl) dX1_storeAt_60 ?_
        refine v_if_eq G (tgt := 70) dX1_storeAt_63 (by decide) (fun c_27 => ?_) (fun c_27 => ?_)
        · refine v_iconst G (v := (4 : Int32)) dX1_storeAt_70 (by decide) ?_
          refine v_puti G (ci := 1) (T := TX1) (j := 5) inX1 rfl hG.1 tyX1_ok nmX1 rfl (by decide) rfl rfl rfl w1_133 dX1_storeAt_71 (fun S_28 eS_28 => ?_)
          refine v_aload_n G 3 dX1_storeAt_74 rfl ?_
          refine v_iload_n G 5 dX1_storeAt_75 rfl ?_
          refine v_puti G (ci := 1) (T := TX1) (j := 9) inX1 rfl hG.1 tyX1_ok nmX1 rfl (by decide) rfl rfl rfl w1_137 dX1_storeAt_76 (fun S_29 eS_29 => ?_)
          refine v_aload_n G 3 dX1_storeAt_79 rfl ?_
          refine v_aload_n G 3 dX1_storeAt_80 rfl ?_
          refine v_iload_n G 5 dX1_storeAt_81 rfl ?_
          refine v_callVi G (As := [.int a2]) (st := [.ref (adr X kg)]) (c_G_wordAt l hJ hX kg ko km ks n hG S_29 a2) (by decide) (by decide) (ci := 1) rfl hG.1 w2_167 w2_169 w0_7 w1_7 w2_170 qyX1_wordAt rfl (Nat.le_of_ble_eq_true rfl) dX1_storeAt_82 ?_
          refine v_iload G 1 dX1_storeAt_85 rfl ?_
          refine v_iload G 0 dX1_storeAt_87 rfl ?_
          refine v_ishl G dX1_storeAt_89 ?_
          refine v_iconst G (v := (-1 : Int32)) dX1_storeAt_90 (by decide) ?_
          refine v_ixor G dX1_storeAt_91 ?_
          refine v_iand G dX1_storeAt_92 ?_
          refine v_iload_n G 6 dX1_storeAt_93 rfl ?_
          refine v_iload G 1 dX1_storeAt_94 rfl ?_
          refine v_iand G dX1_storeAt_96 ?_
          refine v_iload G 0 dX1_storeAt_97 rfl ?_
          refine v_ishl G dX1_storeAt_99 ?_
          refine v_ior G dX1_storeAt_100 ?_
          refine v_callVi G (As := [.int (((f_G_wordAt S_29 kg ko km ks n a2) &&& (((255 : Int32) <<< (x_26 &&& 31)) ^^^ (-1 : Int32))) ||| ((a3 &&& (255 : Int32)) <<< (x_26 &&& 31)))]) (st := []) (c_G_give l hJ hX kg ko km ks n hG S_29 (((f_G_wordAt S_29 kg ko km ks n a2) &&& (((255 : Int32) <<< (x_26 &&& 31)) ^^^ (-1 : Int32))) ||| ((a3 &&& (255 : Int32)) <<< (x_26 &&& 31)))) (by decide) (by decide) (ci := 1) rfl hG.1 w2_175 w2_177 w0_8 w1_7 w2_178 qyX1_give rfl (Nat.le_of_ble_eq_true rfl) dX1_storeAt_101 ?_
          refine v_bnd (fun r_31 S_30 eS_30 => ?_)
          exact v_iret G rfl (hρ _) dX1_storeAt_104
        · refine v_iconst G (v := (3 : Int32)) dX1_storeAt_66 (by decide) ?_
          refine v_goto G (tgt := 71) dX1_storeAt_67 (by decide) ?_
          refine v_puti G (ci := 1) (T := TX1) (j := 5) inX1 rfl hG.1 tyX1_ok nmX1 rfl (by decide) rfl rfl rfl w1_133 dX1_storeAt_71 (fun S_32 eS_32 => ?_)
          refine v_aload_n G 3 dX1_storeAt_74 rfl ?_
          refine v_iload_n G 5 dX1_storeAt_75 rfl ?_
          refine v_puti G (ci := 1) (T := TX1) (j := 9) inX1 rfl hG.1 tyX1_ok nmX1 rfl (by decide) rfl rfl rfl w1_137 dX1_storeAt_76 (fun S_33 eS_33 => ?_)
          refine v_aload_n G 3 dX1_storeAt_79 rfl ?_
          refine v_aload_n G 3 dX1_storeAt_80 rfl ?_
          refine v_iload_n G 5 dX1_storeAt_81 rfl ?_
          refine v_callVi G (As := [.int a2]) (st := [.ref (adr X kg)]) (c_G_wordAt l hJ hX kg ko km ks n hG S_33 a2) (by decide) (by decide) (ci := 1) rfl hG.1 w2_167 w2_169 w0_7 w1_7 w2_170 qyX1_wordAt rfl (Nat.le_of_ble_eq_true rfl) dX1_storeAt_82 ?_
          refine v_iload G 1 dX1_storeAt_85 rfl ?_
          refine v_iload G 0 dX1_storeAt_87 rfl ?_
          refine v_ishl G dX1_storeAt_89 ?_
          refine v_iconst G (v := (-1 : Int32)) dX1_storeAt_90 (by decide) ?_
          refine v_ixor G dX1_storeAt_91 ?_
          refine v_iand G dX1_storeAt_92 ?_
          refine v_iload_n G 6 dX1_storeAt_93 rfl ?_
          refine v_iload G 1 dX1_storeAt_94 rfl ?_
          refine v_iand G dX1_storeAt_96 ?_
          refine v_iload G 0 dX1_storeAt_97 rfl ?_
          refine v_ishl G dX1_storeAt_99 ?_
          refine v_ior G dX1_storeAt_100 ?_
          refine v_callVi G (As := [.int (((f_G_wordAt S_33 kg ko km ks n a2) &&& (((255 : Int32) <<< (x_26 &&& 31)) ^^^ (-1 : Int32))) ||| ((a3 &&& (255 : Int32)) <<< (x_26 &&& 31)))]) (st := []) (c_G_give l hJ hX kg ko km ks n hG S_33 (((f_G_wordAt S_33 kg ko km ks n a2) &&& (((255 : Int32) <<< (x_26 &&& 31)) ^^^ (-1 : Int32))) ||| ((a3 &&& (255 : Int32)) <<< (x_26 &&& 31)))) (by decide) (by decide) (ci := 1) rfl hG.1 w2_175 w2_177 w0_8 w1_7 w2_178 qyX1_give rfl (Nat.le_of_ble_eq_true rfl) dX1_storeAt_101 ?_
          refine v_bnd (fun r_35 S_34 eS_34 => ?_)
          exact v_iret G rfl (hρ _) dX1_storeAt_104
    · refine v_iload G 0 dX1_storeAt_23 rfl ?_
      exact v_iret G rfl (hρ _) dX1_storeAt_25
  · refine v_bipush G (v := (11 : Int32)) dX1_storeAt_5 (by decide) ?_
    exact v_iret G rfl (hρ _) dX1_storeAt_7
/-! SensorNode$Guest.reckon -/
theorem qyX1_reckon : yX1_reckon.cls ≠ "java/lang/invoke/MethodHandle" ∧ yX1_reckon.cls ≠ "java/lang/invoke/VarHandle" ∧ (parseMethodDescriptor yX1_reckon.desc).map (fun d => d.parameters.length) = some 3 := by decide +kernel
noncomputable def f_G_reckon (S : St) (a0 : Int32) (a1 : Int32) (a2 : Int32) : Int32 := (if a0 = (0 : Int32) then a1 + a2
 else (if a0 = (1 : Int32) then a1 <<< ((a2 &&& (31 : Int32)) &&& 31)
 else (if a0 = (2 : Int32) then (if a1 < a2 then (1 : Int32) else (0 : Int32))
 else (if a0 = (3 : Int32) then (if (f_G_below S a1 a2) = 0 then (0 : Int32) else (1 : Int32))
 else (if a0 = (4 : Int32) then a1 ^^^ a2
 else (if a0 = (5 : Int32) then ush a1 (a2 &&& (31 : Int32))
 else (if a0 = (6 : Int32) then a1 ||| a2
 else a1 &&& a2)))))))
set_option linter.unusedVariables false in
set_option maxHeartbeats 4000000 in
set_option maxRecDepth 100000 in
theorem c_G_reckon (l : Launch) {X : vD} (hJ : sh_J X) (hX : shp X = shX)  (S : St) (a0 : Int32) (a1 : Int32) (a2 : Int32)  : Con l X yX1_reckon cX1_reckon 3 (some .int) 1 [.int a0, .int a1, .int a2] S (some (.int (f_G_reckon S a0 a1 a2)), S) := by
  refine con_of (ρ := (fun r : Int32 => ((some (.int r), S) : Option Value × St))) (K := f_G_reckon S a0 a1 a2) hJ hX (by decide) (Nat.le_of_ble_eq_true rfl) (lv := [(0, .int a0), (1, .int a1), (2, .int a2)]) rfl ?_
  intro p e s m below meth c G
  have G : vG p s m _ meth c X shX "SensorNode$Guest" cX1_reckon 3 (some .int) := G
  unfold f_G_reckon
  refine v_iload_n G 0 dX1_reckon_0 rfl ?_
  refine v_sw (0 : Int32) (fun h_1 => ?_) (fun h_1 => ?_)
  · refine v_tableIn G (tgt := 44) (off := 43) dX1_reckon_1 (by decide) (by decide) (by decide) (by decide) ?_
    refine v_iload_n G 1 dX1_reckon_44 rfl ?_
    refine v_iload_n G 2 dX1_reckon_45 rfl ?_
    refine v_iadd G dX1_reckon_46 ?_
    exact v_iret G rfl rfl dX1_reckon_47
  refine v_sw (1 : Int32) (fun h_2 => ?_) (fun h_2 => ?_)
  · refine v_tableIn G (tgt := 48) (off := 47) dX1_reckon_1 (by decide) (by decide) (by decide) (by decide) ?_
    refine v_iload_n G 1 dX1_reckon_48 rfl ?_
    refine v_iload_n G 2 dX1_reckon_49 rfl ?_
    refine v_bipush G (v := (31 : Int32)) dX1_reckon_50 (by decide) ?_
    refine v_iand G dX1_reckon_52 ?_
    refine v_ishl G dX1_reckon_53 ?_
    exact v_iret G rfl rfl dX1_reckon_54
  refine v_sw (2 : Int32) (fun h_3 => ?_) (fun h_3 => ?_)
  · refine v_tableIn G (tgt := 55) (off := 54) dX1_reckon_1 (by decide) (by decide) (by decide) (by decide) ?_
    refine v_iload_n G 1 dX1_reckon_55 rfl ?_
    refine v_iload_n G 2 dX1_reckon_56 rfl ?_
    refine v_icmp_ge G (tgt := 64) dX1_reckon_57 (by decide) (fun c_4 => ?_) (fun c_4 => ?_)
    · refine v_iconst G (v := (0 : Int32)) dX1_reckon_64 (by decide) ?_
      exact v_iret G rfl rfl dX1_reckon_65
    · refine v_iconst G (v := (1 : Int32)) dX1_reckon_60 (by decide) ?_
      refine v_goto G (tgt := 65) dX1_reckon_61 (by decide) ?_
      exact v_iret G rfl rfl dX1_reckon_65
  refine v_sw (3 : Int32) (fun h_5 => ?_) (fun h_5 => ?_)
  · refine v_tableIn G (tgt := 66) (off := 65) dX1_reckon_1 (by decide) (by decide) (by decide) (by decide) ?_
    refine v_iload_n G 1 dX1_reckon_66 rfl ?_
    refine v_iload_n G 2 dX1_reckon_67 rfl ?_
    refine v_callSi G (As := [.int a1, .int a2]) (st := []) (c_G_below l hJ hX S a1 a2) (by decide) (by decide) w2_194 w2_195 w1_7 w2_196 qyX1_below rfl (Nat.le_of_ble_eq_true rfl) dX1_reckon_68 ?_
    refine v_if_eq G (tgt := 78) dX1_reckon_71 (by decide) (fun c_6 => ?_) (fun c_6 => ?_)
    · refine v_iconst G (v := (0 : Int32)) dX1_reckon_78 (by decide) ?_
      exact v_iret G rfl rfl dX1_reckon_79
    · refine v_iconst G (v := (1 : Int32)) dX1_reckon_74 (by decide) ?_
      refine v_goto G (tgt := 79) dX1_reckon_75 (by decide) ?_
      exact v_iret G rfl rfl dX1_reckon_79
  refine v_sw (4 : Int32) (fun h_7 => ?_) (fun h_7 => ?_)
  · refine v_tableIn G (tgt := 80) (off := 79) dX1_reckon_1 (by decide) (by decide) (by decide) (by decide) ?_
    refine v_iload_n G 1 dX1_reckon_80 rfl ?_
    refine v_iload_n G 2 dX1_reckon_81 rfl ?_
    refine v_ixor G dX1_reckon_82 ?_
    exact v_iret G rfl rfl dX1_reckon_83
  refine v_sw (5 : Int32) (fun h_8 => ?_) (fun h_8 => ?_)
  · refine v_tableIn G (tgt := 84) (off := 83) dX1_reckon_1 (by decide) (by decide) (by decide) (by decide) ?_
    refine v_iload_n G 1 dX1_reckon_84 rfl ?_
    refine v_iload_n G 2 dX1_reckon_85 rfl ?_
    refine v_bipush G (v := (31 : Int32)) dX1_reckon_86 (by decide) ?_
    refine v_iand G dX1_reckon_88 ?_
    refine v_iushr G dX1_reckon_89 ?_
    exact v_iret G rfl rfl dX1_reckon_90
  refine v_sw (6 : Int32) (fun h_9 => ?_) (fun h_9 => ?_)
  · refine v_tableIn G (tgt := 91) (off := 90) dX1_reckon_1 (by decide) (by decide) (by decide) (by decide) ?_
    refine v_iload_n G 1 dX1_reckon_91 rfl ?_
    refine v_iload_n G 2 dX1_reckon_92 rfl ?_
    refine v_ior G dX1_reckon_93 ?_
    exact v_iret G rfl rfl dX1_reckon_94
  have th_1 := lv_neT (a := 0) h_1 (by decide)
  have th_2 := lv_neT (a := 1) h_2 (by decide)
  have th_3 := lv_neT (a := 2) h_3 (by decide)
  have th_5 := lv_neT (a := 3) h_5 (by decide)
  have th_7 := lv_neT (a := 4) h_7 (by decide)
  have th_8 := lv_neT (a := 5) h_8 (by decide)
  have th_9 := lv_neT (a := 6) h_9 (by decide)
  refine v_tableOut G (tgt := 95) dX1_reckon_1 (by omega) (by decide) ?_
  refine v_iload_n G 1 dX1_reckon_95 rfl ?_
  refine v_iload_n G 2 dX1_reckon_96 rfl ?_
  refine v_iand G dX1_reckon_97 ?_
  exact v_iret G rfl rfl dX1_reckon_98
/-! SensorNode$Guest.withNumber -/
theorem qyX1_withNumber : yX1_withNumber.cls ≠ "java/lang/invoke/MethodHandle" ∧ yX1_withNumber.cls ≠ "java/lang/invoke/VarHandle" ∧ (parseMethodDescriptor yX1_withNumber.desc).map (fun d => d.parameters.length) = some 4 := by decide +kernel
noncomputable def f_G_withNumber (S : St) (kg ko km ks n : Nat) (a1 : Int32) (a2 : Int32) (a3 : Int32) (a4 : Int32) : Int32 × St := (if a1 = (1 : Int32) then (if a2 = 0 then (if a1 = (5 : Int32) then (if a2 = 0 then bnd (f_G_give S kg ko km ks n (f_G_reckon S a1 a3 a4)) (fun r_17 S_16 => (r_17, S_16)) else (if a2 = (32 : Int32) then bnd (f_G_give S kg ko km ks n (a3 >>> ((a4 &&& (31 : Int32)) &&& 31))) (fun r_20 S_19 => (r_20, S_19)) else ((11 : Int32), S))) else bnd (f_G_give S kg ko km ks n (f_G_reckon S a1 a3 a4)) (fun r_14 S_13 => (r_14, S_13))) else ((11 : Int32), S)) else (if a1 = (5 : Int32) then (if a2 = 0 then bnd (f_G_give S kg ko km ks n (f_G_reckon S a1 a3 a4)) (fun r_7 S_6 => (r_7, S_6)) else (if a2 = (32 : Int32) then bnd (f_G_give S kg ko km ks n (a3 >>> ((a4 &&& (31 : Int32)) &&& 31))) (fun r_10 S_9 => (r_10, S_9)) else ((11 : Int32), S))) else bnd (f_G_give S kg ko km ks n (f_G_reckon S a1 a3 a4)) (fun r_4 S_3 => (r_4, S_3))))
set_option linter.unusedVariables false in
set_option maxHeartbeats 4000000 in
set_option maxRecDepth 100000 in
theorem c_G_withNumber (l : Launch) {X : vD} (hJ : sh_J X) (hX : shp X = shX) (kg ko km ks n : Nat) (hG : isG kg ko km ks n) (S : St) (a1 : Int32) (a2 : Int32) (a3 : Int32) (a4 : Int32)  : Con l X yX1_withNumber cX1_withNumber 5 (some .int) 2 [.ref (adr X kg), .int a1, .int a2, .int a3, .int a4] S (some (.int (f_G_withNumber S kg ko km ks n a1 a2 a3 a4).1), (f_G_withNumber S kg ko km ks n a1 a2 a3 a4).2) := by
  refine con_of (ρ := (fun q : Int32 × St => ((some (.int q.1), q.2) : Option Value × St))) (K := f_G_withNumber S kg ko km ks n a1 a2 a3 a4) hJ hX (by decide) (Nat.le_of_ble_eq_true rfl) (lv := [(0, .ref (adr X kg)), (1, .int a1), (2, .int a2), (3, .int a3), (4, .int a4)]) rfl ?_
  intro p e s m below meth c G
  generalize hρ0 : (fun q : Int32 × St => ((some (.int q.1), q.2) : Option Value × St)) = ρ
  have hρ : ∀ q : Int32 × St, ρ q = ((some (.int q.1), q.2) : Option Value × St) := fun q => by rw [← hρ0]
  have G : vG p s m _ meth c X shX "SensorNode$Guest" cX1_withNumber 5 (some .int) := G
  unfold f_G_withNumber
  refine v_iload_n G 1 dX1_withNumber_0 rfl ?_
  refine v_iconst G (v := (1 : Int32)) dX1_withNumber_1 (by decide) ?_
  refine v_icmp_ne G (tgt := 12) dX1_withNumber_2 (by decide) (fun c_1 => ?_) (fun c_1 => ?_)
  · refine v_iload_n G 1 dX1_withNumber_12 rfl ?_
    refine v_iconst G (v := (5 : Int32)) dX1_withNumber_13 (by decide) ?_
    refine v_icmp_ne G (tgt := 44) dX1_withNumber_14 (by decide) (fun c_2 => ?_) (fun c_2 => ?_)
    · refine v_aload_n G 0 dX1_withNumber_44 rfl ?_
      refine v_iload_n G 1 dX1_withNumber_45 rfl ?_
      refine v_iload_n G 3 dX1_withNumber_46 rfl ?_
      refine v_iload G 4 dX1_withNumber_47 rfl ?_
      refine v_callSi G (As := [.int a1, .int a3, .int a4]) (st := [.ref (adr X kg)]) (c_G_reckon l hJ hX S a1 a3 a4) (by decide) (by decide) w2_211 w2_212 w1_7 w2_213 qyX1_reckon rfl (Nat.le_of_ble_eq_true rfl) dX1_withNumber_49 ?_
      refine v_callVi G (As := [.int (f_G_reckon S a1 a3 a4)]) (st := []) (c_G_give l hJ hX kg ko km ks n hG S (f_G_reckon S a1 a3 a4)) (by decide) (by decide) (ci := 1) rfl hG.1 w2_175 w2_177 w0_8 w1_7 w2_178 qyX1_give rfl (Nat.le_of_ble_eq_true rfl) dX1_withNumber_52 ?_
      refine v_bnd (fun r_4 S_3 eS_3 => ?_)
      exact v_iret G rfl (hρ _) dX1_withNumber_55
    · refine v_iload_n G 2 dX1_withNumber_17 rfl ?_
      refine v_if_eq G (tgt := 44) dX1_withNumber_18 (by decide) (fun c_5 => ?_) (fun c_5 => ?_)
      · refine v_aload_n G 0 dX1_withNumber_44 rfl ?_
        refine v_iload_n G 1 dX1_withNumber_45 rfl ?_
        refine v_iload_n G 3 dX1_withNumber_46 rfl ?_
        refine v_iload G 4 dX1_withNumber_47 rfl ?_
        refine v_callSi G (As := [.int a1, .int a3, .int a4]) (st := [.ref (adr X kg)]) (c_G_reckon l hJ hX S a1 a3 a4) (by decide) (by decide) w2_211 w2_212 w1_7 w2_213 qyX1_reckon rfl (Nat.le_of_ble_eq_true rfl) dX1_withNumber_49 ?_
        refine v_callVi G (As := [.int (f_G_reckon S a1 a3 a4)]) (st := []) (c_G_give l hJ hX kg ko km ks n hG S (f_G_reckon S a1 a3 a4)) (by decide) (by decide) (ci := 1) rfl hG.1 w2_175 w2_177 w0_8 w1_7 w2_178 qyX1_give rfl (Nat.le_of_ble_eq_true rfl) dX1_withNumber_52 ?_
        refine v_bnd (fun r_7 S_6 eS_6 => ?_)
        exact v_iret G rfl (hρ _) dX1_withNumber_55
      · refine v_iload_n G 2 dX1_withNumber_21 rfl ?_
        refine v_bipush G (v := (32 : Int32)) dX1_withNumber_22 (by decide) ?_
        refine v_icmp_ne G (tgt := 41) dX1_withNumber_24 (by decide) (fun c_8 => ?_) (fun c_8 => ?_)
        · refine v_bipush G (v := (11 : Int32)) dX1_withNumber_41 (by decide) ?_
          exact v_iret G rfl (hρ _) dX1_withNumber_43
        · refine v_aload_n G 0 dX1_withNumber_27 rfl ?_
          refine v_iload_n G 3 dX1_withNumber_28 rfl ?_
          refine v_iload G 4 dX1_withNumber_29 rfl ?_
          refine v_bipush G (v := (31 : Int32)) dX1_withNumber_31 (by decide) ?_
          refine v_iand G dX1_withNumber_33 ?_
          refine v_ishr G dX1_withNumber_34 ?_
          refine v_callVi G (As := [.int (a3 >>> ((a4 &&& (31 : Int32)) &&& 31))]) (st := []) (c_G_give l hJ hX kg ko km ks n hG S (a3 >>> ((a4 &&& (31 : Int32)) &&& 31))) (by decide) (by decide) (ci := 1) rfl hG.1 w2_175 w2_177 w0_8 w1_7 w2_178 qyX1_give rfl (Nat.le_of_ble_eq_true rfl) dX1_withNumber_35 ?_
          refine v_bnd (fun r_10 S_9 eS_9 => ?_)
          refine v_goto G (tgt := 43) dX1_withNumber_38 (by decide) ?_
          exact v_iret G rfl (hρ _) dX1_withNumber_43
  · refine v_iload_n G 2 dX1_withNumber_5 rfl ?_
    refine v_if_eq G (tgt := 12) dX1_withNumber_6 (by decide) (fun c_11 => ?_) (fun c_11 => ?_)
    · refine v_iload_n G 1 dX1_withNumber_12 rfl ?_
      refine v_iconst G (v := (5 : Int32)) dX1_withNumber_13 (by decide) ?_
      refine v_icmp_ne G (tgt := 44) dX1_withNumber_14 (by decide) (fun c_12 => ?_) (fun c_12 => ?_)
      · refine v_aload_n G 0 dX1_withNumber_44 rfl ?_
        refine v_iload_n G 1 dX1_withNumber_45 rfl ?_
        refine v_iload_n G 3 dX1_withNumber_46 rfl ?_
        refine v_iload G 4 dX1_withNumber_47 rfl ?_
        refine v_callSi G (As := [.int a1, .int a3, .int a4]) (st := [.ref (adr X kg)]) (c_G_reckon l hJ hX S a1 a3 a4) (by decide) (by decide) w2_211 w2_212 w1_7 w2_213 qyX1_reckon rfl (Nat.le_of_ble_eq_true rfl) dX1_withNumber_49 ?_
        refine v_callVi G (As := [.int (f_G_reckon S a1 a3 a4)]) (st := []) (c_G_give l hJ hX kg ko km ks n hG S (f_G_reckon S a1 a3 a4)) (by decide) (by decide) (ci := 1) rfl hG.1 w2_175 w2_177 w0_8 w1_7 w2_178 qyX1_give rfl (Nat.le_of_ble_eq_true rfl) dX1_withNumber_52 ?_
        refine v_bnd (fun r_14 S_13 eS_13 => ?_)
        exact v_iret G rfl (hρ _) dX1_withNumber_55
      · refine v_iload_n G 2 dX1_withNumber_17 rfl ?_
        refine v_if_eq G (tgt := 44) dX1_withNumber_18 (by decide) (fun c_15 => ?_) (fun c_15 => ?_)
        · refine v_aload_n G 0 dX1_withNumber_44 rfl ?_
          refine v_iload_n G 1 dX1_withNumber_45 rfl ?_
          refine v_iload_n G 3 dX1_withNumber_46 rfl ?_
          refine v_iload G 4 dX1_withNumber_47 rfl ?_
          refine v_callSi G (As := [.int a1, .int a3, .int a4]) (st := [.ref (adr X kg)]) (c_G_reckon l hJ hX S a1 a3 a4) (by decide) (by decide) w2_211 w2_212 w1_7 w2_213 qyX1_reckon rfl (Nat.le_of_ble_eq_true rfl) dX1_withNumber_49 ?_
          refine v_callVi G (As := [.int (f_G_reckon S a1 a3 a4)]) (st := []) (c_G_give l hJ hX kg ko km ks n hG S (f_G_reckon S a1 a3 a4)) (by decide) (by decide) (ci := 1) rfl hG.1 w2_175 w2_177 w0_8 w1_7 w2_178 qyX1_give rfl (Nat.le_of_ble_eq_true rfl) dX1_withNumber_52 ?_
          refine v_bnd (fun r_17 S_16 eS_16 => ?_)
          exact v_iret G rfl (hρ _) dX1_withNumber_55
        · refine v_iload_n G 2 dX1_withNumber_21 rfl ?_
          refine v_bipush G (v := (32 : Int32)) dX1_withNumber_22 (by decide) ?_
          refine v_icmp_ne G (tgt := 41) dX1_withNumber_24 (by decide) (fun c_18 => ?_) (fun c_18 => ?_)
          · refine v_bipush G (v := (11 : Int32)) dX1_withNumber_41 (by decide) ?_
            exact v_iret G rfl (hρ _) dX1_withNumber_43
          · refine v_aload_n G 0 dX1_withNumber_27 rfl ?_
            refine v_iload_n G 3 dX1_withNumber_28 rfl ?_
            refine v_iload G 4 dX1_withNumber_29 rfl ?_
            refine v_bipush G (v := (31 : Int32)) dX1_withNumber_31 (by decide) ?_
            refine v_iand G dX1_withNumber_33 ?_
            refine v_ishr G dX1_withNumber_34 ?_
            refine v_callVi G (As := [.int (a3 >>> ((a4 &&& (31 : Int32)) &&& 31))]) (st := []) (c_G_give l hJ hX kg ko km ks n hG S (a3 >>> ((a4 &&& (31 : Int32)) &&& 31))) (by decide) (by decide) (ci := 1) rfl hG.1 w2_175 w2_177 w0_8 w1_7 w2_178 qyX1_give rfl (Nat.le_of_ble_eq_true rfl) dX1_withNumber_35 ?_
            refine v_bnd (fun r_20 S_19 eS_19 => ?_)
            refine v_goto G (tgt := 43) dX1_withNumber_38 (by decide) ?_
            exact v_iret G rfl (hρ _) dX1_withNumber_43
    · refine v_bipush G (v := (11 : Int32)) dX1_withNumber_9 (by decide) ?_
      exact v_iret G rfl (hρ _) dX1_withNumber_11
/-! SensorNode$Guest.withRegister -/
theorem qyX1_withRegister : yX1_withRegister.cls ≠ "java/lang/invoke/MethodHandle" ∧ yX1_withRegister.cls ≠ "java/lang/invoke/VarHandle" ∧ (parseMethodDescriptor yX1_withRegister.desc).map (fun d => d.parameters.length) = some 4 := by decide +kernel
noncomputable def f_G_withRegister (S : St) (kg ko km ks n : Nat) (a1 : Int32) (a2 : Int32) (a3 : Int32) (a4 : Int32) : Int32 × St := (if a2 = 0 then bnd (f_G_give S kg ko km ks n (f_G_reckon S a1 a3 a4)) (fun r_15 S_14 => (r_15, S_14)) else (if a2 = (32 : Int32) then (if a1 = 0 then bnd (f_G_give S kg ko km ks n (a3 - a4)) (fun r_13 S_12 => (r_13, S_12)) else (if a2 = (32 : Int32) then (if a1 = (5 : Int32) then bnd (f_G_give S kg ko km ks n (a3 >>> ((a4 &&& (31 : Int32)) &&& 31))) (fun r_11 S_10 => (r_11, S_10)) else ((11 : Int32), S)) else ((11 : Int32), S))) else (if a2 = (32 : Int32) then (if a1 = (5 : Int32) then bnd (f_G_give S kg ko km ks n (a3 >>> ((a4 &&& (31 : Int32)) &&& 31))) (fun r_6 S_5 => (r_6, S_5)) else ((11 : Int32), S)) else ((11 : Int32), S))))
set_option linter.unusedVariables false in
set_option maxHeartbeats 4000000 in
set_option maxRecDepth 100000 in
theorem c_G_withRegister (l : Launch) {X : vD} (hJ : sh_J X) (hX : shp X = shX) (kg ko km ks n : Nat) (hG : isG kg ko km ks n) (S : St) (a1 : Int32) (a2 : Int32) (a3 : Int32) (a4 : Int32)  : Con l X yX1_withRegister cX1_withRegister 5 (some .int) 2 [.ref (adr X kg), .int a1, .int a2, .int a3, .int a4] S (some (.int (f_G_withRegister S kg ko km ks n a1 a2 a3 a4).1), (f_G_withRegister S kg ko km ks n a1 a2 a3 a4).2) := by
  refine con_of (ρ := (fun q : Int32 × St => ((some (.int q.1), q.2) : Option Value × St))) (K := f_G_withRegister S kg ko km ks n a1 a2 a3 a4) hJ hX (by decide) (Nat.le_of_ble_eq_true rfl) (lv := [(0, .ref (adr X kg)), (1, .int a1), (2, .int a2), (3, .int a3), (4, .int a4)]) rfl ?_
  intro p e s m below meth c G
  generalize hρ0 : (fun q : Int32 × St => ((some (.int q.1), q.2) : Option Value × St)) = ρ
  have hρ : ∀ q : Int32 × St, ρ q = ((some (.int q.1), q.2) : Option Value × St) := fun q => by rw [← hρ0]
  have G : vG p s m _ meth c X shX "SensorNode$Guest" cX1_withRegister 5 (some .int) := G
  unfold f_G_withRegister
  refine v_iload_n G 2 dX1_withRegister_0 rfl ?_
  refine v_if_ne G (tgt := 16) dX1_withRegister_1 (by decide) (fun c_1 => ?_) (fun c_1 => ?_)
  · refine v_iload_n G 2 dX1_withRegister_16 rfl ?_
    refine v_bipush G (v := (32 : Int32)) dX1_withRegister_17 (by decide) ?_
    refine v_icmp_ne G (tgt := 35) dX1_withRegister_19 (by decide) (fun c_2 => ?_) (fun c_2 => ?_)
    · refine v_iload_n G 2 dX1_withRegister_35 rfl ?_
      refine v_bipush G (v := (32 : Int32)) dX1_withRegister_36 (by decide) ?_
      refine v_icmp_ne G (tgt := 60) dX1_withRegister_38 (by decide) (fun c_3 => ?_) (fun c_3 => ?_)
      · refine v_bipush G (v := (11 : Int32)) dX1_withRegister_60 (by decide) ?_
        exact v_iret G rfl (hρ _) dX1_withRegister_62
      · refine v_iload_n G 1 dX1_withRegister_41 rfl ?_
        refine v_iconst G (v := (5 : Int32)) dX1_withRegister_42 (by decide) ?_
        refine v_icmp_ne G (tgt := 60) dX1_withRegister_43 (by decide) (fun c_4 => ?_) (fun c_4 => ?_)
        · refine v_bipush G (v := (11 : Int32)) dX1_withRegister_60 (by decide) ?_
          exact v_iret G rfl (hρ _) dX1_withRegister_62
        · refine v_aload_n G 0 dX1_withRegister_46 rfl ?_
          refine v_iload_n G 3 dX1_withRegister_47 rfl ?_
          refine v_iload G 4 dX1_withRegister_48 rfl ?_
          refine v_bipush G (v := (31 : Int32)) dX1_withRegister_50 (by decide) ?_
          refine v_iand G dX1_withRegister_52 ?_
          refine v_ishr G dX1_withRegister_53 ?_
          refine v_callVi G (As := [.int (a3 >>> ((a4 &&& (31 : Int32)) &&& 31))]) (st := []) (c_G_give l hJ hX kg ko km ks n hG S (a3 >>> ((a4 &&& (31 : Int32)) &&& 31))) (by decide) (by decide) (ci := 1) rfl hG.1 w2_175 w2_177 w0_8 w1_7 w2_178 qyX1_give rfl (Nat.le_of_ble_eq_true rfl) dX1_withRegister_54 ?_
          refine v_bnd (fun r_6 S_5 eS_5 => ?_)
          refine v_goto G (tgt := 62) dX1_withRegister_57 (by decide) ?_
          exact v_iret G rfl (hρ _) dX1_withRegister_62
    · refine v_iload_n G 1 dX1_withRegister_22 rfl ?_
      refine v_if_ne G (tgt := 35) dX1_withRegister_23 (by decide) (fun c_7 => ?_) (fun c_7 => ?_)
      · refine v_iload_n G 2 dX1_withRegister_35 rfl ?_
        refine v_bipush G (v := (32 : Int32)) dX1_withRegister_36 (by decide) ?_
        refine v_icmp_ne G (tgt := 60) dX1_withRegister_38 (by decide) (fun c_8 => ?_) (fun c_8 => ?_)
        · refine v_bipush G (v := (11 : Int32)) dX1_withRegister_60 (by decide) ?_
          exact v_iret G rfl (hρ _) dX1_withRegister_62
        · refine v_iload_n G 1 dX1_withRegister_41 rfl ?_
          refine v_iconst G (v := (5 : Int32)) dX1_withRegister_42 (by decide) ?_
          refine v_icmp_ne G (tgt := 60) dX1_withRegister_43 (by decide) (fun c_9 => ?_) (fun c_9 => ?_)
          · refine v_bipush G (v := (11 : Int32)) dX1_withRegister_60 (by decide) ?_
            exact v_iret G rfl (hρ _) dX1_withRegister_62
          · refine v_aload_n G 0 dX1_withRegister_46 rfl ?_
            refine v_iload_n G 3 dX1_withRegister_47 rfl ?_
            refine v_iload G 4 dX1_withRegister_48 rfl ?_
            refine v_bipush G (v := (31 : Int32)) dX1_withRegister_50 (by decide) ?_
            refine v_iand G dX1_withRegister_52 ?_
            refine v_ishr G dX1_withRegister_53 ?_
            refine v_callVi G (As := [.int (a3 >>> ((a4 &&& (31 : Int32)) &&& 31))]) (st := []) (c_G_give l hJ hX kg ko km ks n hG S (a3 >>> ((a4 &&& (31 : Int32)) &&& 31))) (by decide) (by decide) (ci := 1) rfl hG.1 w2_175 w2_177 w0_8 w1_7 w2_178 qyX1_give rfl (Nat.le_of_ble_eq_true rfl) dX1_withRegister_54 ?_
            refine v_bnd (fun r_11 S_10 eS_10 => ?_)
            refine v_goto G (tgt := 62) dX1_withRegister_57 (by decide) ?_
            exact v_iret G rfl (hρ _) dX1_withRegister_62
      · refine v_aload_n G 0 dX1_withRegister_26 rfl ?_
        refine v_iload_n G 3 dX1_withRegister_27 rfl ?_
        refine v_iload G 4 dX1_withRegister_28 rfl ?_
        refine v_isub G dX1_withRegister_30 ?_
        refine v_callVi G (As := [.int (a3 - a4)]) (st := []) (c_G_give l hJ hX kg ko km ks n hG S (a3 - a4)) (by decide) (by decide) (ci := 1) rfl hG.1 w2_175 w2_177 w0_8 w1_7 w2_178 qyX1_give rfl (Nat.le_of_ble_eq_true rfl) dX1_withRegister_31 ?_
        refine v_bnd (fun r_13 S_12 eS_12 => ?_)
        exact v_iret G rfl (hρ _) dX1_withRegister_34
  · refine v_aload_n G 0 dX1_withRegister_4 rfl ?_
    refine v_iload_n G 1 dX1_withRegister_5 rfl ?_
    refine v_iload_n G 3 dX1_withRegister_6 rfl ?_
    refine v_iload G 4 dX1_withRegister_7 rfl ?_
    refine v_callSi G (As := [.int a1, .int a3, .int a4]) (st := [.ref (adr X kg)]) (c_G_reckon l hJ hX S a1 a3 a4) (by decide) (by decide) w2_211 w2_212 w1_7 w2_213 qyX1_reckon rfl (Nat.le_of_ble_eq_true rfl) dX1_withRegister_9 ?_
    refine v_callVi G (As := [.int (f_G_reckon S a1 a3 a4)]) (st := []) (c_G_give l hJ hX kg ko km ks n hG S (f_G_reckon S a1 a3 a4)) (by decide) (by decide) (ci := 1) rfl hG.1 w2_175 w2_177 w0_8 w1_7 w2_178 qyX1_give rfl (Nat.le_of_ble_eq_true rfl) dX1_withRegister_12 ?_
    refine v_bnd (fun r_15 S_14 eS_14 => ?_)
    exact v_iret G rfl (hρ _) dX1_withRegister_15

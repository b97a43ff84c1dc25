/-! constructors -/
abbrev blX0 : List Value := [.null]
theorem blX0_ok : ∀ j, j < 1 → defaultValue (tyX0 j) = vp_V blX0 j := fun j hj => match j, hj with
  | 0, _ => rfl
  | q + 1, h => absurd h (by omega)
theorem qyX0_init : yX0_init.cls ≠ "java/lang/invoke/MethodHandle" ∧ yX0_init.cls ≠ "java/lang/invoke/VarHandle" ∧ (parseMethodDescriptor yX0_init.desc).map (fun d => d.parameters.length) = some 1 := by decide +kernel
abbrev blX1 : List Value := [.null, .null, .null, .null, .int 0, .int 0, .int 0, .int 0, .int 0, .int 0]
theorem blX1_ok : ∀ j, j < 10 → defaultValue (tyX1 j) = vp_V blX1 j := fun j hj => match j, hj with
  | 0, _ => rfl
  | 1, _ => rfl
  | 2, _ => rfl
  | 3, _ => rfl
  | 4, _ => rfl
  | 5, _ => rfl
  | 6, _ => rfl
  | 7, _ => rfl
  | 8, _ => rfl
  | 9, _ => rfl
  | q + 10, h => absurd h (by omega)
theorem qyX1_init : yX1_init.cls ≠ "java/lang/invoke/MethodHandle" ∧ yX1_init.cls ≠ "java/lang/invoke/VarHandle" ∧ (parseMethodDescriptor yX1_init.desc).map (fun d => d.parameters.length) = some 2 := by decide +kernel
abbrev blX2 : List Value := [.null, .null, .null, .null, .null, .null, .int 0, .int 0, .int 0, .int 0, .int 0, .int 0, .int 0, .int 0, .int 0]
theorem blX2_ok : ∀ j, j < 15 → defaultValue (tyX2 j) = vp_V blX2 j := fun j hj => match j, hj with
  | 0, _ => rfl
  | 1, _ => rfl
  | 2, _ => rfl
  | 3, _ => rfl
  | 4, _ => rfl
  | 5, _ => rfl
  | 6, _ => rfl
  | 7, _ => rfl
  | 8, _ => rfl
  | 9, _ => rfl
  | 10, _ => rfl
  | 11, _ => rfl
  | 12, _ => rfl
  | 13, _ => rfl
  | 14, _ => rfl
  | q + 15, h => absurd h (by omega)
theorem qyX2_init : yX2_init.cls ≠ "java/lang/invoke/MethodHandle" ∧ yX2_init.cls ≠ "java/lang/invoke/VarHandle" ∧ (parseMethodDescriptor yX2_init.desc).map (fun d => d.parameters.length) = some 1 := by decide +kernel
abbrev blX3 : List Value := [.null, .null, .null, .null, .int 0, .int 0]
theorem blX3_ok : ∀ j, j < 6 → defaultValue (tyX3 j) = vp_V blX3 j := fun j hj => match j, hj with
  | 0, _ => rfl
  | 1, _ => rfl
  | 2, _ => rfl
  | 3, _ => rfl
  | 4, _ => rfl
  | 5, _ => rfl
  | q + 6, h => absurd h (by omega)
theorem qyX3_init : yX3_init.cls ≠ "java/lang/invoke/MethodHandle" ∧ yX3_init.cls ≠ "java/lang/invoke/VarHandle" ∧ (parseMethodDescriptor yX3_init.desc).map (fun d => d.parameters.length) = some 1 := by decide +kernel
abbrev blX4 : List Value := [.null, .null, .int 0, .int 0, .int 0, .int 0, .int 0, .int 0, .int 0]
theorem blX4_ok : ∀ j, j < 9 → defaultValue (tyX4 j) = vp_V blX4 j := fun j hj => match j, hj with
  | 0, _ => rfl
  | 1, _ => rfl
  | 2, _ => rfl
  | 3, _ => rfl
  | 4, _ => rfl
  | 5, _ => rfl
  | 6, _ => rfl
  | 7, _ => rfl
  | 8, _ => rfl
  | q + 9, h => absurd h (by omega)
theorem qyX4_init : yX4_init.cls ≠ "java/lang/invoke/MethodHandle" ∧ yX4_init.cls ≠ "java/lang/invoke/VarHandle" ∧ (parseMethodDescriptor yX4_init.desc).map (fun d => d.parameters.length) = some 0 := by decide +kernel
abbrev blX5 : List Value := [.null, .null, .null, .null, .int 0, .int 0]
theorem blX5_ok : ∀ j, j < 6 → defaultValue (tyX5 j) = vp_V blX5 j := fun j hj => match j, hj with
  | 0, _ => rfl
  | 1, _ => rfl
  | 2, _ => rfl
  | 3, _ => rfl
  | 4, _ => rfl
  | 5, _ => rfl
  | q + 6, h => absurd h (by omega)
theorem qyX5_init : yX5_init.cls ≠ "java/lang/invoke/MethodHandle" ∧ yX5_init.cls ≠ "java/lang/invoke/VarHandle" ∧ (parseMethodDescriptor yX5_init.desc).map (fun d => d.parameters.length) = some 0 := by decide +kernel
abbrev blX6 : List Value := [.null, .int 0, .int 0]
theorem blX6_ok : ∀ j, j < 3 → defaultValue (tyX6 j) = vp_V blX6 j := fun j hj => match j, hj with
  | 0, _ => rfl
  | 1, _ => rfl
  | 2, _ => rfl
  | q + 3, h => absurd h (by omega)
theorem qyX6_init : yX6_init.cls ≠ "java/lang/invoke/MethodHandle" ∧ yX6_init.cls ≠ "java/lang/invoke/VarHandle" ∧ (parseMethodDescriptor yX6_init.desc).map (fun d => d.parameters.length) = some 0 := by decide +kernel
abbrev blX7 : List Value := [.null, .null, .null, .null]
theorem blX7_ok : ∀ j, j < 4 → defaultValue (tyX7 j) = vp_V blX7 j := fun j hj => match j, hj with
  | 0, _ => rfl
  | 1, _ => rfl
  | 2, _ => rfl
  | 3, _ => rfl
  | q + 4, h => absurd h (by omega)
theorem qyX7_init : yX7_init.cls ≠ "java/lang/invoke/MethodHandle" ∧ yX7_init.cls ≠ "java/lang/invoke/VarHandle" ∧ (parseMethodDescriptor yX7_init.desc).map (fun d => d.parameters.length) = some 0 := by decide +kernel
abbrev blX8 : List Value := [.int 0, .null, .null, .null, .null]
theorem blX8_ok : ∀ j, j < 5 → defaultValue (tyX8 j) = vp_V blX8 j := fun j hj => match j, hj with
  | 0, _ => rfl
  | 1, _ => rfl
  | 2, _ => rfl
  | 3, _ => rfl
  | 4, _ => rfl
  | q + 5, h => absurd h (by omega)
theorem qyX8_init : yX8_init.cls ≠ "java/lang/invoke/MethodHandle" ∧ yX8_init.cls ≠ "java/lang/invoke/VarHandle" ∧ (parseMethodDescriptor yX8_init.desc).map (fun d => d.parameters.length) = some 0 := by decide +kernel
abbrev blX9 : List Value := [.null, .int 0, .int 0, .int 0, .int 0, .null, .int 0, .int 0, .null, .int 0, .null, .int 0, .int 0, .int 0, .int 0, .int 0, .int 0, .int 0, .int 0, .int 0]
theorem blX9_ok : ∀ j, j < 20 → defaultValue (tyX9 j) = vp_V blX9 j := fun j hj => match j, hj with
  | 0, _ => rfl
  | 1, _ => rfl
  | 2, _ => rfl
  | 3, _ => rfl
  | 4, _ => rfl
  | 5, _ => rfl
  | 6, _ => rfl
  | 7, _ => rfl
  | 8, _ => rfl
  | 9, _ => rfl
  | 10, _ => rfl
  | 11, _ => rfl
  | 12, _ => rfl
  | 13, _ => rfl
  | 14, _ => rfl
  | 15, _ => rfl
  | 16, _ => rfl
  | 17, _ => rfl
  | 18, _ => rfl
  | 19, _ => rfl
  | q + 20, h => absurd h (by omega)
theorem qyX9_init : yX9_init.cls ≠ "java/lang/invoke/MethodHandle" ∧ yX9_init.cls ≠ "java/lang/invoke/VarHandle" ∧ (parseMethodDescriptor yX9_init.desc).map (fun d => d.parameters.length) = some 1 := by decide +kernel
abbrev blX10 : List Value := [.int 0, .int 0, .int 0, .int 0, .int 0, .int 0, .int 0, .int 0, .int 0, .int 0, .int 0, .null, .null, .null, .null, .null, .null, .int 0, .null, .null, .int 0, .int 0, .int 0, .int 0, .null, .int 0, .int 0, .int 0, .int 0, .int 0, .int 0, .int 0, .int 0, .null, .int 0, .int 0]
theorem blX10_ok : ∀ j, j < 36 → defaultValue (tyX10 j) = vp_V blX10 j := fun j hj => match j, hj with
  | 0, _ => rfl
  | 1, _ => rfl
  | 2, _ => rfl
  | 3, _ => rfl
  | 4, _ => rfl
  | 5, _ => rfl
  | 6, _ => rfl
  | 7, _ => rfl
  | 8, _ => rfl
  | 9, _ => rfl
  | 10, _ => rfl
  | 11, _ => rfl
  | 12, _ => rfl
  | 13, _ => rfl
  | 14, _ => rfl
  | 15, _ => rfl
  | 16, _ => rfl
  | 17, _ => rfl
  | 18, _ => rfl
  | 19, _ => rfl
  | 20, _ => rfl
  | 21, _ => rfl
  | 22, _ => rfl
  | 23, _ => rfl
  | 24, _ => rfl
  | 25, _ => rfl
  | 26, _ => rfl
  | 27, _ => rfl
  | 28, _ => rfl
  | 29, _ => rfl
  | 30, _ => rfl
  | 31, _ => rfl
  | 32, _ => rfl
  | 33, _ => rfl
  | 34, _ => rfl
  | 35, _ => rfl
  | q + 36, h => absurd h (by omega)
theorem qyX10_init : yX10_init.cls ≠ "java/lang/invoke/MethodHandle" ∧ yX10_init.cls ≠ "java/lang/invoke/VarHandle" ∧ (parseMethodDescriptor yX10_init.desc).map (fun d => d.parameters.length) = some 0 := by decide +kernel
/-! SensorNode$Bytes.<init> -/
set_option linter.unusedVariables false in
set_option maxHeartbeats 4000000 in
set_option maxRecDepth 100000 in
theorem c_B_init_2050 (l : Launch) (D : va_G) (cy : Nat → ClassId) (h0 : Nat)  : ConI l D cy yX0_init cX0_init 2 (rmi 1 1 2050) h0 (.inr (0, blX0)) [.int (8200 : Int32)] (fun ad => [((ad 0), .inr (0, [.ref (ad 1)])), ((ad 1), .inl (cy 0, 2050, .inl (fun _ => 0)))]) := by
  refine conI_of (by decide) rfl (Nat.le_of_ble_eq_true rfl) (lv := [(0, .ref h0), (1, .int (8200 : Int32))]) rfl ?_
  intro p e s m below meth c G
  have G : uG p s m _ meth c D cy (va_A [(h0, (.inr (0, blX0)))] s.heap.size) "SensorNode$Bytes" cX0_init 2 := G
  show U _ _ _ _ _ _ _ _ _ _ _ _ _ _ [(h0, .inr (0, [.null]))] _ _ _ _ _
  refine u_aload_n G 0 dX0_init_0 rfl ?_
  refine u_objInit G dX0_init_1 w1_74 w1_18 w1_19 (by decide) (by decide) ?_
  refine u_aload_n G 0 dX0_init_4 rfl ?_
  refine u_iload_n G 1 dX0_init_5 rfl ?_
  refine u_if_le G (tgt := 17) dX0_init_6 (by decide) (by decide) ?_
  refine u_iload_n G 1 dX0_init_9 rfl ?_
  refine u_iconst G (v := (3 : Int32)) dX0_init_10 (by decide) ?_
  refine u_iadd G (v := (8203 : Int32)) dX0_init_11 (by decide) ?_
  refine u_iconst G (v := (4 : Int32)) dX0_init_12 (by decide) ?_
  refine u_idiv G (v := (2050 : Int32)) dX0_init_13 (by decide) (by decide) ?_
  refine u_goto G (tgt := 18) dX0_init_14 (by decide) ?_
  refine u_newa G 0 (ty := .int) (N := 2050) dX0_init_18 rfl rfl (fun _ h => h) w1_62 (fun _ => rfl) (by decide) (by decide) (by decide) (by decide) (by decide) (fun q1 => ?_)
  show U _ _ _ _ _ _ _ _ _ _ _ _ _ _ [(h0, .inr (0, [.null])), (q1, .inl (cy 0, 2050, .inl (fun _ => 0)))] _ _ _ _ _
  refine u_putF G (ci := 0) (T := TX0) 0 0 [(h0, .inr (0, [.ref q1])), (q1, .inl (cy 0, 2050, .inl (fun _ => 0)))] dX0_init_20 inX0 tyX0_ok nmX0 rfl rfl (by decide) w1_75 rfl rfl rfl rfl (Nat.le_of_ble_eq_true rfl) rfl ?_
  exact u_vret (sz := 0) G (fun k => ([h0, q1] : List Nat).getD k 0) dX0_init_23 rfl [0, 1] (by decide) rfl rfl
/-! SensorNode$Bytes.<init> -/
set_option linter.unusedVariables false in
set_option maxHeartbeats 4000000 in
set_option maxRecDepth 100000 in
theorem c_B_init_6400 (l : Launch) (D : va_G) (cy : Nat → ClassId) (h0 : Nat)  : ConI l D cy yX0_init cX0_init 2 (rmi 1 1 6400) h0 (.inr (0, blX0)) [.int (25600 : Int32)] (fun ad => [((ad 0), .inr (0, [.ref (ad 1)])), ((ad 1), .inl (cy 0, 6400, .inl (fun _ => 0)))]) := by
  refine conI_of (by decide) rfl (Nat.le_of_ble_eq_true rfl) (lv := [(0, .ref h0), (1, .int (25600 : Int32))]) rfl ?_
  intro p e s m below meth c G
  have G : uG p s m _ meth c D cy (va_A [(h0, (.inr (0, blX0)))] s.heap.size) "SensorNode$Bytes" cX0_init 2 := G
  show U _ _ _ _ _ _ _ _ _ _ _ _ _ _ [(h0, .inr (0, [.null]))] _ _ _ _ _
  refine u_aload_n G 0 dX0_init_0 rfl ?_
  refine u_objInit G dX0_init_1 w1_74 w1_18 w1_19 (by decide) (by decide) ?_
  refine u_aload_n G 0 dX0_init_4 rfl ?_
  refine u_iload_n G 1 dX0_init_5 rfl ?_
  refine u_if_le G (tgt := 17) dX0_init_6 (by decide) (by decide) ?_
  refine u_iload_n G 1 dX0_init_9 rfl ?_
  refine u_iconst G (v := (3 : Int32)) dX0_init_10 (by decide) ?_
  refine u_iadd G (v := (25603 : Int32)) dX0_init_11 (by decide) ?_
  refine u_iconst G (v := (4 : Int32)) dX0_init_12 (by decide) ?_
  refine u_idiv G (v := (6400 : Int32)) dX0_init_13 (by decide) (by decide) ?_
  refine u_goto G (tgt := 18) dX0_init_14 (by decide) ?_
  refine u_newa G 0 (ty := .int) (N := 6400) dX0_init_18 rfl rfl (fun _ h => h) w1_62 (fun _ => rfl) (by decide) (by decide) (by decide) (by decide) (by decide) (fun q1 => ?_)
  show U _ _ _ _ _ _ _ _ _ _ _ _ _ _ [(h0, .inr (0, [.null])), (q1, .inl (cy 0, 6400, .inl (fun _ => 0)))] _ _ _ _ _
  refine u_putF G (ci := 0) (T := TX0) 0 0 [(h0, .inr (0, [.ref q1])), (q1, .inl (cy 0, 6400, .inl (fun _ => 0)))] dX0_init_20 inX0 tyX0_ok nmX0 rfl rfl (by decide) w1_75 rfl rfl rfl rfl (Nat.le_of_ble_eq_true rfl) rfl ?_
  exact u_vret (sz := 0) G (fun k => ([h0, q1] : List Nat).getD k 0) dX0_init_23 rfl [0, 1] (by decide) rfl rfl
/-! SensorNode$Tray.<init> -/
set_option linter.unusedVariables false in
set_option maxHeartbeats 4000000 in
set_option maxRecDepth 100000 in
theorem c_T_init (l : Launch) (D : va_G) (cy : Nat → ClassId) (h0 : Nat)  : ConI l D cy yX6_init cX6_init 1 (rmi 2 2 2051) h0 (.inr (6, blX6)) [] (fun ad => [((ad 0), .inr (6, [.ref (ad 1), .int 0, .int 0])), ((ad 1), .inr (0, [.ref (ad 2)])), ((ad 2), .inl (cy 0, 2050, .inl (fun _ => 0)))]) := by
  refine conI_of (by decide) rfl (Nat.le_of_ble_eq_true rfl) (lv := [(0, .ref h0)]) rfl ?_
  intro p e s m below meth c G
  have G : uG p s m _ meth c D cy (va_A [(h0, (.inr (6, blX6)))] s.heap.size) "SensorNode$Tray" cX6_init 1 := G
  show U _ _ _ _ _ _ _ _ _ _ _ _ _ _ [(h0, .inr (6, [.null, .int 0, .int 0]))] _ _ _ _ _
  refine u_aload_n G 0 dX6_init_0 rfl ?_
  refine u_objInit G dX6_init_1 w1_68 w1_18 w1_19 (by decide) (by decide) ?_
  refine u_aload_n G 0 dX6_init_4 rfl ?_
  refine u_new G (ci := 0) blX0 dX6_init_5 inX0 tyX0_ok w1_69 w1_70 w1_4 rfl blX0_ok (by decide) (by decide) (fun q1 => ?_)
  show U _ _ _ _ _ _ _ _ _ _ _ _ _ _ [(h0, .inr (6, [.null, .int 0, .int 0])), (q1, .inr (0, [.null]))] _ _ _ _ _
  refine u_dup G dX6_init_8 rfl ?_
  refine u_sipush G (v := (8200 : Int32)) dX6_init_9 (by decide) ?_
  refine u_callI G (kq := 1) (As := [.int (8200 : Int32)]) (st := [.ref q1, .ref h0]) (c_B_init_2050 l D cy q1 ) rfl [0] [(h0, .inr (6, [.null, .int 0, .int 0]))] rfl (by decide) (by decide) w1_71 w1_72 w1_4 w1_73 rfl qyX0_init (by decide) rfl (Nat.le_of_ble_eq_true rfl) dX6_init_12 (by decide) (fun ad2 had2 => ?_)
  subst had2
  show U _ _ _ _ _ _ _ _ _ _ _ _ _ _ [(h0, .inr (6, [.null, .int 0, .int 0])), ((ad2 0), .inr (0, [.ref (ad2 1)])), ((ad2 1), .inl (cy 0, 2050, .inl (fun _ => 0)))] _ _ _ _ _
  refine u_putF G (ci := 6) (T := TX6) 0 0 [(h0, .inr (6, [.ref (ad2 0), .int 0, .int 0])), ((ad2 0), .inr (0, [.ref (ad2 1)])), ((ad2 1), .inl (cy 0, 2050, .inl (fun _ => 0)))] dX6_init_15 inX6 tyX6_ok nmX6 rfl rfl (by decide) w1_79 rfl rfl rfl rfl (Nat.le_of_ble_eq_true rfl) rfl ?_
  exact u_vret (sz := 0) G (fun k => ([h0, (ad2 0), (ad2 1)] : List Nat).getD k 0) dX6_init_18 rfl [0, 1, 2] (by decide) rfl rfl
/-! SensorNode$Plan.<init> -/
set_option linter.unusedVariables false in
set_option maxHeartbeats 4000000 in
set_option maxRecDepth 100000 in
theorem c_L_init (l : Launch) (D : va_G) (cy : Nat → ClassId) (h0 : Nat)  : ConI l D cy yX4_init cX4_init 1 (rmi 1 2 3048) h0 (.inr (4, blX4)) [] (fun ad => [((ad 0), .inr (4, [.ref (ad 1), .ref (ad 2), .int 0, .int 0, .int 0, .int 0, .int 0, .int 0, .int 0])), ((ad 1), .inl (cy 0, 2048, .inl (fun _ => 0))), ((ad 2), .inl (cy 0, 1000, .inl (fun _ => 0)))]) := by
  refine conI_of (by decide) rfl (Nat.le_of_ble_eq_true rfl) (lv := [(0, .ref h0)]) rfl ?_
  intro p e s m below meth c G
  have G : uG p s m _ meth c D cy (va_A [(h0, (.inr (4, blX4)))] s.heap.size) "SensorNode$Plan" cX4_init 1 := G
  show U _ _ _ _ _ _ _ _ _ _ _ _ _ _ [(h0, .inr (4, [.null, .null, .int 0, .int 0, .int 0, .int 0, .int 0, .int 0, .int 0]))] _ _ _ _ _
  refine u_aload_n G 0 dX4_init_0 rfl ?_
  refine u_objInit G dX4_init_1 w1_25 w1_18 w1_19 (by decide) (by decide) ?_
  refine u_aload_n G 0 dX4_init_4 rfl ?_
  refine u_sipush G (v := (2048 : Int32)) dX4_init_5 (by decide) ?_
  refine u_newa G 0 (ty := .int) (N := 2048) dX4_init_8 rfl rfl (fun _ h => h) w1_62 (fun _ => rfl) (by decide) (by decide) (by decide) (by decide) (by decide) (fun q1 => ?_)
  show U _ _ _ _ _ _ _ _ _ _ _ _ _ _ [(h0, .inr (4, [.null, .null, .int 0, .int 0, .int 0, .int 0, .int 0, .int 0, .int 0])), (q1, .inl (cy 0, 2048, .inl (fun _ => 0)))] _ _ _ _ _
  refine u_putF G (ci := 4) (T := TX4) 0 0 [(h0, .inr (4, [.ref q1, .null, .int 0, .int 0, .int 0, .int 0, .int 0, .int 0, .int 0])), (q1, .inl (cy 0, 2048, .inl (fun _ => 0)))] dX4_init_10 inX4 tyX4_ok nmX4 rfl rfl (by decide) w1_26 rfl rfl rfl rfl (Nat.le_of_ble_eq_true rfl) rfl ?_
  refine u_aload_n G 0 dX4_init_13 rfl ?_
  refine u_sipush G (v := (1000 : Int32)) dX4_init_14 (by decide) ?_
  refine u_newa G 0 (ty := .int) (N := 1000) dX4_init_17 rfl rfl (fun _ h => h) w1_62 (fun _ => rfl) (by decide) (by decide) (by decide) (by decide) (by decide) (fun q2 => ?_)
  show U _ _ _ _ _ _ _ _ _ _ _ _ _ _ [(h0, .inr (4, [.ref q1, .null, .int 0, .int 0, .int 0, .int 0, .int 0, .int 0, .int 0])), (q1, .inl (cy 0, 2048, .inl (fun _ => 0))), (q2, .inl (cy 0, 1000, .inl (fun _ => 0)))] _ _ _ _ _
  refine u_putF G (ci := 4) (T := TX4) 0 1 [(h0, .inr (4, [.ref q1, .ref q2, .int 0, .int 0, .int 0, .int 0, .int 0, .int 0, .int 0])), (q1, .inl (cy 0, 2048, .inl (fun _ => 0))), (q2, .inl (cy 0, 1000, .inl (fun _ => 0)))] dX4_init_19 inX4 tyX4_ok nmX4 rfl rfl (by decide) w1_27 rfl rfl rfl rfl (Nat.le_of_ble_eq_true rfl) rfl ?_
  exact u_vret (sz := 0) G (fun k => ([h0, q1, q2] : List Nat).getD k 0) dX4_init_22 rfl [0, 1, 2] (by decide) rfl rfl
/-! SensorNode$Radio.<init> -/
set_option linter.unusedVariables false in
set_option maxHeartbeats 4000000 in
set_option maxRecDepth 100000 in
theorem c_R_init (l : Launch) (D : va_G) (cy : Nat → ClassId) (h0 : Nat)  : ConI l D cy yX5_init cX5_init 1 (rmi 2 5 7601) h0 (.inr (5, blX5)) [] (fun ad => [((ad 0), .inr (5, [.ref (ad 1), .ref (ad 2), .ref (ad 3), .ref (ad 4), .int 0, .int 0])), ((ad 1), .inl (cy 0, 400, .inl (fun _ => 0))), ((ad 2), .inl (cy 0, 400, .inl (fun _ => 0))), ((ad 3), .inl (cy 0, 400, .inl (fun _ => 0))), ((ad 4), .inr (0, [.ref (ad 5)])), ((ad 5), .inl (cy 0, 6400, .inl (fun _ => 0)))]) := by
  refine conI_of (by decide) rfl (Nat.le_of_ble_eq_true rfl) (lv := [(0, .ref h0)]) rfl ?_
  intro p e s m below meth c G
  have G : uG p s m _ meth c D cy (va_A [(h0, (.inr (5, blX5)))] s.heap.size) "SensorNode$Radio" cX5_init 1 := G
  show U _ _ _ _ _ _ _ _ _ _ _ _ _ _ [(h0, .inr (5, [.null, .null, .null, .null, .int 0, .int 0]))] _ _ _ _ _
  refine u_aload_n G 0 dX5_init_0 rfl ?_
  refine u_objInit G dX5_init_1 w1_100 w1_18 w1_19 (by decide) (by decide) ?_
  refine u_aload_n G 0 dX5_init_4 rfl ?_
  refine u_sipush G (v := (400 : Int32)) dX5_init_5 (by decide) ?_
  refine u_newa G 0 (ty := .int) (N := 400) dX5_init_8 rfl rfl (fun _ h => h) w1_62 (fun _ => rfl) (by decide) (by decide) (by decide) (by decide) (by decide) (fun q1 => ?_)
  show U _ _ _ _ _ _ _ _ _ _ _ _ _ _ [(h0, .inr (5, [.null, .null, .null, .null, .int 0, .int 0])), (q1, .inl (cy 0, 400, .inl (fun _ => 0)))] _ _ _ _ _
  refine u_putF G (ci := 5) (T := TX5) 0 0 [(h0, .inr (5, [.ref q1, .null, .null, .null, .int 0, .int 0])), (q1, .inl (cy 0, 400, .inl (fun _ => 0)))] dX5_init_10 inX5 tyX5_ok nmX5 rfl rfl (by decide) w1_103 rfl rfl rfl rfl (Nat.le_of_ble_eq_true rfl) rfl ?_
  refine u_aload_n G 0 dX5_init_13 rfl ?_
  refine u_sipush G (v := (400 : Int32)) dX5_init_14 (by decide) ?_
  refine u_newa G 0 (ty := .int) (N := 400) dX5_init_17 rfl rfl (fun _ h => h) w1_62 (fun _ => rfl) (by decide) (by decide) (by decide) (by decide) (by decide) (fun q2 => ?_)
  show U _ _ _ _ _ _ _ _ _ _ _ _ _ _ [(h0, .inr (5, [.ref q1, .null, .null, .null, .int 0, .int 0])), (q1, .inl (cy 0, 400, .inl (fun _ => 0))), (q2, .inl (cy 0, 400, .inl (fun _ => 0)))] _ _ _ _ _
  refine u_putF G (ci := 5) (T := TX5) 0 1 [(h0, .inr (5, [.ref q1, .ref q2, .null, .null, .int 0, .int 0])), (q1, .inl (cy 0, 400, .inl (fun _ => 0))), (q2, .inl (cy 0, 400, .inl (fun _ => 0)))] dX5_init_19 inX5 tyX5_ok nmX5 rfl rfl (by decide) w1_104 rfl rfl rfl rfl (Nat.le_of_ble_eq_true rfl) rfl ?_
  refine u_aload_n G 0 dX5_init_22 rfl ?_
  refine u_sipush G (v := (400 : Int32)) dX5_init_23 (by decide) ?_
  refine u_newa G 0 (ty := .int) (N := 400) dX5_init_26 rfl rfl (fun _ h => h) w1_62 (fun _ => rfl) (by decide) (by decide) (by decide) (by decide) (by decide) (fun q3 => ?_)
  show U _ _ _ _ _ _ _ _ _ _ _ _ _ _ [(h0, .inr (5, [.ref q1, .ref q2, .null, .null, .int 0, .int 0])), (q1, .inl (cy 0, 400, .inl (fun _ => 0))), (q2, .inl (cy 0, 400, .inl (fun _ => 0))), (q3, .inl (cy 0, 400, .inl (fun _ => 0)))] _ _ _ _ _
  refine u_putF G (ci := 5) (T := TX5) 0 2 [(h0, .inr (5, [.ref q1, .ref q2, .ref q3, .null, .int 0, .int 0])), (q1, .inl (cy 0, 400, .inl (fun _ => 0))), (q2, .inl (cy 0, 400, .inl (fun _ => 0))), (q3, .inl (cy 0, 400, .inl (fun _ => 0)))] dX5_init_28 inX5 tyX5_ok nmX5 rfl rfl (by decide) w1_105 rfl rfl rfl rfl (Nat.le_of_ble_eq_true rfl) rfl ?_
  refine u_aload_n G 0 dX5_init_31 rfl ?_
  refine u_new G (ci := 0) blX0 dX5_init_32 inX0 tyX0_ok w1_101 w1_70 w1_4 rfl blX0_ok (by decide) (by decide) (fun q4 => ?_)
  show U _ _ _ _ _ _ _ _ _ _ _ _ _ _ [(h0, .inr (5, [.ref q1, .ref q2, .ref q3, .null, .int 0, .int 0])), (q1, .inl (cy 0, 400, .inl (fun _ => 0))), (q2, .inl (cy 0, 400, .inl (fun _ => 0))), (q3, .inl (cy 0, 400, .inl (fun _ => 0))), (q4, .inr (0, [.null]))] _ _ _ _ _
  refine u_dup G dX5_init_35 rfl ?_
  refine u_sipush G (v := (25600 : Int32)) dX5_init_36 (by decide) ?_
  refine u_callI G (kq := 4) (As := [.int (25600 : Int32)]) (st := [.ref q4, .ref h0]) (c_B_init_6400 l D cy q4 ) rfl [0, 1, 2, 3] [(h0, .inr (5, [.ref q1, .ref q2, .ref q3, .null, .int 0, .int 0])), (q1, .inl (cy 0, 400, .inl (fun _ => 0))), (q2, .inl (cy 0, 400, .inl (fun _ => 0))), (q3, .inl (cy 0, 400, .inl (fun _ => 0)))] rfl (by decide) (by decide) w1_102 w1_72 w1_4 w1_73 rfl qyX0_init (by decide) rfl (Nat.le_of_ble_eq_true rfl) dX5_init_39 (by decide) (fun ad5 had5 => ?_)
  subst had5
  show U _ _ _ _ _ _ _ _ _ _ _ _ _ _ [(h0, .inr (5, [.ref q1, .ref q2, .ref q3, .null, .int 0, .int 0])), (q1, .inl (cy 0, 400, .inl (fun _ => 0))), (q2, .inl (cy 0, 400, .inl (fun _ => 0))), (q3, .inl (cy 0, 400, .inl (fun _ => 0))), ((ad5 0), .inr (0, [.ref (ad5 1)])), ((ad5 1), .inl (cy 0, 6400, .inl (fun _ => 0)))] _ _ _ _ _
  refine u_putF G (ci := 5) (T := TX5) 0 3 [(h0, .inr (5, [.ref q1, .ref q2, .ref q3, .ref (ad5 0), .int 0, .int 0])), (q1, .inl (cy 0, 400, .inl (fun _ => 0))), (q2, .inl (cy 0, 400, .inl (fun _ => 0))), (q3, .inl (cy 0, 400, .inl (fun _ => 0))), ((ad5 0), .inr (0, [.ref (ad5 1)])), ((ad5 1), .inl (cy 0, 6400, .inl (fun _ => 0)))] dX5_init_42 inX5 tyX5_ok nmX5 rfl rfl (by decide) w1_106 rfl rfl rfl rfl (Nat.le_of_ble_eq_true rfl) rfl ?_
  exact u_vret (sz := 0) G (fun k => ([h0, q1, q2, q3, (ad5 0), (ad5 1)] : List Nat).getD k 0) dX5_init_45 rfl [0, 1, 2, 3, 4, 5] (by decide) rfl rfl
/-! SensorNode$Guest.<init> -/
set_option linter.unusedVariables false in
set_option maxHeartbeats 4000000 in
set_option maxRecDepth 100000 in
theorem c_G_init (l : Launch) (D : va_G) (cy : Nat → ClassId) (h0 : Nat) (r1 : Nat) (r2 : Nat) : ConI l D cy yX1_init cX1_init 3 (rmi 1 2 1060) h0 (.inr (1, blX1)) [.ref r1, .ref r2] (fun ad => [((ad 0), .inr (1, [.ref r1, .ref (ad 1), .ref (ad 2), .ref r2, .int 0, .int 0, .int 0, .int 0, .int 0, .int 0])), ((ad 1), .inl (cy 0, 36, .inl (fun _ => 0))), ((ad 2), .inl (cy 0, 1024, .inl (fun _ => 0)))]) := by
  refine conI_of (by decide) rfl (Nat.le_of_ble_eq_true rfl) (lv := [(0, .ref h0), (1, .ref r1), (2, .ref r2)]) rfl ?_
  intro p e s m below meth c G
  have G : uG p s m _ meth c D cy (va_A [(h0, (.inr (1, blX1)))] s.heap.size) "SensorNode$Guest" cX1_init 3 := G
  show U _ _ _ _ _ _ _ _ _ _ _ _ _ _ [(h0, .inr (1, [.null, .null, .null, .null, .int 0, .int 0, .int 0, .int 0, .int 0, .int 0]))] _ _ _ _ _
  refine u_aload_n G 0 dX1_init_0 rfl ?_
  refine u_objInit G dX1_init_1 w1_127 w1_18 w1_19 (by decide) (by decide) ?_
  refine u_aload_n G 0 dX1_init_4 rfl ?_
  refine u_bipush G (v := (36 : Int32)) dX1_init_5 (by decide) ?_
  refine u_newa G 0 (ty := .int) (N := 36) dX1_init_7 rfl rfl (fun _ h => h) w1_62 (fun _ => rfl) (by decide) (by decide) (by decide) (by decide) (by decide) (fun q1 => ?_)
  show U _ _ _ _ _ _ _ _ _ _ _ _ _ _ [(h0, .inr (1, [.null, .null, .null, .null, .int 0, .int 0, .int 0, .int 0, .int 0, .int 0])), (q1, .inl (cy 0, 36, .inl (fun _ => 0)))] _ _ _ _ _
  refine u_putF G (ci := 1) (T := TX1) 0 1 [(h0, .inr (1, [.null, .ref q1, .null, .null, .int 0, .int 0, .int 0, .int 0, .int 0, .int 0])), (q1, .inl (cy 0, 36, .inl (fun _ => 0)))] dX1_init_9 inX1 tyX1_ok nmX1 rfl rfl (by decide) w1_129 rfl rfl rfl rfl (Nat.le_of_ble_eq_true rfl) rfl ?_
  refine u_aload_n G 0 dX1_init_12 rfl ?_
  refine u_sipush G (v := (1024 : Int32)) dX1_init_13 (by decide) ?_
  refine u_newa G 0 (ty := .int) (N := 1024) dX1_init_16 rfl rfl (fun _ h => h) w1_62 (fun _ => rfl) (by decide) (by decide) (by decide) (by decide) (by decide) (fun q2 => ?_)
  show U _ _ _ _ _ _ _ _ _ _ _ _ _ _ [(h0, .inr (1, [.null, .ref q1, .null, .null, .int 0, .int 0, .int 0, .int 0, .int 0, .int 0])), (q1, .inl (cy 0, 36, .inl (fun _ => 0))), (q2, .inl (cy 0, 1024, .inl (fun _ => 0)))] _ _ _ _ _
  refine u_putF G (ci := 1) (T := TX1) 0 2 [(h0, .inr (1, [.null, .ref q1, .ref q2, .null, .int 0, .int 0, .int 0, .int 0, .int 0, .int 0])), (q1, .inl (cy 0, 36, .inl (fun _ => 0))), (q2, .inl (cy 0, 1024, .inl (fun _ => 0)))] dX1_init_18 inX1 tyX1_ok nmX1 rfl rfl (by decide) w1_130 rfl rfl rfl rfl (Nat.le_of_ble_eq_true rfl) rfl ?_
  refine u_aload_n G 0 dX1_init_21 rfl ?_
  refine u_aload_n G 1 dX1_init_22 rfl ?_
  refine u_putF G (ci := 1) (T := TX1) 0 0 [(h0, .inr (1, [.ref r1, .ref q1, .ref q2, .null, .int 0, .int 0, .int 0, .int 0, .int 0, .int 0])), (q1, .inl (cy 0, 36, .inl (fun _ => 0))), (q2, .inl (cy 0, 1024, .inl (fun _ => 0)))] dX1_init_23 inX1 tyX1_ok nmX1 rfl rfl (by decide) w1_128 rfl rfl rfl rfl (Nat.le_of_ble_eq_true rfl) rfl ?_
  refine u_aload_n G 0 dX1_init_26 rfl ?_
  refine u_aload_n G 2 dX1_init_27 rfl ?_
  refine u_putF G (ci := 1) (T := TX1) 0 3 [(h0, .inr (1, [.ref r1, .ref q1, .ref q2, .ref r2, .int 0, .int 0, .int 0, .int 0, .int 0, .int 0])), (q1, .inl (cy 0, 36, .inl (fun _ => 0))), (q2, .inl (cy 0, 1024, .inl (fun _ => 0)))] dX1_init_28 inX1 tyX1_ok nmX1 rfl rfl (by decide) w1_131 rfl rfl rfl rfl (Nat.le_of_ble_eq_true rfl) rfl ?_
  exact u_vret (sz := 0) G (fun k => ([h0, q1, q2] : List Nat).getD k 0) dX1_init_31 rfl [0, 1, 2] (by decide) rfl rfl
/-! SensorNode$Node.<init> -/
set_option linter.unusedVariables false in
set_option maxHeartbeats 4000000 in
set_option maxRecDepth 100000 in
theorem c_N_init (l : Launch) (D : va_G) (cy : Nat → ClassId) (h0 : Nat) (r1 : Nat) : ConI l D cy yX2_init cX2_init 3 (rmi 3 12 16951) h0 (.inr (2, blX2)) [.ref r1] (fun ad => [((ad 0), .inr (2, [.ref r1, .ref (ad 9), .ref (ad 1), .ref (ad 2), .ref (ad 3), .ref (ad 10), .int 0, .int 0, .int 0, .int 0, .int 0, .int 0, .int 0, .int 0, .int 0])), ((ad 1), .inl (cy 0, 2048, .inl (fun _ => 0))), ((ad 2), .inl (cy 0, 7, .inl (fun _ => 0))), ((ad 3), .inr (5, [.ref (ad 4), .ref (ad 5), .ref (ad 6), .ref (ad 7), .int 0, .int 0])), ((ad 4), .inl (cy 0, 400, .inl (fun _ => 0))), ((ad 5), .inl (cy 0, 400, .inl (fun _ => 0))), ((ad 6), .inl (cy 0, 400, .inl (fun _ => 0))), ((ad 7), .inr (0, [.ref (ad 8)])), ((ad 8), .inl (cy 0, 6400, .inl (fun _ => 0))), ((ad 9), .inl (cy 0, 6219, .inl (fun _ => 0))), ((ad 10), .inr (1, [.ref r1, .ref (ad 11), .ref (ad 12), .ref (ad 9), .int 0, .int 0, .int 0, .int 0, .int 0, .int 0])), ((ad 11), .inl (cy 0, 36, .inl (fun _ => 0))), ((ad 12), .inl (cy 0, 1024, .inl (fun _ => 0)))]) := by
  refine conI_of (by decide) rfl (Nat.le_of_ble_eq_true rfl) (lv := [(0, .ref h0), (1, .ref r1)]) rfl ?_
  intro p e s m below meth c G
  have G : uG p s m _ meth c D cy (va_A [(h0, (.inr (2, blX2)))] s.heap.size) "SensorNode$Node" cX2_init 3 := G
  show U _ _ _ _ _ _ _ _ _ _ _ _ _ _ [(h0, .inr (2, [.null, .null, .null, .null, .null, .null, .int 0, .int 0, .int 0, .int 0, .int 0, .int 0, .int 0, .int 0, .int 0]))] _ _ _ _ _
  refine u_aload_n G 0 dX2_init_0 rfl ?_
  refine u_objInit G dX2_init_1 w1_94 w1_18 w1_19 (by decide) (by decide) ?_
  refine u_aload_n G 0 dX2_init_4 rfl ?_
  refine u_sipush G (v := (2048 : Int32)) dX2_init_5 (by decide) ?_
  refine u_newa G 0 (ty := .int) (N := 2048) dX2_init_8 rfl rfl (fun _ h => h) w1_62 (fun _ => rfl) (by decide) (by decide) (by decide) (by decide) (by decide) (fun q1 => ?_)
  show U _ _ _ _ _ _ _ _ _ _ _ _ _ _ [(h0, .inr (2, [.null, .null, .null, .null, .null, .null, .int 0, .int 0, .int 0, .int 0, .int 0, .int 0, .int 0, .int 0, .int 0])), (q1, .inl (cy 0, 2048, .inl (fun _ => 0)))] _ _ _ _ _
  refine u_putF G (ci := 2) (T := TX2) 0 2 [(h0, .inr (2, [.null, .null, .ref q1, .null, .null, .null, .int 0, .int 0, .int 0, .int 0, .int 0, .int 0, .int 0, .int 0, .int 0])), (q1, .inl (cy 0, 2048, .inl (fun _ => 0)))] dX2_init_10 inX2 tyX2_ok nmX2 rfl rfl (by decide) w1_161 rfl rfl rfl rfl (Nat.le_of_ble_eq_true rfl) rfl ?_
  refine u_aload_n G 0 dX2_init_13 rfl ?_
  refine u_bipush G (v := (7 : Int32)) dX2_init_14 (by decide) ?_
  refine u_newa G 0 (ty := .int) (N := 7) dX2_init_16 rfl rfl (fun _ h => h) w1_62 (fun _ => rfl) (by decide) (by decide) (by decide) (by decide) (by decide) (fun q2 => ?_)
  show U _ _ _ _ _ _ _ _ _ _ _ _ _ _ [(h0, .inr (2, [.null, .null, .ref q1, .null, .null, .null, .int 0, .int 0, .int 0, .int 0, .int 0, .int 0, .int 0, .int 0, .int 0])), (q1, .inl (cy 0, 2048, .inl (fun _ => 0))), (q2, .inl (cy 0, 7, .inl (fun _ => 0)))] _ _ _ _ _
  refine u_putF G (ci := 2) (T := TX2) 0 3 [(h0, .inr (2, [.null, .null, .ref q1, .ref q2, .null, .null, .int 0, .int 0, .int 0, .int 0, .int 0, .int 0, .int 0, .int 0, .int 0])), (q1, .inl (cy 0, 2048, .inl (fun _ => 0))), (q2, .inl (cy 0, 7, .inl (fun _ => 0)))] dX2_init_18 inX2 tyX2_ok nmX2 rfl rfl (by decide) w1_162 rfl rfl rfl rfl (Nat.le_of_ble_eq_true rfl) rfl ?_
  refine u_aload_n G 0 dX2_init_21 rfl ?_
  refine u_new G (ci := 5) blX5 dX2_init_22 inX5 tyX5_ok w1_95 w1_96 w1_6 rfl blX5_ok (by decide) (by decide) (fun q3 => ?_)
  show U _ _ _ _ _ _ _ _ _ _ _ _ _ _ [(h0, .inr (2, [.null, .null, .ref q1, .ref q2, .null, .null, .int 0, .int 0, .int 0, .int 0, .int 0, .int 0, .int 0, .int 0, .int 0])), (q1, .inl (cy 0, 2048, .inl (fun _ => 0))), (q2, .inl (cy 0, 7, .inl (fun _ => 0))), (q3, .inr (5, [.null, .null, .null, .null, .int 0, .int 0]))] _ _ _ _ _
  refine u_dup G dX2_init_25 rfl ?_
  refine u_callN G (kq := 3) (As := []) (st := [.ref q3, .ref h0]) (c_R_init l D cy q3 ) rfl [0, 1, 2] [(h0, .inr (2, [.null, .null, .ref q1, .ref q2, .null, .null, .int 0, .int 0, .int 0, .int 0, .int 0, .int 0, .int 0, .int 0, .int 0])), (q1, .inl (cy 0, 2048, .inl (fun _ => 0))), (q2, .inl (cy 0, 7, .inl (fun _ => 0)))] rfl (by decide) (by decide) (List.mem_of_getElem? (i := 2) rfl) w1_98 w1_6 w1_99 rfl qyX5_init (by decide) rfl (Nat.le_of_ble_eq_true rfl) dX2_init_26 (by decide) (fun ad4 had4 => ?_)
  subst had4
  show U _ _ _ _ _ _ _ _ _ _ _ _ _ _ [(h0, .inr (2, [.null, .null, .ref q1, .ref q2, .null, .null, .int 0, .int 0, .int 0, .int 0, .int 0, .int 0, .int 0, .int 0, .int 0])), (q1, .inl (cy 0, 2048, .inl (fun _ => 0))), (q2, .inl (cy 0, 7, .inl (fun _ => 0))), ((ad4 0), .inr (5, [.ref (ad4 1), .ref (ad4 2), .ref (ad4 3), .ref (ad4 4), .int 0, .int 0])), ((ad4 1), .inl (cy 0, 400, .inl (fun _ => 0))), ((ad4 2), .inl (cy 0, 400, .inl (fun _ => 0))), ((ad4 3), .inl (cy 0, 400, .inl (fun _ => 0))), ((ad4 4), .inr (0, [.ref (ad4 5)])), ((ad4 5), .inl (cy 0, 6400, .inl (fun _ => 0)))] _ _ _ _ _
  refine u_putF G (ci := 2) (T := TX2) 0 4 [(h0, .inr (2, [.null, .null, .ref q1, .ref q2, .ref (ad4 0), .null, .int 0, .int 0, .int 0, .int 0, .int 0, .int 0, .int 0, .int 0, .int 0])), (q1, .inl (cy 0, 2048, .inl (fun _ => 0))), (q2, .inl (cy 0, 7, .inl (fun _ => 0))), ((ad4 0), .inr (5, [.ref (ad4 1), .ref (ad4 2), .ref (ad4 3), .ref (ad4 4), .int 0, .int 0])), ((ad4 1), .inl (cy 0, 400, .inl (fun _ => 0))), ((ad4 2), .inl (cy 0, 400, .inl (fun _ => 0))), ((ad4 3), .inl (cy 0, 400, .inl (fun _ => 0))), ((ad4 4), .inr (0, [.ref (ad4 5)])), ((ad4 5), .inl (cy 0, 6400, .inl (fun _ => 0)))] dX2_init_29 inX2 tyX2_ok nmX2 rfl rfl (by decide) w1_163 rfl rfl rfl rfl (Nat.le_of_ble_eq_true rfl) rfl ?_
  refine u_aload_n G 0 dX2_init_32 rfl ?_
  refine u_aload_n G 1 dX2_init_33 rfl ?_
  refine u_putF G (ci := 2) (T := TX2) 0 0 [(h0, .inr (2, [.ref r1, .null, .ref q1, .ref q2, .ref (ad4 0), .null, .int 0, .int 0, .int 0, .int 0, .int 0, .int 0, .int 0, .int 0, .int 0])), (q1, .inl (cy 0, 2048, .inl (fun _ => 0))), (q2, .inl (cy 0, 7, .inl (fun _ => 0))), ((ad4 0), .inr (5, [.ref (ad4 1), .ref (ad4 2), .ref (ad4 3), .ref (ad4 4), .int 0, .int 0])), ((ad4 1), .inl (cy 0, 400, .inl (fun _ => 0))), ((ad4 2), .inl (cy 0, 400, .inl (fun _ => 0))), ((ad4 3), .inl (cy 0, 400, .inl (fun _ => 0))), ((ad4 4), .inr (0, [.ref (ad4 5)])), ((ad4 5), .inl (cy 0, 6400, .inl (fun _ => 0)))] dX2_init_34 inX2 tyX2_ok nmX2 rfl rfl (by decide) w1_159 rfl rfl rfl rfl (Nat.le_of_ble_eq_true rfl) rfl ?_
  refine u_sipush G (v := (6219 : Int32)) dX2_init_37 (by decide) ?_
  refine u_newa G 0 (ty := .int) (N := 6219) dX2_init_40 rfl rfl (fun _ h => h) w1_62 (fun _ => rfl) (by decide) (by decide) (by decide) (by decide) (by decide) (fun q5 => ?_)
  show U _ _ _ _ _ _ _ _ _ _ _ _ _ _ [(h0, .inr (2, [.ref r1, .null, .ref q1, .ref q2, .ref (ad4 0), .null, .int 0, .int 0, .int 0, .int 0, .int 0, .int 0, .int 0, .int 0, .int 0])), (q1, .inl (cy 0, 2048, .inl (fun _ => 0))), (q2, .inl (cy 0, 7, .inl (fun _ => 0))), ((ad4 0), .inr (5, [.ref (ad4 1), .ref (ad4 2), .ref (ad4 3), .ref (ad4 4), .int 0, .int 0])), ((ad4 1), .inl (cy 0, 400, .inl (fun _ => 0))), ((ad4 2), .inl (cy 0, 400, .inl (fun _ => 0))), ((ad4 3), .inl (cy 0, 400, .inl (fun _ => 0))), ((ad4 4), .inr (0, [.ref (ad4 5)])), ((ad4 5), .inl (cy 0, 6400, .inl (fun _ => 0))), (q5, .inl (cy 0, 6219, .inl (fun _ => 0)))] _ _ _ _ _
  refine u_astore_n G [(2, .ref q5), (0, .ref h0), (1, .ref r1)] dX2_init_42 (by decide) rfl ?_
  refine u_aload_n G 1 dX2_init_43 rfl ?_
  refine u_aload_n G 0 dX2_init_44 rfl ?_
  refine u_putF G (ci := 2) (T := TX2) 0 1 [(h0, .inr (2, [.ref r1, .ref q5, .ref q1, .ref q2, .ref (ad4 0), .null, .int 0, .int 0, .int 0, .int 0, .int 0, .int 0, .int 0, .int 0, .int 0])), (q1, .inl (cy 0, 2048, .inl (fun _ => 0))), (q2, .inl (cy 0, 7, .inl (fun _ => 0))), ((ad4 0), .inr (5, [.ref (ad4 1), .ref (ad4 2), .ref (ad4 3), .ref (ad4 4), .int 0, .int 0])), ((ad4 1), .inl (cy 0, 400, .inl (fun _ => 0))), ((ad4 2), .inl (cy 0, 400, .inl (fun _ => 0))), ((ad4 3), .inl (cy 0, 400, .inl (fun _ => 0))), ((ad4 4), .inr (0, [.ref (ad4 5)])), ((ad4 5), .inl (cy 0, 6400, .inl (fun _ => 0))), (q5, .inl (cy 0, 6219, .inl (fun _ => 0)))] dX2_init_45 inX2 tyX2_ok nmX2 rfl rfl (by decide) w1_160 rfl rfl rfl rfl (Nat.le_of_ble_eq_true rfl) rfl ?_
  refine u_aload_n G 1 dX2_init_48 rfl ?_
  refine u_new G (ci := 1) blX1 dX2_init_49 inX1 tyX1_ok w1_122 w1_123 w1_7 rfl blX1_ok (by decide) (by decide) (fun q6 => ?_)
  show U _ _ _ _ _ _ _ _ _ _ _ _ _ _ [(h0, .inr (2, [.ref r1, .ref q5, .ref q1, .ref q2, .ref (ad4 0), .null, .int 0, .int 0, .int 0, .int 0, .int 0, .int 0, .int 0, .int 0, .int 0])), (q1, .inl (cy 0, 2048, .inl (fun _ => 0))), (q2, .inl (cy 0, 7, .inl (fun _ => 0))), ((ad4 0), .inr (5, [.ref (ad4 1), .ref (ad4 2), .ref (ad4 3), .ref (ad4 4), .int 0, .int 0])), ((ad4 1), .inl (cy 0, 400, .inl (fun _ => 0))), ((ad4 2), .inl (cy 0, 400, .inl (fun _ => 0))), ((ad4 3), .inl (cy 0, 400, .inl (fun _ => 0))), ((ad4 4), .inr (0, [.ref (ad4 5)])), ((ad4 5), .inl (cy 0, 6400, .inl (fun _ => 0))), (q5, .inl (cy 0, 6219, .inl (fun _ => 0))), (q6, .inr (1, [.null, .null, .null, .null, .int 0, .int 0, .int 0, .int 0, .int 0, .int 0]))] _ _ _ _ _
  refine u_dup G dX2_init_52 rfl ?_
  refine u_aload_n G 2 dX2_init_53 rfl ?_
  refine u_aload_n G 0 dX2_init_54 rfl ?_
  refine u_callI G (kq := 10) (As := [.ref r1, .ref q5]) (st := [.ref q6, .ref h0]) (c_G_init l D cy q6 r1 q5) rfl [0, 1, 2, 3, 4, 5, 6, 7, 8, 9] [(h0, .inr (2, [.ref r1, .ref q5, .ref q1, .ref q2, .ref (ad4 0), .null, .int 0, .int 0, .int 0, .int 0, .int 0, .int 0, .int 0, .int 0, .int 0])), (q1, .inl (cy 0, 2048, .inl (fun _ => 0))), (q2, .inl (cy 0, 7, .inl (fun _ => 0))), ((ad4 0), .inr (5, [.ref (ad4 1), .ref (ad4 2), .ref (ad4 3), .ref (ad4 4), .int 0, .int 0])), ((ad4 1), .inl (cy 0, 400, .inl (fun _ => 0))), ((ad4 2), .inl (cy 0, 400, .inl (fun _ => 0))), ((ad4 3), .inl (cy 0, 400, .inl (fun _ => 0))), ((ad4 4), .inr (0, [.ref (ad4 5)])), ((ad4 5), .inl (cy 0, 6400, .inl (fun _ => 0))), (q5, .inl (cy 0, 6219, .inl (fun _ => 0)))] rfl (by decide) (by decide) w1_124 w1_125 w1_7 w1_126 rfl qyX1_init (by decide) rfl (Nat.le_of_ble_eq_true rfl) dX2_init_55 (by decide) (fun ad7 had7 => ?_)
  subst had7
  show U _ _ _ _ _ _ _ _ _ _ _ _ _ _ [(h0, .inr (2, [.ref r1, .ref q5, .ref q1, .ref q2, .ref (ad4 0), .null, .int 0, .int 0, .int 0, .int 0, .int 0, .int 0, .int 0, .int 0, .int 0])), (q1, .inl (cy 0, 2048, .inl (fun _ => 0))), (q2, .inl (cy 0, 7, .inl (fun _ => 0))), ((ad4 0), .inr (5, [.ref (ad4 1), .ref (ad4 2), .ref (ad4 3), .ref (ad4 4), .int 0, .int 0])), ((ad4 1), .inl (cy 0, 400, .inl (fun _ => 0))), ((ad4 2), .inl (cy 0, 400, .inl (fun _ => 0))), ((ad4 3), .inl (cy 0, 400, .inl (fun _ => 0))), ((ad4 4), .inr (0, [.ref (ad4 5)])), ((ad4 5), .inl (cy 0, 6400, .inl (fun _ => 0))), (q5, .inl (cy 0, 6219, .inl (fun _ => 0))), ((ad7 0), .inr (1, [.ref r1, .ref (ad7 1), .ref (ad7 2), .ref q5, .int 0, .int 0, .int 0, .int 0, .int 0, .int 0])), ((ad7 1), .inl (cy 0, 36, .inl (fun _ => 0))), ((ad7 2), .inl (cy 0, 1024, .inl (fun _ => 0)))] _ _ _ _ _
  refine u_putF G (ci := 2) (T := TX2) 0 5 [(h0, .inr (2, [.ref r1, .ref q5, .ref q1, .ref q2, .ref (ad4 0), .ref (ad7 0), .int 0, .int 0, .int 0, .int 0, .int 0, .int 0, .int 0, .int 0, .int 0])), (q1, .inl (cy 0, 2048, .inl (fun _ => 0))), (q2, .inl (cy 0, 7, .inl (fun _ => 0))), ((ad4 0), .inr (5, [.ref (ad4 1), .ref (ad4 2), .ref (ad4 3), .ref (ad4 4), .int 0, .int 0])), ((ad4 1), .inl (cy 0, 400, .inl (fun _ => 0))), ((ad4 2), .inl (cy 0, 400, .inl (fun _ => 0))), ((ad4 3), .inl (cy 0, 400, .inl (fun _ => 0))), ((ad4 4), .inr (0, [.ref (ad4 5)])), ((ad4 5), .inl (cy 0, 6400, .inl (fun _ => 0))), (q5, .inl (cy 0, 6219, .inl (fun _ => 0))), ((ad7 0), .inr (1, [.ref r1, .ref (ad7 1), .ref (ad7 2), .ref q5, .int 0, .int 0, .int 0, .int 0, .int 0, .int 0])), ((ad7 1), .inl (cy 0, 36, .inl (fun _ => 0))), ((ad7 2), .inl (cy 0, 1024, .inl (fun _ => 0)))] dX2_init_58 inX2 tyX2_ok nmX2 rfl rfl (by decide) w1_164 rfl rfl rfl rfl (Nat.le_of_ble_eq_true rfl) rfl ?_
  refine u_aload_n G 1 dX2_init_61 rfl ?_
  refine u_iconst G (v := (0 : Int32)) dX2_init_62 (by decide) ?_
  refine u_put G (ci := 2) (T := TX2) 0 7 [(h0, .inr (2, [.ref r1, .ref q5, .ref q1, .ref q2, .ref (ad4 0), .ref (ad7 0), .int 0, .int 0, .int 0, .int 0, .int 0, .int 0, .int 0, .int 0, .int 0])), (q1, .inl (cy 0, 2048, .inl (fun _ => 0))), (q2, .inl (cy 0, 7, .inl (fun _ => 0))), ((ad4 0), .inr (5, [.ref (ad4 1), .ref (ad4 2), .ref (ad4 3), .ref (ad4 4), .int 0, .int 0])), ((ad4 1), .inl (cy 0, 400, .inl (fun _ => 0))), ((ad4 2), .inl (cy 0, 400, .inl (fun _ => 0))), ((ad4 3), .inl (cy 0, 400, .inl (fun _ => 0))), ((ad4 4), .inr (0, [.ref (ad4 5)])), ((ad4 5), .inl (cy 0, 6400, .inl (fun _ => 0))), (q5, .inl (cy 0, 6219, .inl (fun _ => 0))), ((ad7 0), .inr (1, [.ref r1, .ref (ad7 1), .ref (ad7 2), .ref q5, .int 0, .int 0, .int 0, .int 0, .int 0, .int 0])), ((ad7 1), .inl (cy 0, 36, .inl (fun _ => 0))), ((ad7 2), .inl (cy 0, 1024, .inl (fun _ => 0)))] dX2_init_63 inX2 tyX2_ok nmX2 rfl rfl (by decide) w1_166 rfl rfl rfl (Nat.le_of_ble_eq_true rfl) rfl ?_
  exact u_vret (sz := 0) G (fun k => ([h0, q1, q2, (ad4 0), (ad4 1), (ad4 2), (ad4 3), (ad4 4), (ad4 5), q5, (ad7 0), (ad7 1), (ad7 2)] : List Nat).getD k 0) dX2_init_66 rfl [0, 1, 2, 3, 4, 5, 6, 7, 8, 9, 10, 11, 12] (by decide) rfl rfl
/-! SensorNode$PlainMachine.<init> -/
set_option linter.unusedVariables false in
set_option maxHeartbeats 4000000 in
set_option maxRecDepth 100000 in
theorem c_P_init (l : Launch) (D : va_G) (cy : Nat → ClassId) (h0 : Nat) (r1 : Nat) : ConI l D cy yX3_init cX3_init 3 (rmi 3 10 10725) h0 (.inr (3, blX3)) [.ref r1] (fun ad => [((ad 0), .inr (3, [.ref r1, .ref (ad 7), .ref (ad 8), .ref (ad 1), .int 0, .int 0])), ((ad 1), .inr (5, [.ref (ad 2), .ref (ad 3), .ref (ad 4), .ref (ad 5), .int 0, .int 0])), ((ad 2), .inl (cy 0, 400, .inl (fun _ => 0))), ((ad 3), .inl (cy 0, 400, .inl (fun _ => 0))), ((ad 4), .inl (cy 0, 400, .inl (fun _ => 0))), ((ad 5), .inr (0, [.ref (ad 6)])), ((ad 6), .inl (cy 0, 6400, .inl (fun _ => 0))), ((ad 7), .inl (cy 0, 2048, .inl (fun _ => 0))), ((ad 8), .inr (1, [.ref r1, .ref (ad 9), .ref (ad 10), .ref (ad 7), .int 0, .int 0, .int 0, .int 0, .int 0, .int 0])), ((ad 9), .inl (cy 0, 36, .inl (fun _ => 0))), ((ad 10), .inl (cy 0, 1024, .inl (fun _ => 0)))]) := by
  refine conI_of (by decide) rfl (Nat.le_of_ble_eq_true rfl) (lv := [(0, .ref h0), (1, .ref r1)]) rfl ?_
  intro p e s m below meth c G
  have G : uG p s m _ meth c D cy (va_A [(h0, (.inr (3, blX3)))] s.heap.size) "SensorNode$PlainMachine" cX3_init 3 := G
  show U _ _ _ _ _ _ _ _ _ _ _ _ _ _ [(h0, .inr (3, [.null, .null, .null, .null, .int 0, .int 0]))] _ _ _ _ _
  refine u_aload_n G 0 dX3_init_0 rfl ?_
  refine u_objInit G dX3_init_1 w1_210 w1_18 w1_19 (by decide) (by decide) ?_
  refine u_aload_n G 0 dX3_init_4 rfl ?_
  refine u_new G (ci := 5) blX5 dX3_init_5 inX5 tyX5_ok w1_211 w1_96 w1_6 rfl blX5_ok (by decide) (by decide) (fun q1 => ?_)
  show U _ _ _ _ _ _ _ _ _ _ _ _ _ _ [(h0, .inr (3, [.null, .null, .null, .null, .int 0, .int 0])), (q1, .inr (5, [.null, .null, .null, .null, .int 0, .int 0]))] _ _ _ _ _
  refine u_dup G dX3_init_8 rfl ?_
  refine u_callN G (kq := 1) (As := []) (st := [.ref q1, .ref h0]) (c_R_init l D cy q1 ) rfl [0] [(h0, .inr (3, [.null, .null, .null, .null, .int 0, .int 0]))] rfl (by decide) (by decide) (List.mem_of_getElem? (i := 3) rfl) w1_98 w1_6 w1_99 rfl qyX5_init (by decide) rfl (Nat.le_of_ble_eq_true rfl) dX3_init_9 (by decide) (fun ad2 had2 => ?_)
  subst had2
  show U _ _ _ _ _ _ _ _ _ _ _ _ _ _ [(h0, .inr (3, [.null, .null, .null, .null, .int 0, .int 0])), ((ad2 0), .inr (5, [.ref (ad2 1), .ref (ad2 2), .ref (ad2 3), .ref (ad2 4), .int 0, .int 0])), ((ad2 1), .inl (cy 0, 400, .inl (fun _ => 0))), ((ad2 2), .inl (cy 0, 400, .inl (fun _ => 0))), ((ad2 3), .inl (cy 0, 400, .inl (fun _ => 0))), ((ad2 4), .inr (0, [.ref (ad2 5)])), ((ad2 5), .inl (cy 0, 6400, .inl (fun _ => 0)))] _ _ _ _ _
  refine u_putF G (ci := 3) (T := TX3) 0 3 [(h0, .inr (3, [.null, .null, .null, .ref (ad2 0), .int 0, .int 0])), ((ad2 0), .inr (5, [.ref (ad2 1), .ref (ad2 2), .ref (ad2 3), .ref (ad2 4), .int 0, .int 0])), ((ad2 1), .inl (cy 0, 400, .inl (fun _ => 0))), ((ad2 2), .inl (cy 0, 400, .inl (fun _ => 0))), ((ad2 3), .inl (cy 0, 400, .inl (fun _ => 0))), ((ad2 4), .inr (0, [.ref (ad2 5)])), ((ad2 5), .inl (cy 0, 6400, .inl (fun _ => 0)))] dX3_init_12 inX3 tyX3_ok nmX3 rfl rfl (by decide) w1_218 rfl rfl rfl rfl (Nat.le_of_ble_eq_true rfl) rfl ?_
  refine u_aload_n G 0 dX3_init_15 rfl ?_
  refine u_aload_n G 1 dX3_init_16 rfl ?_
  refine u_putF G (ci := 3) (T := TX3) 0 0 [(h0, .inr (3, [.ref r1, .null, .null, .ref (ad2 0), .int 0, .int 0])), ((ad2 0), .inr (5, [.ref (ad2 1), .ref (ad2 2), .ref (ad2 3), .ref (ad2 4), .int 0, .int 0])), ((ad2 1), .inl (cy 0, 400, .inl (fun _ => 0))), ((ad2 2), .inl (cy 0, 400, .inl (fun _ => 0))), ((ad2 3), .inl (cy 0, 400, .inl (fun _ => 0))), ((ad2 4), .inr (0, [.ref (ad2 5)])), ((ad2 5), .inl (cy 0, 6400, .inl (fun _ => 0)))] dX3_init_17 inX3 tyX3_ok nmX3 rfl rfl (by decide) w1_215 rfl rfl rfl rfl (Nat.le_of_ble_eq_true rfl) rfl ?_
  refine u_sipush G (v := (2048 : Int32)) dX3_init_20 (by decide) ?_
  refine u_newa G 0 (ty := .int) (N := 2048) dX3_init_23 rfl rfl (fun _ h => h) w1_62 (fun _ => rfl) (by decide) (by decide) (by decide) (by decide) (by decide) (fun q3 => ?_)
  show U _ _ _ _ _ _ _ _ _ _ _ _ _ _ [(h0, .inr (3, [.ref r1, .null, .null, .ref (ad2 0), .int 0, .int 0])), ((ad2 0), .inr (5, [.ref (ad2 1), .ref (ad2 2), .ref (ad2 3), .ref (ad2 4), .int 0, .int 0])), ((ad2 1), .inl (cy 0, 400, .inl (fun _ => 0))), ((ad2 2), .inl (cy 0, 400, .inl (fun _ => 0))), ((ad2 3), .inl (cy 0, 400, .inl (fun _ => 0))), ((ad2 4), .inr (0, [.ref (ad2 5)])), ((ad2 5), .inl (cy 0, 6400, .inl (fun _ => 0))), (q3, .inl (cy 0, 2048, .inl (fun _ => 0)))] _ _ _ _ _
  refine u_astore_n G [(2, .ref q3), (0, .ref h0), (1, .ref r1)] dX3_init_25 (by decide) rfl ?_
  refine u_aload_n G 1 dX3_init_26 rfl ?_
  refine u_aload_n G 0 dX3_init_27 rfl ?_
  refine u_putF G (ci := 3) (T := TX3) 0 1 [(h0, .inr (3, [.ref r1, .ref q3, .null, .ref (ad2 0), .int 0, .int 0])), ((ad2 0), .inr (5, [.ref (ad2 1), .ref (ad2 2), .ref (ad2 3), .ref (ad2 4), .int 0, .int 0])), ((ad2 1), .inl (cy 0, 400, .inl (fun _ => 0))), ((ad2 2), .inl (cy 0, 400, .inl (fun _ => 0))), ((ad2 3), .inl (cy 0, 400, .inl (fun _ => 0))), ((ad2 4), .inr (0, [.ref (ad2 5)])), ((ad2 5), .inl (cy 0, 6400, .inl (fun _ => 0))), (q3, .inl (cy 0, 2048, .inl (fun _ => 0)))] dX3_init_28 inX3 tyX3_ok nmX3 rfl rfl (by decide) w1_216 rfl rfl rfl rfl (Nat.le_of_ble_eq_true rfl) rfl ?_
  refine u_aload_n G 1 dX3_init_31 rfl ?_
  refine u_new G (ci := 1) blX1 dX3_init_32 inX1 tyX1_ok w1_213 w1_123 w1_7 rfl blX1_ok (by decide) (by decide) (fun q4 => ?_)
  show U _ _ _ _ _ _ _ _ _ _ _ _ _ _ [(h0, .inr (3, [.ref r1, .ref q3, .null, .ref (ad2 0), .int 0, .int 0])), ((ad2 0), .inr (5, [.ref (ad2 1), .ref (ad2 2), .ref (ad2 3), .ref (ad2 4), .int 0, .int 0])), ((ad2 1), .inl (cy 0, 400, .inl (fun _ => 0))), ((ad2 2), .inl (cy 0, 400, .inl (fun _ => 0))), ((ad2 3), .inl (cy 0, 400, .inl (fun _ => 0))), ((ad2 4), .inr (0, [.ref (ad2 5)])), ((ad2 5), .inl (cy 0, 6400, .inl (fun _ => 0))), (q3, .inl (cy 0, 2048, .inl (fun _ => 0))), (q4, .inr (1, [.null, .null, .null, .null, .int 0, .int 0, .int 0, .int 0, .int 0, .int 0]))] _ _ _ _ _
  refine u_dup G dX3_init_35 rfl ?_
  refine u_aload_n G 2 dX3_init_36 rfl ?_
  refine u_aload_n G 0 dX3_init_37 rfl ?_
  refine u_callI G (kq := 8) (As := [.ref r1, .ref q3]) (st := [.ref q4, .ref h0]) (c_G_init l D cy q4 r1 q3) rfl [0, 1, 2, 3, 4, 5, 6, 7] [(h0, .inr (3, [.ref r1, .ref q3, .null, .ref (ad2 0), .int 0, .int 0])), ((ad2 0), .inr (5, [.ref (ad2 1), .ref (ad2 2), .ref (ad2 3), .ref (ad2 4), .int 0, .int 0])), ((ad2 1), .inl (cy 0, 400, .inl (fun _ => 0))), ((ad2 2), .inl (cy 0, 400, .inl (fun _ => 0))), ((ad2 3), .inl (cy 0, 400, .inl (fun _ => 0))), ((ad2 4), .inr (0, [.ref (ad2 5)])), ((ad2 5), .inl (cy 0, 6400, .inl (fun _ => 0))), (q3, .inl (cy 0, 2048, .inl (fun _ => 0)))] rfl (by decide) (by decide) w1_214 w1_125 w1_7 w1_126 rfl qyX1_init (by decide) rfl (Nat.le_of_ble_eq_true rfl) dX3_init_38 (by decide) (fun ad5 had5 => ?_)
  subst had5
  show U _ _ _ _ _ _ _ _ _ _ _ _ _ _ [(h0, .inr (3, [.ref r1, .ref q3, .null, .ref (ad2 0), .int 0, .int 0])), ((ad2 0), .inr (5, [.ref (ad2 1), .ref (ad2 2), .ref (ad2 3), .ref (ad2 4), .int 0, .int 0])), ((ad2 1), .inl (cy 0, 400, .inl (fun _ => 0))), ((ad2 2), .inl (cy 0, 400, .inl (fun _ => 0))), ((ad2 3), .inl (cy 0, 400, .inl (fun _ => 0))), ((ad2 4), .inr (0, [.ref (ad2 5)])), ((ad2 5), .inl (cy 0, 6400, .inl (fun _ => 0))), (q3, .inl (cy 0, 2048, .inl (fun _ => 0))), ((ad5 0), .inr (1, [.ref r1, .ref (ad5 1), .ref (ad5 2), .ref q3, .int 0, .int 0, .int 0, .int 0, .int 0, .int 0])), ((ad5 1), .inl (cy 0, 36, .inl (fun _ => 0))), ((ad5 2), .inl (cy 0, 1024, .inl (fun _ => 0)))] _ _ _ _ _
  refine u_putF G (ci := 3) (T := TX3) 0 2 [(h0, .inr (3, [.ref r1, .ref q3, .ref (ad5 0), .ref (ad2 0), .int 0, .int 0])), ((ad2 0), .inr (5, [.ref (ad2 1), .ref (ad2 2), .ref (ad2 3), .ref (ad2 4), .int 0, .int 0])), ((ad2 1), .inl (cy 0, 400, .inl (fun _ => 0))), ((ad2 2), .inl (cy 0, 400, .inl (fun _ => 0))), ((ad2 3), .inl (cy 0, 400, .inl (fun _ => 0))), ((ad2 4), .inr (0, [.ref (ad2 5)])), ((ad2 5), .inl (cy 0, 6400, .inl (fun _ => 0))), (q3, .inl (cy 0, 2048, .inl (fun _ => 0))), ((ad5 0), .inr (1, [.ref r1, .ref (ad5 1), .ref (ad5 2), .ref q3, .int 0, .int 0, .int 0, .int 0, .int 0, .int 0])), ((ad5 1), .inl (cy 0, 36, .inl (fun _ => 0))), ((ad5 2), .inl (cy 0, 1024, .inl (fun _ => 0)))] dX3_init_41 inX3 tyX3_ok nmX3 rfl rfl (by decide) w1_217 rfl rfl rfl rfl (Nat.le_of_ble_eq_true rfl) rfl ?_
  exact u_vret (sz := 0) G (fun k => ([h0, (ad2 0), (ad2 1), (ad2 2), (ad2 3), (ad2 4), (ad2 5), q3, (ad5 0), (ad5 1), (ad5 2)] : List Nat).getD k 0) dX3_init_44 rfl [0, 1, 2, 3, 4, 5, 6, 7, 8, 9, 10] (by decide) rfl rfl
/-! SensorNode.<init> -/
set_option linter.unusedVariables false in
set_option maxHeartbeats 4000000 in
set_option maxRecDepth 100000 in
theorem c_S_init (l : Launch) (D : va_G) (cy : Nat → ClassId) (h0 : Nat)  : ConI l D cy yX7_init cX7_init 2 (rmi 4 30 32808) h0 (.inr (7, blX7)) [] (fun ad => [((ad 0), .inr (7, [.ref (ad 4), .ref (ad 1), .ref (ad 7), .ref (ad 20)])), ((ad 1), .inr (4, [.ref (ad 2), .ref (ad 3), .int 0, .int 0, .int 0, .int 0, .int 0, .int 0, .int 0])), ((ad 2), .inl (cy 0, 2048, .inl (fun _ => 0))), ((ad 3), .inl (cy 0, 1000, .inl (fun _ => 0))), ((ad 4), .inr (6, [.ref (ad 5), .int 0, .int 0])), ((ad 5), .inr (0, [.ref (ad 6)])), ((ad 6), .inl (cy 0, 2050, .inl (fun _ => 0))), ((ad 7), .inr (2, [.ref (ad 1), .ref (ad 16), .ref (ad 8), .ref (ad 9), .ref (ad 10), .ref (ad 17), .int 0, .int 0, .int 0, .int 0, .int 0, .int 0, .int 0, .int 0, .int 0])), ((ad 8), .inl (cy 0, 2048, .inl (fun _ => 0))), ((ad 9), .inl (cy 0, 7, .inl (fun _ => 0))), ((ad 10), .inr (5, [.ref (ad 11), .ref (ad 12), .ref (ad 13), .ref (ad 14), .int 0, .int 0])), ((ad 11), .inl (cy 0, 400, .inl (fun _ => 0))), ((ad 12), .inl (cy 0, 400, .inl (fun _ => 0))), ((ad 13), .inl (cy 0, 400, .inl (fun _ => 0))), ((ad 14), .inr (0, [.ref (ad 15)])), ((ad 15), .inl (cy 0, 6400, .inl (fun _ => 0))), ((ad 16), .inl (cy 0, 6219, .inl (fun _ => 0))), ((ad 17), .inr (1, [.ref (ad 1), .ref (ad 18), .ref (ad 19), .ref (ad 16), .int 0, .int 0, .int 0, .int 0, .int 0, .int 0])), ((ad 18), .inl (cy 0, 36, .inl (fun _ => 0))), ((ad 19), .inl (cy 0, 1024, .inl (fun _ => 0))), ((ad 20), .inr (3, [.ref (ad 1), .ref (ad 27), .ref (ad 28), .ref (ad 21), .int 0, .int 0])), ((ad 21), .inr (5, [.ref (ad 22), .ref (ad 23), .ref (ad 24), .ref (ad 25), .int 0, .int 0])), ((ad 22), .inl (cy 0, 400, .inl (fun _ => 0))), ((ad 23), .inl (cy 0, 400, .inl (fun _ => 0))), ((ad 24), .inl (cy 0, 400, .inl (fun _ => 0))), ((ad 25), .inr (0, [.ref (ad 26)])), ((ad 26), .inl (cy 0, 6400, .inl (fun _ => 0))), ((ad 27), .inl (cy 0, 2048, .inl (fun _ => 0))), ((ad 28), .inr (1, [.ref (ad 1), .ref (ad 29), .ref (ad 30), .ref (ad 27), .int 0, .int 0, .int 0, .int 0, .int 0, .int 0])), ((ad 29), .inl (cy 0, 36, .inl (fun _ => 0))), ((ad 30), .inl (cy 0, 1024, .inl (fun _ => 0)))]) := by
  refine conI_of (by decide) rfl (Nat.le_of_ble_eq_true rfl) (lv := [(0, .ref h0)]) rfl ?_
  intro p e s m below meth c G
  have G : uG p s m _ meth c D cy (va_A [(h0, (.inr (7, blX7)))] s.heap.size) "SensorNode" cX7_init 2 := G
  show U _ _ _ _ _ _ _ _ _ _ _ _ _ _ [(h0, .inr (7, [.null, .null, .null, .null]))] _ _ _ _ _
  refine u_aload_n G 0 dX7_init_0 rfl ?_
  refine u_objInit G dX7_init_1 w1_17 w1_18 w1_19 (by decide) (by decide) ?_
  refine u_new G (ci := 4) blX4 dX7_init_4 inX4 tyX4_ok w1_20 w1_21 w1_2 rfl blX4_ok (by decide) (by decide) (fun q1 => ?_)
  show U _ _ _ _ _ _ _ _ _ _ _ _ _ _ [(h0, .inr (7, [.null, .null, .null, .null])), (q1, .inr (4, [.null, .null, .int 0, .int 0, .int 0, .int 0, .int 0, .int 0, .int 0]))] _ _ _ _ _
  refine u_dup G dX7_init_7 rfl ?_
  refine u_callN G (kq := 1) (As := []) (st := [.ref q1]) (c_L_init l D cy q1 ) rfl [0] [(h0, .inr (7, [.null, .null, .null, .null]))] rfl (by decide) (by decide) (List.mem_of_getElem? (i := 0) rfl) w1_23 w1_2 w1_24 rfl qyX4_init (by decide) rfl (Nat.le_of_ble_eq_true rfl) dX7_init_8 (by decide) (fun ad2 had2 => ?_)
  subst had2
  show U _ _ _ _ _ _ _ _ _ _ _ _ _ _ [(h0, .inr (7, [.null, .null, .null, .null])), ((ad2 0), .inr (4, [.ref (ad2 1), .ref (ad2 2), .int 0, .int 0, .int 0, .int 0, .int 0, .int 0, .int 0])), ((ad2 1), .inl (cy 0, 2048, .inl (fun _ => 0))), ((ad2 2), .inl (cy 0, 1000, .inl (fun _ => 0)))] _ _ _ _ _
  refine u_astore_n G [(1, .ref (ad2 0)), (0, .ref h0)] dX7_init_11 (by decide) rfl ?_
  refine u_aload_n G 1 dX7_init_12 rfl ?_
  refine u_new G (ci := 6) blX6 dX7_init_13 inX6 tyX6_ok w1_63 w1_64 w1_3 rfl blX6_ok (by decide) (by decide) (fun q3 => ?_)
  show U _ _ _ _ _ _ _ _ _ _ _ _ _ _ [(h0, .inr (7, [.null, .null, .null, .null])), ((ad2 0), .inr (4, [.ref (ad2 1), .ref (ad2 2), .int 0, .int 0, .int 0, .int 0, .int 0, .int 0, .int 0])), ((ad2 1), .inl (cy 0, 2048, .inl (fun _ => 0))), ((ad2 2), .inl (cy 0, 1000, .inl (fun _ => 0))), (q3, .inr (6, [.null, .int 0, .int 0]))] _ _ _ _ _
  refine u_dup G dX7_init_16 rfl ?_
  refine u_callN G (kq := 4) (As := []) (st := [.ref q3, .ref h0]) (c_T_init l D cy q3 ) rfl [0, 1, 2, 3] [(h0, .inr (7, [.null, .null, .null, .null])), ((ad2 0), .inr (4, [.ref (ad2 1), .ref (ad2 2), .int 0, .int 0, .int 0, .int 0, .int 0, .int 0, .int 0])), ((ad2 1), .inl (cy 0, 2048, .inl (fun _ => 0))), ((ad2 2), .inl (cy 0, 1000, .inl (fun _ => 0)))] rfl (by decide) (by decide) (List.mem_of_getElem? (i := 1) rfl) w1_66 w1_3 w1_67 rfl qyX6_init (by decide) rfl (Nat.le_of_ble_eq_true rfl) dX7_init_17 (by decide) (fun ad4 had4 => ?_)
  subst had4
  show U _ _ _ _ _ _ _ _ _ _ _ _ _ _ [(h0, .inr (7, [.null, .null, .null, .null])), ((ad2 0), .inr (4, [.ref (ad2 1), .ref (ad2 2), .int 0, .int 0, .int 0, .int 0, .int 0, .int 0, .int 0])), ((ad2 1), .inl (cy 0, 2048, .inl (fun _ => 0))), ((ad2 2), .inl (cy 0, 1000, .inl (fun _ => 0))), ((ad4 0), .inr (6, [.ref (ad4 1), .int 0, .int 0])), ((ad4 1), .inr (0, [.ref (ad4 2)])), ((ad4 2), .inl (cy 0, 2050, .inl (fun _ => 0)))] _ _ _ _ _
  refine u_putF G (ci := 7) (T := TX7) 0 0 [(h0, .inr (7, [.ref (ad4 0), .null, .null, .null])), ((ad2 0), .inr (4, [.ref (ad2 1), .ref (ad2 2), .int 0, .int 0, .int 0, .int 0, .int 0, .int 0, .int 0])), ((ad2 1), .inl (cy 0, 2048, .inl (fun _ => 0))), ((ad2 2), .inl (cy 0, 1000, .inl (fun _ => 0))), ((ad4 0), .inr (6, [.ref (ad4 1), .int 0, .int 0])), ((ad4 1), .inr (0, [.ref (ad4 2)])), ((ad4 2), .inl (cy 0, 2050, .inl (fun _ => 0)))] dX7_init_20 inX7 tyX7_ok nmX7 rfl rfl (by decide) w1_234 rfl rfl rfl rfl (Nat.le_of_ble_eq_true rfl) rfl ?_
  refine u_aload_n G 1 dX7_init_23 rfl ?_
  refine u_aload_n G 0 dX7_init_24 rfl ?_
  refine u_putF G (ci := 7) (T := TX7) 0 1 [(h0, .inr (7, [.ref (ad4 0), .ref (ad2 0), .null, .null])), ((ad2 0), .inr (4, [.ref (ad2 1), .ref (ad2 2), .int 0, .int 0, .int 0, .int 0, .int 0, .int 0, .int 0])), ((ad2 1), .inl (cy 0, 2048, .inl (fun _ => 0))), ((ad2 2), .inl (cy 0, 1000, .inl (fun _ => 0))), ((ad4 0), .inr (6, [.ref (ad4 1), .int 0, .int 0])), ((ad4 1), .inr (0, [.ref (ad4 2)])), ((ad4 2), .inl (cy 0, 2050, .inl (fun _ => 0)))] dX7_init_25 inX7 tyX7_ok nmX7 rfl rfl (by decide) w1_235 rfl rfl rfl rfl (Nat.le_of_ble_eq_true rfl) rfl ?_
  refine u_aload_n G 1 dX7_init_28 rfl ?_
  refine u_new G (ci := 2) blX2 dX7_init_29 inX2 tyX2_ok w1_89 w1_90 w1_5 rfl blX2_ok (by decide) (by decide) (fun q5 => ?_)
  show U _ _ _ _ _ _ _ _ _ _ _ _ _ _ [(h0, .inr (7, [.ref (ad4 0), .ref (ad2 0), .null, .null])), ((ad2 0), .inr (4, [.ref (ad2 1), .ref (ad2 2), .int 0, .int 0, .int 0, .int 0, .int 0, .int 0, .int 0])), ((ad2 1), .inl (cy 0, 2048, .inl (fun _ => 0))), ((ad2 2), .inl (cy 0, 1000, .inl (fun _ => 0))), ((ad4 0), .inr (6, [.ref (ad4 1), .int 0, .int 0])), ((ad4 1), .inr (0, [.ref (ad4 2)])), ((ad4 2), .inl (cy 0, 2050, .inl (fun _ => 0))), (q5, .inr (2, [.null, .null, .null, .null, .null, .null, .int 0, .int 0, .int 0, .int 0, .int 0, .int 0, .int 0, .int 0, .int 0]))] _ _ _ _ _
  refine u_dup G dX7_init_32 rfl ?_
  refine u_aload_n G 0 dX7_init_33 rfl ?_
  refine u_callI G (kq := 7) (As := [.ref (ad2 0)]) (st := [.ref q5, .ref h0]) (c_N_init l D cy q5 (ad2 0)) rfl [0, 1, 2, 3, 4, 5, 6] [(h0, .inr (7, [.ref (ad4 0), .ref (ad2 0), .null, .null])), ((ad2 0), .inr (4, [.ref (ad2 1), .ref (ad2 2), .int 0, .int 0, .int 0, .int 0, .int 0, .int 0, .int 0])), ((ad2 1), .inl (cy 0, 2048, .inl (fun _ => 0))), ((ad2 2), .inl (cy 0, 1000, .inl (fun _ => 0))), ((ad4 0), .inr (6, [.ref (ad4 1), .int 0, .int 0])), ((ad4 1), .inr (0, [.ref (ad4 2)])), ((ad4 2), .inl (cy 0, 2050, .inl (fun _ => 0)))] rfl (by decide) (by decide) w1_91 w1_92 w1_5 w1_93 rfl qyX2_init (by decide) rfl (Nat.le_of_ble_eq_true rfl) dX7_init_34 (by decide) (fun ad6 had6 => ?_)
  subst had6
  show U _ _ _ _ _ _ _ _ _ _ _ _ _ _ [(h0, .inr (7, [.ref (ad4 0), .ref (ad2 0), .null, .null])), ((ad2 0), .inr (4, [.ref (ad2 1), .ref (ad2 2), .int 0, .int 0, .int 0, .int 0, .int 0, .int 0, .int 0])), ((ad2 1), .inl (cy 0, 2048, .inl (fun _ => 0))), ((ad2 2), .inl (cy 0, 1000, .inl (fun _ => 0))), ((ad4 0), .inr (6, [.ref (ad4 1), .int 0, .int 0])), ((ad4 1), .inr (0, [.ref (ad4 2)])), ((ad4 2), .inl (cy 0, 2050, .inl (fun _ => 0))), ((ad6 0), .inr (2, [.ref (ad2 0), .ref (ad6 9), .ref (ad6 1), .ref (ad6 2), .ref (ad6 3), .ref (ad6 10), .int 0, .int 0, .int 0, .int 0, .int 0, .int 0, .int 0, .int 0, .int 0])), ((ad6 1), .inl (cy 0, 2048, .inl (fun _ => 0))), ((ad6 2), .inl (cy 0, 7, .inl (fun _ => 0))), ((ad6 3), .inr (5, [.ref (ad6 4), .ref (ad6 5), .ref (ad6 6), .ref (ad6 7), .int 0, .int 0])), ((ad6 4), .inl (cy 0, 400, .inl (fun _ => 0))), ((ad6 5), .inl (cy 0, 400, .inl (fun _ => 0))), ((ad6 6), .inl (cy 0, 400, .inl (fun _ => 0))), ((ad6 7), .inr (0, [.ref (ad6 8)])), ((ad6 8), .inl (cy 0, 6400, .inl (fun _ => 0))), ((ad6 9), .inl (cy 0, 6219, .inl (fun _ => 0))), ((ad6 10), .inr (1, [.ref (ad2 0), .ref (ad6 11), .ref (ad6 12), .ref (ad6 9), .int 0, .int 0, .int 0, .int 0, .int 0, .int 0])), ((ad6 11), .inl (cy 0, 36, .inl (fun _ => 0))), ((ad6 12), .inl (cy 0, 1024, .inl (fun _ => 0)))] _ _ _ _ _
  refine u_putF G (ci := 7) (T := TX7) 0 2 [(h0, .inr (7, [.ref (ad4 0), .ref (ad2 0), .ref (ad6 0), .null])), ((ad2 0), .inr (4, [.ref (ad2 1), .ref (ad2 2), .int 0, .int 0, .int 0, .int 0, .int 0, .int 0, .int 0])), ((ad2 1), .inl (cy 0, 2048, .inl (fun _ => 0))), ((ad2 2), .inl (cy 0, 1000, .inl (fun _ => 0))), ((ad4 0), .inr (6, [.ref (ad4 1), .int 0, .int 0])), ((ad4 1), .inr (0, [.ref (ad4 2)])), ((ad4 2), .inl (cy 0, 2050, .inl (fun _ => 0))), ((ad6 0), .inr (2, [.ref (ad2 0), .ref (ad6 9), .ref (ad6 1), .ref (ad6 2), .ref (ad6 3), .ref (ad6 10), .int 0, .int 0, .int 0, .int 0, .int 0, .int 0, .int 0, .int 0, .int 0])), ((ad6 1), .inl (cy 0, 2048, .inl (fun _ => 0))), ((ad6 2), .inl (cy 0, 7, .inl (fun _ => 0))), ((ad6 3), .inr (5, [.ref (ad6 4), .ref (ad6 5), .ref (ad6 6), .ref (ad6 7), .int 0, .int 0])), ((ad6 4), .inl (cy 0, 400, .inl (fun _ => 0))), ((ad6 5), .inl (cy 0, 400, .inl (fun _ => 0))), ((ad6 6), .inl (cy 0, 400, .inl (fun _ => 0))), ((ad6 7), .inr (0, [.ref (ad6 8)])), ((ad6 8), .inl (cy 0, 6400, .inl (fun _ => 0))), ((ad6 9), .inl (cy 0, 6219, .inl (fun _ => 0))), ((ad6 10), .inr (1, [.ref (ad2 0), .ref (ad6 11), .ref (ad6 12), .ref (ad6 9), .int 0, .int 0, .int 0, .int 0, .int 0, .int 0])), ((ad6 11), .inl (cy 0, 36, .inl (fun _ => 0))), ((ad6 12), .inl (cy 0, 1024, .inl (fun _ => 0)))] dX7_init_37 inX7 tyX7_ok nmX7 rfl rfl (by decide) w1_236 rfl rfl rfl rfl (Nat.le_of_ble_eq_true rfl) rfl ?_
  refine u_aload_n G 1 dX7_init_40 rfl ?_
  refine u_new G (ci := 3) blX3 dX7_init_41 inX3 tyX3_ok w1_205 w1_206 w1_8 rfl blX3_ok (by decide) (by decide) (fun q7 => ?_)
  show U _ _ _ _ _ _ _ _ _ _ _ _ _ _ [(h0, .inr (7, [.ref (ad4 0), .ref (ad2 0), .ref (ad6 0), .null])), ((ad2 0), .inr (4, [.ref (ad2 1), .ref (ad2 2), .int 0, .int 0, .int 0, .int 0, .int 0, .int 0, .int 0])), ((ad2 1), .inl (cy 0, 2048, .inl (fun _ => 0))), ((ad2 2), .inl (cy 0, 1000, .inl (fun _ => 0))), ((ad4 0), .inr (6, [.ref (ad4 1), .int 0, .int 0])), ((ad4 1), .inr (0, [.ref (ad4 2)])), ((ad4 2), .inl (cy 0, 2050, .inl (fun _ => 0))), ((ad6 0), .inr (2, [.ref (ad2 0), .ref (ad6 9), .ref (ad6 1), .ref (ad6 2), .ref (ad6 3), .ref (ad6 10), .int 0, .int 0, .int 0, .int 0, .int 0, .int 0, .int 0, .int 0, .int 0])), ((ad6 1), .inl (cy 0, 2048, .inl (fun _ => 0))), ((ad6 2), .inl (cy 0, 7, .inl (fun _ => 0))), ((ad6 3), .inr (5, [.ref (ad6 4), .ref (ad6 5), .ref (ad6 6), .ref (ad6 7), .int 0, .int 0])), ((ad6 4), .inl (cy 0, 400, .inl (fun _ => 0))), ((ad6 5), .inl (cy 0, 400, .inl (fun _ => 0))), ((ad6 6), .inl (cy 0, 400, .inl (fun _ => 0))), ((ad6 7), .inr (0, [.ref (ad6 8)])), ((ad6 8), .inl (cy 0, 6400, .inl (fun _ => 0))), ((ad6 9), .inl (cy 0, 6219, .inl (fun _ => 0))), ((ad6 10), .inr (1, [.ref (ad2 0), .ref (ad6 11), .ref (ad6 12), .ref (ad6 9), .int 0, .int 0, .int 0, .int 0, .int 0, .int 0])), ((ad6 11), .inl (cy 0, 36, .inl (fun _ => 0))), ((ad6 12), .inl (cy 0, 1024, .inl (fun _ => 0))), (q7, .inr (3, [.null, .null, .null, .null, .int 0, .int 0]))] _ _ _ _ _
  refine u_dup G dX7_init_44 rfl ?_
  refine u_aload_n G 0 dX7_init_45 rfl ?_
  refine u_callI G (kq := 20) (As := [.ref (ad2 0)]) (st := [.ref q7, .ref h0]) (c_P_init l D cy q7 (ad2 0)) rfl [0, 1, 2, 3, 4, 5, 6, 7, 8, 9, 10, 11, 12, 13, 14, 15, 16, 17, 18, 19] [(h0, .inr (7, [.ref (ad4 0), .ref (ad2 0), .ref (ad6 0), .null])), ((ad2 0), .inr (4, [.ref (ad2 1), .ref (ad2 2), .int 0, .int 0, .int 0, .int 0, .int 0, .int 0, .int 0])), ((ad2 1), .inl (cy 0, 2048, .inl (fun _ => 0))), ((ad2 2), .inl (cy 0, 1000, .inl (fun _ => 0))), ((ad4 0), .inr (6, [.ref (ad4 1), .int 0, .int 0])), ((ad4 1), .inr (0, [.ref (ad4 2)])), ((ad4 2), .inl (cy 0, 2050, .inl (fun _ => 0))), ((ad6 0), .inr (2, [.ref (ad2 0), .ref (ad6 9), .ref (ad6 1), .ref (ad6 2), .ref (ad6 3), .ref (ad6 10), .int 0, .int 0, .int 0, .int 0, .int 0, .int 0, .int 0, .int 0, .int 0])), ((ad6 1), .inl (cy 0, 2048, .inl (fun _ => 0))), ((ad6 2), .inl (cy 0, 7, .inl (fun _ => 0))), ((ad6 3), .inr (5, [.ref (ad6 4), .ref (ad6 5), .ref (ad6 6), .ref (ad6 7), .int 0, .int 0])), ((ad6 4), .inl (cy 0, 400, .inl (fun _ => 0))), ((ad6 5), .inl (cy 0, 400, .inl (fun _ => 0))), ((ad6 6), .inl (cy 0, 400, .inl (fun _ => 0))), ((ad6 7), .inr (0, [.ref (ad6 8)])), ((ad6 8), .inl (cy 0, 6400, .inl (fun _ => 0))), ((ad6 9), .inl (cy 0, 6219, .inl (fun _ => 0))), ((ad6 10), .inr (1, [.ref (ad2 0), .ref (ad6 11), .ref (ad6 12), .ref (ad6 9), .int 0, .int 0, .int 0, .int 0, .int 0, .int 0])), ((ad6 11), .inl (cy 0, 36, .inl (fun _ => 0))), ((ad6 12), .inl (cy 0, 1024, .inl (fun _ => 0)))] rfl (by decide) (by decide) w1_207 w1_208 w1_8 w1_209 rfl qyX3_init (by decide) rfl (Nat.le_of_ble_eq_true rfl) dX7_init_46 (by decide) (fun ad8 had8 => ?_)
  subst had8
  show U _ _ _ _ _ _ _ _ _ _ _ _ _ _ [(h0, .inr (7, [.ref (ad4 0), .ref (ad2 0), .ref (ad6 0), .null])), ((ad2 0), .inr (4, [.ref (ad2 1), .ref (ad2 2), .int 0, .int 0, .int 0, .int 0, .int 0, .int 0, .int 0])), ((ad2 1), .inl (cy 0, 2048, .inl (fun _ => 0))), ((ad2 2), .inl (cy 0, 1000, .inl (fun _ => 0))), ((ad4 0), .inr (6, [.ref (ad4 1), .int 0, .int 0])), ((ad4 1), .inr (0, [.ref (ad4 2)])), ((ad4 2), .inl (cy 0, 2050, .inl (fun _ => 0))), ((ad6 0), .inr (2, [.ref (ad2 0), .ref (ad6 9), .ref (ad6 1), .ref (ad6 2), .ref (ad6 3), .ref (ad6 10), .int 0, .int 0, .int 0, .int 0, .int 0, .int 0, .int 0, .int 0, .int 0])), ((ad6 1), .inl (cy 0, 2048, .inl (fun _ => 0))), ((ad6 2), .inl (cy 0, 7, .inl (fun _ => 0))), ((ad6 3), .inr (5, [.ref (ad6 4), .ref (ad6 5), .ref (ad6 6), .ref (ad6 7), .int 0, .int 0])), ((ad6 4), .inl (cy 0, 400, .inl (fun _ => 0))), ((ad6 5), .inl (cy 0, 400, .inl (fun _ => 0))), ((ad6 6), .inl (cy 0, 400, .inl (fun _ => 0))), ((ad6 7), .inr (0, [.ref (ad6 8)])), ((ad6 8), .inl (cy 0, 6400, .inl (fun _ => 0))), ((ad6 9), .inl (cy 0, 6219, .inl (fun _ => 0))), ((ad6 10), .inr (1, [.ref (ad2 0), .ref (ad6 11), .ref (ad6 12), .ref (ad6 9), .int 0, .int 0, .int 0, .int 0, .int 0, .int 0])), ((ad6 11), .inl (cy 0, 36, .inl (fun _ => 0))), ((ad6 12), .inl (cy 0, 1024, .inl (fun _ => 0))), ((ad8 0), .inr (3, [.ref (ad2 0), .ref (ad8 7), .ref (ad8 8), .ref (ad8 1), .int 0, .int 0])), ((ad8 1), .inr (5, [.ref (ad8 2), .ref (ad8 3), .ref (ad8 4), .ref (ad8 5), .int 0, .int 0])), ((ad8 2), .inl (cy 0, 400, .inl (fun _ => 0))), ((ad8 3), .inl (cy 0, 400, .inl (fun _ => 0))), ((ad8 4), .inl (cy 0, 400, .inl (fun _ => 0))), ((ad8 5), .inr (0, [.ref (ad8 6)])), ((ad8 6), .inl (cy 0, 6400, .inl (fun _ => 0))), ((ad8 7), .inl (cy 0, 2048, .inl (fun _ => 0))), ((ad8 8), .inr (1, [.ref (ad2 0), .ref (ad8 9), .ref (ad8 10), .ref (ad8 7), .int 0, .int 0, .int 0, .int 0, .int 0, .int 0])), ((ad8 9), .inl (cy 0, 36, .inl (fun _ => 0))), ((ad8 10), .inl (cy 0, 1024, .inl (fun _ => 0)))] _ _ _ _ _
  refine u_putF G (ci := 7) (T := TX7) 0 3 [(h0, .inr (7, [.ref (ad4 0), .ref (ad2 0), .ref (ad6 0), .ref (ad8 0)])), ((ad2 0), .inr (4, [.ref (ad2 1), .ref (ad2 2), .int 0, .int 0, .int 0, .int 0, .int 0, .int 0, .int 0])), ((ad2 1), .inl (cy 0, 2048, .inl (fun _ => 0))), ((ad2 2), .inl (cy 0, 1000, .inl (fun _ => 0))), ((ad4 0), .inr (6, [.ref (ad4 1), .int 0, .int 0])), ((ad4 1), .inr (0, [.ref (ad4 2)])), ((ad4 2), .inl (cy 0, 2050, .inl (fun _ => 0))), ((ad6 0), .inr (2, [.ref (ad2 0), .ref (ad6 9), .ref (ad6 1), .ref (ad6 2), .ref (ad6 3), .ref (ad6 10), .int 0, .int 0, .int 0, .int 0, .int 0, .int 0, .int 0, .int 0, .int 0])), ((ad6 1), .inl (cy 0, 2048, .inl (fun _ => 0))), ((ad6 2), .inl (cy 0, 7, .inl (fun _ => 0))), ((ad6 3), .inr (5, [.ref (ad6 4), .ref (ad6 5), .ref (ad6 6), .ref (ad6 7), .int 0, .int 0])), ((ad6 4), .inl (cy 0, 400, .inl (fun _ => 0))), ((ad6 5), .inl (cy 0, 400, .inl (fun _ => 0))), ((ad6 6), .inl (cy 0, 400, .inl (fun _ => 0))), ((ad6 7), .inr (0, [.ref (ad6 8)])), ((ad6 8), .inl (cy 0, 6400, .inl (fun _ => 0))), ((ad6 9), .inl (cy 0, 6219, .inl (fun _ => 0))), ((ad6 10), .inr (1, [.ref (ad2 0), .ref (ad6 11), .ref (ad6 12), .ref (ad6 9), .int 0, .int 0, .int 0, .int 0, .int 0, .int 0])), ((ad6 11), .inl (cy 0, 36, .inl (fun _ => 0))), ((ad6 12), .inl (cy 0, 1024, .inl (fun _ => 0))), ((ad8 0), .inr (3, [.ref (ad2 0), .ref (ad8 7), .ref (ad8 8), .ref (ad8 1), .int 0, .int 0])), ((ad8 1), .inr (5, [.ref (ad8 2), .ref (ad8 3), .ref (ad8 4), .ref (ad8 5), .int 0, .int 0])), ((ad8 2), .inl (cy 0, 400, .inl (fun _ => 0))), ((ad8 3), .inl (cy 0, 400, .inl (fun _ => 0))), ((ad8 4), .inl (cy 0, 400, .inl (fun _ => 0))), ((ad8 5), .inr (0, [.ref (ad8 6)])), ((ad8 6), .inl (cy 0, 6400, .inl (fun _ => 0))), ((ad8 7), .inl (cy 0, 2048, .inl (fun _ => 0))), ((ad8 8), .inr (1, [.ref (ad2 0), .ref (ad8 9), .ref (ad8 10), .ref (ad8 7), .int 0, .int 0, .int 0, .int 0, .int 0, .int 0])), ((ad8 9), .inl (cy 0, 36, .inl (fun _ => 0))), ((ad8 10), .inl (cy 0, 1024, .inl (fun _ => 0)))] dX7_init_49 inX7 tyX7_ok nmX7 rfl rfl (by decide) w1_237 rfl rfl rfl rfl (Nat.le_of_ble_eq_true rfl) rfl ?_
  exact u_vret (sz := 0) G (fun k => ([h0, (ad2 0), (ad2 1), (ad2 2), (ad4 0), (ad4 1), (ad4 2), (ad6 0), (ad6 1), (ad6 2), (ad6 3), (ad6 4), (ad6 5), (ad6 6), (ad6 7), (ad6 8), (ad6 9), (ad6 10), (ad6 11), (ad6 12), (ad8 0), (ad8 1), (ad8 2), (ad8 3), (ad8 4), (ad8 5), (ad8 6), (ad8 7), (ad8 8), (ad8 9), (ad8 10)] : List Nat).getD k 0) dX7_init_52 rfl [0, 1, 2, 3, 4, 5, 6, 7, 8, 9, 10, 11, 12, 13, 14, 15, 16, 17, 18, 19, 20, 21, 22, 23, 24, 25, 26, 27, 28, 29, 30] (by decide) rfl rfl
/-! SensorNodeModel$Air.<init> -/
set_option linter.unusedVariables false in
set_option maxHeartbeats 4000000 in
set_option maxRecDepth 100000 in
theorem c_A_init (l : Launch) (D : va_G) (cy : Nat → ClassId) (h0 : Nat)  : ConI l D cy yX8_init cX8_init 1 (rmi 1 4 26800) h0 (.inr (8, blX8)) [] (fun ad => [((ad 0), .inr (8, [.int 0, .ref (ad 1), .ref (ad 2), .ref (ad 3), .ref (ad 4)])), ((ad 1), .inl (cy 0, 400, .inl (fun _ => 0))), ((ad 2), .inl (cy 0, 400, .inl (fun _ => 0))), ((ad 3), .inl (cy 0, 400, .inl (fun _ => 0))), ((ad 4), .inl (cy 1, 25600, .inl (fun _ => 0)))]) := by
  refine conI_of (by decide) rfl (Nat.le_of_ble_eq_true rfl) (lv := [(0, .ref h0)]) rfl ?_
  intro p e s m below meth c G
  have G : uG p s m _ meth c D cy (va_A [(h0, (.inr (8, blX8)))] s.heap.size) "SensorNodeModel$Air" cX8_init 1 := G
  show U _ _ _ _ _ _ _ _ _ _ _ _ _ _ [(h0, .inr (8, [.int 0, .null, .null, .null, .null]))] _ _ _ _ _
  refine u_aload_n G 0 dX8_init_0 rfl ?_
  refine u_objInit G dX8_init_1 w4_68 w1_18 w1_19 (by decide) (by decide) ?_
  refine u_aload_n G 0 dX8_init_4 rfl ?_
  refine u_sipush G (v := (400 : Int32)) dX8_init_5 (by decide) ?_
  refine u_newa G 0 (ty := .int) (N := 400) dX8_init_8 rfl rfl (fun _ h => h) w1_62 (fun _ => rfl) (by decide) (by decide) (by decide) (by decide) (by decide) (fun q1 => ?_)
  show U _ _ _ _ _ _ _ _ _ _ _ _ _ _ [(h0, .inr (8, [.int 0, .null, .null, .null, .null])), (q1, .inl (cy 0, 400, .inl (fun _ => 0)))] _ _ _ _ _
  refine u_putF G (ci := 8) (T := TX8) 0 1 [(h0, .inr (8, [.int 0, .ref q1, .null, .null, .null])), (q1, .inl (cy 0, 400, .inl (fun _ => 0)))] dX8_init_10 inX8 tyX8_ok nmX8 rfl rfl (by decide) w4_72 rfl rfl rfl rfl (Nat.le_of_ble_eq_true rfl) rfl ?_
  refine u_aload_n G 0 dX8_init_13 rfl ?_
  refine u_sipush G (v := (400 : Int32)) dX8_init_14 (by decide) ?_
  refine u_newa G 0 (ty := .int) (N := 400) dX8_init_17 rfl rfl (fun _ h => h) w1_62 (fun _ => rfl) (by decide) (by decide) (by decide) (by decide) (by decide) (fun q2 => ?_)
  show U _ _ _ _ _ _ _ _ _ _ _ _ _ _ [(h0, .inr (8, [.int 0, .ref q1, .null, .null, .null])), (q1, .inl (cy 0, 400, .inl (fun _ => 0))), (q2, .inl (cy 0, 400, .inl (fun _ => 0)))] _ _ _ _ _
  refine u_putF G (ci := 8) (T := TX8) 0 2 [(h0, .inr (8, [.int 0, .ref q1, .ref q2, .null, .null])), (q1, .inl (cy 0, 400, .inl (fun _ => 0))), (q2, .inl (cy 0, 400, .inl (fun _ => 0)))] dX8_init_19 inX8 tyX8_ok nmX8 rfl rfl (by decide) w4_75 rfl rfl rfl rfl (Nat.le_of_ble_eq_true rfl) rfl ?_
  refine u_aload_n G 0 dX8_init_22 rfl ?_
  refine u_sipush G (v := (400 : Int32)) dX8_init_23 (by decide) ?_
  refine u_newa G 0 (ty := .int) (N := 400) dX8_init_26 rfl rfl (fun _ h => h) w1_62 (fun _ => rfl) (by decide) (by decide) (by decide) (by decide) (by decide) (fun q3 => ?_)
  show U _ _ _ _ _ _ _ _ _ _ _ _ _ _ [(h0, .inr (8, [.int 0, .ref q1, .ref q2, .null, .null])), (q1, .inl (cy 0, 400, .inl (fun _ => 0))), (q2, .inl (cy 0, 400, .inl (fun _ => 0))), (q3, .inl (cy 0, 400, .inl (fun _ => 0)))] _ _ _ _ _
  refine u_putF G (ci := 8) (T := TX8) 0 3 [(h0, .inr (8, [.int 0, .ref q1, .ref q2, .ref q3, .null])), (q1, .inl (cy 0, 400, .inl (fun _ => 0))), (q2, .inl (cy 0, 400, .inl (fun _ => 0))), (q3, .inl (cy 0, 400, .inl (fun _ => 0)))] dX8_init_28 inX8 tyX8_ok nmX8 rfl rfl (by decide) w4_78 rfl rfl rfl rfl (Nat.le_of_ble_eq_true rfl) rfl ?_
  refine u_aload_n G 0 dX8_init_31 rfl ?_
  refine u_sipush G (v := (25600 : Int32)) dX8_init_32 (by decide) ?_
  refine u_newa G 1 (ty := .byte) (N := 25600) dX8_init_35 rfl rfl (fun _ h => h) w4_94 (fun _ => rfl) (by decide) (by decide) (by decide) (by decide) (by decide) (fun q4 => ?_)
  show U _ _ _ _ _ _ _ _ _ _ _ _ _ _ [(h0, .inr (8, [.int 0, .ref q1, .ref q2, .ref q3, .null])), (q1, .inl (cy 0, 400, .inl (fun _ => 0))), (q2, .inl (cy 0, 400, .inl (fun _ => 0))), (q3, .inl (cy 0, 400, .inl (fun _ => 0))), (q4, .inl (cy 1, 25600, .inl (fun _ => 0)))] _ _ _ _ _
  refine u_putF G (ci := 8) (T := TX8) 0 4 [(h0, .inr (8, [.int 0, .ref q1, .ref q2, .ref q3, .ref q4])), (q1, .inl (cy 0, 400, .inl (fun _ => 0))), (q2, .inl (cy 0, 400, .inl (fun _ => 0))), (q3, .inl (cy 0, 400, .inl (fun _ => 0))), (q4, .inl (cy 1, 25600, .inl (fun _ => 0)))] dX8_init_37 inX8 tyX8_ok nmX8 rfl rfl (by decide) w4_81 rfl rfl rfl rfl (Nat.le_of_ble_eq_true rfl) rfl ?_
  exact u_vret (sz := 0) G (fun k => ([h0, q1, q2, q3, q4] : List Nat).getD k 0) dX8_init_40 rfl [0, 1, 2, 3, 4] (by decide) rfl rfl
/-! SensorNodeModel$Guest.<init> -/
set_option linter.unusedVariables false in
set_option maxHeartbeats 4000000 in
set_option maxRecDepth 100000 in
theorem c_H_init (l : Launch) (D : va_G) (cy : Nat → ClassId) (h0 : Nat) (r1 : Nat) : ConI l D cy yX9_init cX9_init 2 (rmi 1 2 1056) h0 (.inr (9, blX9)) [.ref r1] (fun ad => [((ad 0), .inr (9, [.ref (ad 1), .int 0, .int 0, .int 0, .int 0, .ref (ad 2), .int 0, .int 0, .null, .int 0, .ref r1, .int 0, .int 0, .int 0, .int 0, .int 0, .int 0, .int 0, .int 0, .int 0])), ((ad 1), .inl (cy 0, 32, .inl (fun _ => 0))), ((ad 2), .inl (cy 0, 1024, .inl (fun _ => 0)))]) := by
  refine conI_of (by decide) rfl (Nat.le_of_ble_eq_true rfl) (lv := [(0, .ref h0), (1, .ref r1)]) rfl ?_
  intro p e s m below meth c G
  have G : uG p s m _ meth c D cy (va_A [(h0, (.inr (9, blX9)))] s.heap.size) "SensorNodeModel$Guest" cX9_init 2 := G
  show U _ _ _ _ _ _ _ _ _ _ _ _ _ _ [(h0, .inr (9, [.null, .int 0, .int 0, .int 0, .int 0, .null, .int 0, .int 0, .null, .int 0, .null, .int 0, .int 0, .int 0, .int 0, .int 0, .int 0, .int 0, .int 0, .int 0]))] _ _ _ _ _
  refine u_aload_n G 0 dX9_init_0 rfl ?_
  refine u_objInit G dX9_init_1 w3_227 w1_18 w1_19 (by decide) (by decide) ?_
  refine u_aload_n G 0 dX9_init_4 rfl ?_
  refine u_bipush G (v := (32 : Int32)) dX9_init_5 (by decide) ?_
  refine u_newa G 0 (ty := .int) (N := 32) dX9_init_7 rfl rfl (fun _ h => h) w1_62 (fun _ => rfl) (by decide) (by decide) (by decide) (by decide) (by decide) (fun q1 => ?_)
  show U _ _ _ _ _ _ _ _ _ _ _ _ _ _ [(h0, .inr (9, [.null, .int 0, .int 0, .int 0, .int 0, .null, .int 0, .int 0, .null, .int 0, .null, .int 0, .int 0, .int 0, .int 0, .int 0, .int 0, .int 0, .int 0, .int 0])), (q1, .inl (cy 0, 32, .inl (fun _ => 0)))] _ _ _ _ _
  refine u_putF G (ci := 9) (T := TX9) 0 0 [(h0, .inr (9, [.ref q1, .int 0, .int 0, .int 0, .int 0, .null, .int 0, .int 0, .null, .int 0, .null, .int 0, .int 0, .int 0, .int 0, .int 0, .int 0, .int 0, .int 0, .int 0])), (q1, .inl (cy 0, 32, .inl (fun _ => 0)))] dX9_init_9 inX9 tyX9_ok nmX9 rfl rfl (by decide) w3_228 rfl rfl rfl rfl (Nat.le_of_ble_eq_true rfl) rfl ?_
  refine u_aload_n G 0 dX9_init_12 rfl ?_
  refine u_sipush G (v := (1024 : Int32)) dX9_init_13 (by decide) ?_
  refine u_newa G 0 (ty := .int) (N := 1024) dX9_init_16 rfl rfl (fun _ h => h) w1_62 (fun _ => rfl) (by decide) (by decide) (by decide) (by decide) (by decide) (fun q2 => ?_)
  show U _ _ _ _ _ _ _ _ _ _ _ _ _ _ [(h0, .inr (9, [.ref q1, .int 0, .int 0, .int 0, .int 0, .null, .int 0, .int 0, .null, .int 0, .null, .int 0, .int 0, .int 0, .int 0, .int 0, .int 0, .int 0, .int 0, .int 0])), (q1, .inl (cy 0, 32, .inl (fun _ => 0))), (q2, .inl (cy 0, 1024, .inl (fun _ => 0)))] _ _ _ _ _
  refine u_putF G (ci := 9) (T := TX9) 0 5 [(h0, .inr (9, [.ref q1, .int 0, .int 0, .int 0, .int 0, .ref q2, .int 0, .int 0, .null, .int 0, .null, .int 0, .int 0, .int 0, .int 0, .int 0, .int 0, .int 0, .int 0, .int 0])), (q1, .inl (cy 0, 32, .inl (fun _ => 0))), (q2, .inl (cy 0, 1024, .inl (fun _ => 0)))] dX9_init_18 inX9 tyX9_ok nmX9 rfl rfl (by decide) w3_238 rfl rfl rfl rfl (Nat.le_of_ble_eq_true rfl) rfl ?_
  refine u_aload_n G 0 dX9_init_21 rfl ?_
  refine u_aload_n G 1 dX9_init_22 rfl ?_
  refine u_putF G (ci := 9) (T := TX9) 0 10 [(h0, .inr (9, [.ref q1, .int 0, .int 0, .int 0, .int 0, .ref q2, .int 0, .int 0, .null, .int 0, .ref r1, .int 0, .int 0, .int 0, .int 0, .int 0, .int 0, .int 0, .int 0, .int 0])), (q1, .inl (cy 0, 32, .inl (fun _ => 0))), (q2, .inl (cy 0, 1024, .inl (fun _ => 0)))] dX9_init_23 inX9 tyX9_ok nmX9 rfl rfl (by decide) w4_8 rfl rfl rfl rfl (Nat.le_of_ble_eq_true rfl) rfl ?_
  exact u_vret (sz := 0) G (fun k => ([h0, q1, q2] : List Nat).getD k 0) dX9_init_26 rfl [0, 1, 2] (by decide) rfl rfl
/-! SensorNodeModel.<init> -/
set_option linter.unusedVariables false in
set_option maxHeartbeats 4000000 in
set_option maxRecDepth 100000 in
theorem c_M_init (l : Launch) (D : va_G) (cy : Nat → ClassId) (h0 : Nat)  : ConI l D cy yX10_init cX10_init 1 (rmi 2 22 77325) h0 (.inr (10, blX10)) [] (fun ad => [((ad 0), .inr (10, [.int 0, .int 0, .int 0, .int 0, .int 0, .int 0, .int 0, .int 0, .int 0, .int 0, .int 0, .ref (ad 1), .ref (ad 2), .ref (ad 3), .ref (ad 4), .ref (ad 7), .ref (ad 10), .int 0, .ref (ad 11), .ref (ad 16), .int 0, .int 0, .int 0, .int 0, .ref (ad 21), .int 0, .int 0, .int 0, .int 0, .int 0, .int 0, .int 0, .int 0, .ref (ad 22), .int 0, .int 0])), ((ad 1), .inl (cy 0, 6219, .inl (fun _ => 0))), ((ad 2), .inl (cy 0, 2048, .inl (fun _ => 0))), ((ad 3), .inl (cy 0, 1000, .inl (fun _ => 0))), ((ad 4), .inr (9, [.ref (ad 5), .int 0, .int 0, .int 0, .int 0, .ref (ad 6), .int 0, .int 0, .null, .int 0, .ref (ad 3), .int 0, .int 0, .int 0, .int 0, .int 0, .int 0, .int 0, .int 0, .int 0])), ((ad 5), .inl (cy 0, 32, .inl (fun _ => 0))), ((ad 6), .inl (cy 0, 1024, .inl (fun _ => 0))), ((ad 7), .inr (9, [.ref (ad 8), .int 0, .int 0, .int 0, .int 0, .ref (ad 9), .int 0, .int 0, .null, .int 0, .ref (ad 3), .int 0, .int 0, .int 0, .int 0, .int 0, .int 0, .int 0, .int 0, .int 0])), ((ad 8), .inl (cy 0, 32, .inl (fun _ => 0))), ((ad 9), .inl (cy 0, 1024, .inl (fun _ => 0))), ((ad 10), .inl (cy 0, 2048, .inl (fun _ => 0))), ((ad 11), .inr (8, [.int 0, .ref (ad 12), .ref (ad 13), .ref (ad 14), .ref (ad 15)])), ((ad 12), .inl (cy 0, 400, .inl (fun _ => 0))), ((ad 13), .inl (cy 0, 400, .inl (fun _ => 0))), ((ad 14), .inl (cy 0, 400, .inl (fun _ => 0))), ((ad 15), .inl (cy 1, 25600, .inl (fun _ => 0))), ((ad 16), .inr (8, [.int 0, .ref (ad 17), .ref (ad 18), .ref (ad 19), .ref (ad 20)])), ((ad 17), .inl (cy 0, 400, .inl (fun _ => 0))), ((ad 18), .inl (cy 0, 400, .inl (fun _ => 0))), ((ad 19), .inl (cy 0, 400, .inl (fun _ => 0))), ((ad 20), .inl (cy 1, 25600, .inl (fun _ => 0))), ((ad 21), .inl (cy 2, 2048, .inl (fun _ => 0))), ((ad 22), .inl (cy 1, 8200, .inl (fun _ => 0)))]) := by
  refine conI_of (by decide) rfl (Nat.le_of_ble_eq_true rfl) (lv := [(0, .ref h0)]) rfl ?_
  intro p e s m below meth c G
  have G : uG p s m _ meth c D cy (va_A [(h0, (.inr (10, blX10)))] s.heap.size) "SensorNodeModel" cX10_init 1 := G
  show U _ _ _ _ _ _ _ _ _ _ _ _ _ _ [(h0, .inr (10, [.int 0, .int 0, .int 0, .int 0, .int 0, .int 0, .int 0, .int 0, .int 0, .int 0, .int 0, .null, .null, .null, .null, .null, .null, .int 0, .null, .null, .int 0, .int 0, .int 0, .int 0, .null, .int 0, .int 0, .int 0, .int 0, .int 0, .int 0, .int 0, .int 0, .null, .int 0, .int 0]))] _ _ _ _ _
  refine u_aload_n G 0 dX10_init_0 rfl ?_
  refine u_objInit G dX10_init_1 w3_221 w1_18 w1_19 (by decide) (by decide) ?_
  refine u_aload_n G 0 dX10_init_4 rfl ?_
  refine u_sipush G (v := (6219 : Int32)) dX10_init_5 (by decide) ?_
  refine u_newa G 0 (ty := .int) (N := 6219) dX10_init_8 rfl rfl (fun _ h => h) w1_62 (fun _ => rfl) (by decide) (by decide) (by decide) (by decide) (by decide) (fun q1 => ?_)
  show U _ _ _ _ _ _ _ _ _ _ _ _ _ _ [(h0, .inr (10, [.int 0, .int 0, .int 0, .int 0, .int 0, .int 0, .int 0, .int 0, .int 0, .int 0, .int 0, .null, .null, .null, .null, .null, .null, .int 0, .null, .null, .int 0, .int 0, .int 0, .int 0, .null, .int 0, .int 0, .int 0, .int 0, .int 0, .int 0, .int 0, .int 0, .null, .int 0, .int 0])), (q1, .inl (cy 0, 6219, .inl (fun _ => 0)))] _ _ _ _ _
  refine u_putF G (ci := 10) (T := TX10) 0 11 [(h0, .inr (10, [.int 0, .int 0, .int 0, .int 0, .int 0, .int 0, .int 0, .int 0, .int 0, .int 0, .int 0, .ref q1, .null, .null, .null, .null, .null, .int 0, .null, .null, .int 0, .int 0, .int 0, .int 0, .null, .int 0, .int 0, .int 0, .int 0, .int 0, .int 0, .int 0, .int 0, .null, .int 0, .int 0])), (q1, .inl (cy 0, 6219, .inl (fun _ => 0)))] dX10_init_10 inX10 tyX10_ok nmX10 rfl rfl (by decide) w4_106 rfl rfl rfl rfl (Nat.le_of_ble_eq_true rfl) rfl ?_
  refine u_aload_n G 0 dX10_init_13 rfl ?_
  refine u_sipush G (v := (2048 : Int32)) dX10_init_14 (by decide) ?_
  refine u_newa G 0 (ty := .int) (N := 2048) dX10_init_17 rfl rfl (fun _ h => h) w1_62 (fun _ => rfl) (by decide) (by decide) (by decide) (by decide) (by decide) (fun q2 => ?_)
  show U _ _ _ _ _ _ _ _ _ _ _ _ _ _ [(h0, .inr (10, [.int 0, .int 0, .int 0, .int 0, .int 0, .int 0, .int 0, .int 0, .int 0, .int 0, .int 0, .ref q1, .null, .null, .null, .null, .null, .int 0, .null, .null, .int 0, .int 0, .int 0, .int 0, .null, .int 0, .int 0, .int 0, .int 0, .int 0, .int 0, .int 0, .int 0, .null, .int 0, .int 0])), (q1, .inl (cy 0, 6219, .inl (fun _ => 0))), (q2, .inl (cy 0, 2048, .inl (fun _ => 0)))] _ _ _ _ _
  refine u_putF G (ci := 10) (T := TX10) 0 12 [(h0, .inr (10, [.int 0, .int 0, .int 0, .int 0, .int 0, .int 0, .int 0, .int 0, .int 0, .int 0, .int 0, .ref q1, .ref q2, .null, .null, .null, .null, .int 0, .null, .null, .int 0, .int 0, .int 0, .int 0, .null, .int 0, .int 0, .int 0, .int 0, .int 0, .int 0, .int 0, .int 0, .null, .int 0, .int 0])), (q1, .inl (cy 0, 6219, .inl (fun _ => 0))), (q2, .inl (cy 0, 2048, .inl (fun _ => 0)))] dX10_init_19 inX10 tyX10_ok nmX10 rfl rfl (by decide) w4_107 rfl rfl rfl rfl (Nat.le_of_ble_eq_true rfl) rfl ?_
  refine u_aload_n G 0 dX10_init_22 rfl ?_
  refine u_sipush G (v := (1000 : Int32)) dX10_init_23 (by decide) ?_
  refine u_newa G 0 (ty := .int) (N := 1000) dX10_init_26 rfl rfl (fun _ h => h) w1_62 (fun _ => rfl) (by decide) (by decide) (by decide) (by decide) (by decide) (fun q3 => ?_)
  show U _ _ _ _ _ _ _ _ _ _ _ _ _ _ [(h0, .inr (10, [.int 0, .int 0, .int 0, .int 0, .int 0, .int 0, .int 0, .int 0, .int 0, .int 0, .int 0, .ref q1, .ref q2, .null, .null, .null, .null, .int 0, .null, .null, .int 0, .int 0, .int 0, .int 0, .null, .int 0, .int 0, .int 0, .int 0, .int 0, .int 0, .int 0, .int 0, .null, .int 0, .int 0])), (q1, .inl (cy 0, 6219, .inl (fun _ => 0))), (q2, .inl (cy 0, 2048, .inl (fun _ => 0))), (q3, .inl (cy 0, 1000, .inl (fun _ => 0)))] _ _ _ _ _
  refine u_putF G (ci := 10) (T := TX10) 0 13 [(h0, .inr (10, [.int 0, .int 0, .int 0, .int 0, .int 0, .int 0, .int 0, .int 0, .int 0, .int 0, .int 0, .ref q1, .ref q2, .ref q3, .null, .null, .null, .int 0, .null, .null, .int 0, .int 0, .int 0, .int 0, .null, .int 0, .int 0, .int 0, .int 0, .int 0, .int 0, .int 0, .int 0, .null, .int 0, .int 0])), (q1, .inl (cy 0, 6219, .inl (fun _ => 0))), (q2, .inl (cy 0, 2048, .inl (fun _ => 0))), (q3, .inl (cy 0, 1000, .inl (fun _ => 0)))] dX10_init_28 inX10 tyX10_ok nmX10 rfl rfl (by decide) w4_108 rfl rfl rfl rfl (Nat.le_of_ble_eq_true rfl) rfl ?_
  refine u_aload_n G 0 dX10_init_31 rfl ?_
  refine u_new G (ci := 9) blX9 dX10_init_32 inX9 tyX9_ok w3_222 w3_223 w1_10 rfl blX9_ok (by decide) (by decide) (fun q4 => ?_)
  show U _ _ _ _ _ _ _ _ _ _ _ _ _ _ [(h0, .inr (10, [.int 0, .int 0, .int 0, .int 0, .int 0, .int 0, .int 0, .int 0, .int 0, .int 0, .int 0, .ref q1, .ref q2, .ref q3, .null, .null, .null, .int 0, .null, .null, .int 0, .int 0, .int 0, .int 0, .null, .int 0, .int 0, .int 0, .int 0, .int 0, .int 0, .int 0, .int 0, .null, .int 0, .int 0])), (q1, .inl (cy 0, 6219, .inl (fun _ => 0))), (q2, .inl (cy 0, 2048, .inl (fun _ => 0))), (q3, .inl (cy 0, 1000, .inl (fun _ => 0))), (q4, .inr (9, [.null, .int 0, .int 0, .int 0, .int 0, .null, .int 0, .int 0, .null, .int 0, .null, .int 0, .int 0, .int 0, .int 0, .int 0, .int 0, .int 0, .int 0, .int 0]))] _ _ _ _ _
  refine u_dup G dX10_init_35 rfl ?_
  refine u_aload_n G 0 dX10_init_36 rfl ?_
  refine u_get G (ci := 10) (T := TX10) 0 13 dX10_init_37 inX10 rfl rfl (by decide) w4_108 rfl ?_
  refine u_callI G (kq := 4) (As := [.ref q3]) (st := [.ref q4, .ref h0]) (c_H_init l D cy q4 q3) rfl [0, 1, 2, 3] [(h0, .inr (10, [.int 0, .int 0, .int 0, .int 0, .int 0, .int 0, .int 0, .int 0, .int 0, .int 0, .int 0, .ref q1, .ref q2, .ref q3, .null, .null, .null, .int 0, .null, .null, .int 0, .int 0, .int 0, .int 0, .null, .int 0, .int 0, .int 0, .int 0, .int 0, .int 0, .int 0, .int 0, .null, .int 0, .int 0])), (q1, .inl (cy 0, 6219, .inl (fun _ => 0))), (q2, .inl (cy 0, 2048, .inl (fun _ => 0))), (q3, .inl (cy 0, 1000, .inl (fun _ => 0)))] rfl (by decide) (by decide) w3_224 w3_225 w1_10 w3_226 rfl qyX9_init (by decide) rfl (Nat.le_of_ble_eq_true rfl) dX10_init_40 (by decide) (fun ad5 had5 => ?_)
  subst had5
  show U _ _ _ _ _ _ _ _ _ _ _ _ _ _ [(h0, .inr (10, [.int 0, .int 0, .int 0, .int 0, .int 0, .int 0, .int 0, .int 0, .int 0, .int 0, .int 0, .ref q1, .ref q2, .ref q3, .null, .null, .null, .int 0, .null, .null, .int 0, .int 0, .int 0, .int 0, .null, .int 0, .int 0, .int 0, .int 0, .int 0, .int 0, .int 0, .int 0, .null, .int 0, .int 0])), (q1, .inl (cy 0, 6219, .inl (fun _ => 0))), (q2, .inl (cy 0, 2048, .inl (fun _ => 0))), (q3, .inl (cy 0, 1000, .inl (fun _ => 0))), ((ad5 0), .inr (9, [.ref (ad5 1), .int 0, .int 0, .int 0, .int 0, .ref (ad5 2), .int 0, .int 0, .null, .int 0, .ref q3, .int 0, .int 0, .int 0, .int 0, .int 0, .int 0, .int 0, .int 0, .int 0])), ((ad5 1), .inl (cy 0, 32, .inl (fun _ => 0))), ((ad5 2), .inl (cy 0, 1024, .inl (fun _ => 0)))] _ _ _ _ _
  refine u_putF G (ci := 10) (T := TX10) 0 14 [(h0, .inr (10, [.int 0, .int 0, .int 0, .int 0, .int 0, .int 0, .int 0, .int 0, .int 0, .int 0, .int 0, .ref q1, .ref q2, .ref q3, .ref (ad5 0), .null, .null, .int 0, .null, .null, .int 0, .int 0, .int 0, .int 0, .null, .int 0, .int 0, .int 0, .int 0, .int 0, .int 0, .int 0, .int 0, .null, .int 0, .int 0])), (q1, .inl (cy 0, 6219, .inl (fun _ => 0))), (q2, .inl (cy 0, 2048, .inl (fun _ => 0))), (q3, .inl (cy 0, 1000, .inl (fun _ => 0))), ((ad5 0), .inr (9, [.ref (ad5 1), .int 0, .int 0, .int 0, .int 0, .ref (ad5 2), .int 0, .int 0, .null, .int 0, .ref q3, .int 0, .int 0, .int 0, .int 0, .int 0, .int 0, .int 0, .int 0, .int 0])), ((ad5 1), .inl (cy 0, 32, .inl (fun _ => 0))), ((ad5 2), .inl (cy 0, 1024, .inl (fun _ => 0)))] dX10_init_43 inX10 tyX10_ok nmX10 rfl rfl (by decide) w4_109 rfl rfl rfl rfl (Nat.le_of_ble_eq_true rfl) rfl ?_
  refine u_aload_n G 0 dX10_init_46 rfl ?_
  refine u_new G (ci := 9) blX9 dX10_init_47 inX9 tyX9_ok w3_222 w3_223 w1_10 rfl blX9_ok (by decide) (by decide) (fun q6 => ?_)
  show U _ _ _ _ _ _ _ _ _ _ _ _ _ _ [(h0, .inr (10, [.int 0, .int 0, .int 0, .int 0, .int 0, .int 0, .int 0, .int 0, .int 0, .int 0, .int 0, .ref q1, .ref q2, .ref q3, .ref (ad5 0), .null, .null, .int 0, .null, .null, .int 0, .int 0, .int 0, .int 0, .null, .int 0, .int 0, .int 0, .int 0, .int 0, .int 0, .int 0, .int 0, .null, .int 0, .int 0])), (q1, .inl (cy 0, 6219, .inl (fun _ => 0))), (q2, .inl (cy 0, 2048, .inl (fun _ => 0))), (q3, .inl (cy 0, 1000, .inl (fun _ => 0))), ((ad5 0), .inr (9, [.ref (ad5 1), .int 0, .int 0, .int 0, .int 0, .ref (ad5 2), .int 0, .int 0, .null, .int 0, .ref q3, .int 0, .int 0, .int 0, .int 0, .int 0, .int 0, .int 0, .int 0, .int 0])), ((ad5 1), .inl (cy 0, 32, .inl (fun _ => 0))), ((ad5 2), .inl (cy 0, 1024, .inl (fun _ => 0))), (q6, .inr (9, [.null, .int 0, .int 0, .int 0, .int 0, .null, .int 0, .int 0, .null, .int 0, .null, .int 0, .int 0, .int 0, .int 0, .int 0, .int 0, .int 0, .int 0, .int 0]))] _ _ _ _ _
  refine u_dup G dX10_init_50 rfl ?_
  refine u_aload_n G 0 dX10_init_51 rfl ?_
  refine u_get G (ci := 10) (T := TX10) 0 13 dX10_init_52 inX10 rfl rfl (by decide) w4_108 rfl ?_
  refine u_callI G (kq := 7) (As := [.ref q3]) (st := [.ref q6, .ref h0]) (c_H_init l D cy q6 q3) rfl [0, 1, 2, 3, 4, 5, 6] [(h0, .inr (10, [.int 0, .int 0, .int 0, .int 0, .int 0, .int 0, .int 0, .int 0, .int 0, .int 0, .int 0, .ref q1, .ref q2, .ref q3, .ref (ad5 0), .null, .null, .int 0, .null, .null, .int 0, .int 0, .int 0, .int 0, .null, .int 0, .int 0, .int 0, .int 0, .int 0, .int 0, .int 0, .int 0, .null, .int 0, .int 0])), (q1, .inl (cy 0, 6219, .inl (fun _ => 0))), (q2, .inl (cy 0, 2048, .inl (fun _ => 0))), (q3, .inl (cy 0, 1000, .inl (fun _ => 0))), ((ad5 0), .inr (9, [.ref (ad5 1), .int 0, .int 0, .int 0, .int 0, .ref (ad5 2), .int 0, .int 0, .null, .int 0, .ref q3, .int 0, .int 0, .int 0, .int 0, .int 0, .int 0, .int 0, .int 0, .int 0])), ((ad5 1), .inl (cy 0, 32, .inl (fun _ => 0))), ((ad5 2), .inl (cy 0, 1024, .inl (fun _ => 0)))] rfl (by decide) (by decide) w3_224 w3_225 w1_10 w3_226 rfl qyX9_init (by decide) rfl (Nat.le_of_ble_eq_true rfl) dX10_init_55 (by decide) (fun ad7 had7 => ?_)
  subst had7
  show U _ _ _ _ _ _ _ _ _ _ _ _ _ _ [(h0, .inr (10, [.int 0, .int 0, .int 0, .int 0, .int 0, .int 0, .int 0, .int 0, .int 0, .int 0, .int 0, .ref q1, .ref q2, .ref q3, .ref (ad5 0), .null, .null, .int 0, .null, .null, .int 0, .int 0, .int 0, .int 0, .null, .int 0, .int 0, .int 0, .int 0, .int 0, .int 0, .int 0, .int 0, .null, .int 0, .int 0])), (q1, .inl (cy 0, 6219, .inl (fun _ => 0))), (q2, .inl (cy 0, 2048, .inl (fun _ => 0))), (q3, .inl (cy 0, 1000, .inl (fun _ => 0))), ((ad5 0), .inr (9, [.ref (ad5 1), .int 0, .int 0, .int 0, .int 0, .ref (ad5 2), .int 0, .int 0, .null, .int 0, .ref q3, .int 0, .int 0, .int 0, .int 0, .int 0, .int 0, .int 0, .int 0, .int 0])), ((ad5 1), .inl (cy 0, 32, .inl (fun _ => 0))), ((ad5 2), .inl (cy 0, 1024, .inl (fun _ => 0))), ((ad7 0), .inr (9, [.ref (ad7 1), .int 0, .int 0, .int 0, .int 0, .ref (ad7 2), .int 0, .int 0, .null, .int 0, .ref q3, .int 0, .int 0, .int 0, .int 0, .int 0, .int 0, .int 0, .int 0, .int 0])), ((ad7 1), .inl (cy 0, 32, .inl (fun _ => 0))), ((ad7 2), .inl (cy 0, 1024, .inl (fun _ => 0)))] _ _ _ _ _
  refine u_putF G (ci := 10) (T := TX10) 0 15 [(h0, .inr (10, [.int 0, .int 0, .int 0, .int 0, .int 0, .int 0, .int 0, .int 0, .int 0, .int 0, .int 0, .ref q1, .ref q2, .ref q3, .ref (ad5 0), .ref (ad7 0), .null, .int 0, .null, .null, .int 0, .int 0, .int 0, .int 0, .null, .int 0, .int 0, .int 0, .int 0, .int 0, .int 0, .int 0, .int 0, .null, .int 0, .int 0])), (q1, .inl (cy 0, 6219, .inl (fun _ => 0))), (q2, .inl (cy 0, 2048, .inl (fun _ => 0))), (q3, .inl (cy 0, 1000, .inl (fun _ => 0))), ((ad5 0), .inr (9, [.ref (ad5 1), .int 0, .int 0, .int 0, .int 0, .ref (ad5 2), .int 0, .int 0, .null, .int 0, .ref q3, .int 0, .int 0, .int 0, .int 0, .int 0, .int 0, .int 0, .int 0, .int 0])), ((ad5 1), .inl (cy 0, 32, .inl (fun _ => 0))), ((ad5 2), .inl (cy 0, 1024, .inl (fun _ => 0))), ((ad7 0), .inr (9, [.ref (ad7 1), .int 0, .int 0, .int 0, .int 0, .ref (ad7 2), .int 0, .int 0, .null, .int 0, .ref q3, .int 0, .int 0, .int 0, .int 0, .int 0, .int 0, .int 0, .int 0, .int 0])), ((ad7 1), .inl (cy 0, 32, .inl (fun _ => 0))), ((ad7 2), .inl (cy 0, 1024, .inl (fun _ => 0)))] dX10_init_58 inX10 tyX10_ok nmX10 rfl rfl (by decide) w4_110 rfl rfl rfl rfl (Nat.le_of_ble_eq_true rfl) rfl ?_
  refine u_aload_n G 0 dX10_init_61 rfl ?_
  refine u_sipush G (v := (2048 : Int32)) dX10_init_62 (by decide) ?_
  refine u_newa G 0 (ty := .int) (N := 2048) dX10_init_65 rfl rfl (fun _ h => h) w1_62 (fun _ => rfl) (by decide) (by decide) (by decide) (by decide) (by decide) (fun q8 => ?_)
  show U _ _ _ _ _ _ _ _ _ _ _ _ _ _ [(h0, .inr (10, [.int 0, .int 0, .int 0, .int 0, .int 0, .int 0, .int 0, .int 0, .int 0, .int 0, .int 0, .ref q1, .ref q2, .ref q3, .ref (ad5 0), .ref (ad7 0), .null, .int 0, .null, .null, .int 0, .int 0, .int 0, .int 0, .null, .int 0, .int 0, .int 0, .int 0, .int 0, .int 0, .int 0, .int 0, .null, .int 0, .int 0])), (q1, .inl (cy 0, 6219, .inl (fun _ => 0))), (q2, .inl (cy 0, 2048, .inl (fun _ => 0))), (q3, .inl (cy 0, 1000, .inl (fun _ => 0))), ((ad5 0), .inr (9, [.ref (ad5 1), .int 0, .int 0, .int 0, .int 0, .ref (ad5 2), .int 0, .int 0, .null, .int 0, .ref q3, .int 0, .int 0, .int 0, .int 0, .int 0, .int 0, .int 0, .int 0, .int 0])), ((ad5 1), .inl (cy 0, 32, .inl (fun _ => 0))), ((ad5 2), .inl (cy 0, 1024, .inl (fun _ => 0))), ((ad7 0), .inr (9, [.ref (ad7 1), .int 0, .int 0, .int 0, .int 0, .ref (ad7 2), .int 0, .int 0, .null, .int 0, .ref q3, .int 0, .int 0, .int 0, .int 0, .int 0, .int 0, .int 0, .int 0, .int 0])), ((ad7 1), .inl (cy 0, 32, .inl (fun _ => 0))), ((ad7 2), .inl (cy 0, 1024, .inl (fun _ => 0))), (q8, .inl (cy 0, 2048, .inl (fun _ => 0)))] _ _ _ _ _
  refine u_putF G (ci := 10) (T := TX10) 0 16 [(h0, .inr (10, [.int 0, .int 0, .int 0, .int 0, .int 0, .int 0, .int 0, .int 0, .int 0, .int 0, .int 0, .ref q1, .ref q2, .ref q3, .ref (ad5 0), .ref (ad7 0), .ref q8, .int 0, .null, .null, .int 0, .int 0, .int 0, .int 0, .null, .int 0, .int 0, .int 0, .int 0, .int 0, .int 0, .int 0, .int 0, .null, .int 0, .int 0])), (q1, .inl (cy 0, 6219, .inl (fun _ => 0))), (q2, .inl (cy 0, 2048, .inl (fun _ => 0))), (q3, .inl (cy 0, 1000, .inl (fun _ => 0))), ((ad5 0), .inr (9, [.ref (ad5 1), .int 0, .int 0, .int 0, .int 0, .ref (ad5 2), .int 0, .int 0, .null, .int 0, .ref q3, .int 0, .int 0, .int 0, .int 0, .int 0, .int 0, .int 0, .int 0, .int 0])), ((ad5 1), .inl (cy 0, 32, .inl (fun _ => 0))), ((ad5 2), .inl (cy 0, 1024, .inl (fun _ => 0))), ((ad7 0), .inr (9, [.ref (ad7 1), .int 0, .int 0, .int 0, .int 0, .ref (ad7 2), .int 0, .int 0, .null, .int 0, .ref q3, .int 0, .int 0, .int 0, .int 0, .int 0, .int 0, .int 0, .int 0, .int 0])), ((ad7 1), .inl (cy 0, 32, .inl (fun _ => 0))), ((ad7 2), .inl (cy 0, 1024, .inl (fun _ => 0))), (q8, .inl (cy 0, 2048, .inl (fun _ => 0)))] dX10_init_67 inX10 tyX10_ok nmX10 rfl rfl (by decide) w4_111 rfl rfl rfl rfl (Nat.le_of_ble_eq_true rfl) rfl ?_
  refine u_aload_n G 0 dX10_init_70 rfl ?_
  refine u_new G (ci := 8) blX8 dX10_init_71 inX8 tyX8_ok w4_63 w4_64 w1_11 rfl blX8_ok (by decide) (by decide) (fun q9 => ?_)
  show U _ _ _ _ _ _ _ _ _ _ _ _ _ _ [(h0, .inr (10, [.int 0, .int 0, .int 0, .int 0, .int 0, .int 0, .int 0, .int 0, .int 0, .int 0, .int 0, .ref q1, .ref q2, .ref q3, .ref (ad5 0), .ref (ad7 0), .ref q8, .int 0, .null, .null, .int 0, .int 0, .int 0, .int 0, .null, .int 0, .int 0, .int 0, .int 0, .int 0, .int 0, .int 0, .int 0, .null, .int 0, .int 0])), (q1, .inl (cy 0, 6219, .inl (fun _ => 0))), (q2, .inl (cy 0, 2048, .inl (fun _ => 0))), (q3, .inl (cy 0, 1000, .inl (fun _ => 0))), ((ad5 0), .inr (9, [.ref (ad5 1), .int 0, .int 0, .int 0, .int 0, .ref (ad5 2), .int 0, .int 0, .null, .int 0, .ref q3, .int 0, .int 0, .int 0, .int 0, .int 0, .int 0, .int 0, .int 0, .int 0])), ((ad5 1), .inl (cy 0, 32, .inl (fun _ => 0))), ((ad5 2), .inl (cy 0, 1024, .inl (fun _ => 0))), ((ad7 0), .inr (9, [.ref (ad7 1), .int 0, .int 0, .int 0, .int 0, .ref (ad7 2), .int 0, .int 0, .null, .int 0, .ref q3, .int 0, .int 0, .int 0, .int 0, .int 0, .int 0, .int 0, .int 0, .int 0])), ((ad7 1), .inl (cy 0, 32, .inl (fun _ => 0))), ((ad7 2), .inl (cy 0, 1024, .inl (fun _ => 0))), (q8, .inl (cy 0, 2048, .inl (fun _ => 0))), (q9, .inr (8, [.int 0, .null, .null, .null, .null]))] _ _ _ _ _
  refine u_dup G dX10_init_74 rfl ?_
  refine u_callN G (kq := 11) (As := []) (st := [.ref q9, .ref h0]) (c_A_init l D cy q9 ) rfl [0, 1, 2, 3, 4, 5, 6, 7, 8, 9, 10] [(h0, .inr (10, [.int 0, .int 0, .int 0, .int 0, .int 0, .int 0, .int 0, .int 0, .int 0, .int 0, .int 0, .ref q1, .ref q2, .ref q3, .ref (ad5 0), .ref (ad7 0), .ref q8, .int 0, .null, .null, .int 0, .int 0, .int 0, .int 0, .null, .int 0, .int 0, .int 0, .int 0, .int 0, .int 0, .int 0, .int 0, .null, .int 0, .int 0])), (q1, .inl (cy 0, 6219, .inl (fun _ => 0))), (q2, .inl (cy 0, 2048, .inl (fun _ => 0))), (q3, .inl (cy 0, 1000, .inl (fun _ => 0))), ((ad5 0), .inr (9, [.ref (ad5 1), .int 0, .int 0, .int 0, .int 0, .ref (ad5 2), .int 0, .int 0, .null, .int 0, .ref q3, .int 0, .int 0, .int 0, .int 0, .int 0, .int 0, .int 0, .int 0, .int 0])), ((ad5 1), .inl (cy 0, 32, .inl (fun _ => 0))), ((ad5 2), .inl (cy 0, 1024, .inl (fun _ => 0))), ((ad7 0), .inr (9, [.ref (ad7 1), .int 0, .int 0, .int 0, .int 0, .ref (ad7 2), .int 0, .int 0, .null, .int 0, .ref q3, .int 0, .int 0, .int 0, .int 0, .int 0, .int 0, .int 0, .int 0, .int 0])), ((ad7 1), .inl (cy 0, 32, .inl (fun _ => 0))), ((ad7 2), .inl (cy 0, 1024, .inl (fun _ => 0))), (q8, .inl (cy 0, 2048, .inl (fun _ => 0)))] rfl (by decide) (by decide) (List.mem_of_getElem? (i := 4) rfl) w4_66 w1_11 w4_67 rfl qyX8_init (by decide) rfl (Nat.le_of_ble_eq_true rfl) dX10_init_75 (by decide) (fun ad10 had10 => ?_)
  subst had10
  show U _ _ _ _ _ _ _ _ _ _ _ _ _ _ [(h0, .inr (10, [.int 0, .int 0, .int 0, .int 0, .int 0, .int 0, .int 0, .int 0, .int 0, .int 0, .int 0, .ref q1, .ref q2, .ref q3, .ref (ad5 0), .ref (ad7 0), .ref q8, .int 0, .null, .null, .int 0, .int 0, .int 0, .int 0, .null, .int 0, .int 0, .int 0, .int 0, .int 0, .int 0, .int 0, .int 0, .null, .int 0, .int 0])), (q1, .inl (cy 0, 6219, .inl (fun _ => 0))), (q2, .inl (cy 0, 2048, .inl (fun _ => 0))), (q3, .inl (cy 0, 1000, .inl (fun _ => 0))), ((ad5 0), .inr (9, [.ref (ad5 1), .int 0, .int 0, .int 0, .int 0, .ref (ad5 2), .int 0, .int 0, .null, .int 0, .ref q3, .int 0, .int 0, .int 0, .int 0, .int 0, .int 0, .int 0, .int 0, .int 0])), ((ad5 1), .inl (cy 0, 32, .inl (fun _ => 0))), ((ad5 2), .inl (cy 0, 1024, .inl (fun _ => 0))), ((ad7 0), .inr (9, [.ref (ad7 1), .int 0, .int 0, .int 0, .int 0, .ref (ad7 2), .int 0, .int 0, .null, .int 0, .ref q3, .int 0, .int 0, .int 0, .int 0, .int 0, .int 0, .int 0, .int 0, .int 0])), ((ad7 1), .inl (cy 0, 32, .inl (fun _ => 0))), ((ad7 2), .inl (cy 0, 1024, .inl (fun _ => 0))), (q8, .inl (cy 0, 2048, .inl (fun _ => 0))), ((ad10 0), .inr (8, [.int 0, .ref (ad10 1), .ref (ad10 2), .ref (ad10 3), .ref (ad10 4)])), ((ad10 1), .inl (cy 0, 400, .inl (fun _ => 0))), ((ad10 2), .inl (cy 0, 400, .inl (fun _ => 0))), ((ad10 3), .inl (cy 0, 400, .inl (fun _ => 0))), ((ad10 4), .inl (cy 1, 25600, .inl (fun _ => 0)))] _ _ _ _ _
  refine u_put G (ci := 10) (T := TX10) 0 18 [(h0, .inr (10, [.int 0, .int 0, .int 0, .int 0, .int 0, .int 0, .int 0, .int 0, .int 0, .int 0, .int 0, .ref q1, .ref q2, .ref q3, .ref (ad5 0), .ref (ad7 0), .ref q8, .int 0, .ref (ad10 0), .null, .int 0, .int 0, .int 0, .int 0, .null, .int 0, .int 0, .int 0, .int 0, .int 0, .int 0, .int 0, .int 0, .null, .int 0, .int 0])), (q1, .inl (cy 0, 6219, .inl (fun _ => 0))), (q2, .inl (cy 0, 2048, .inl (fun _ => 0))), (q3, .inl (cy 0, 1000, .inl (fun _ => 0))), ((ad5 0), .inr (9, [.ref (ad5 1), .int 0, .int 0, .int 0, .int 0, .ref (ad5 2), .int 0, .int 0, .null, .int 0, .ref q3, .int 0, .int 0, .int 0, .int 0, .int 0, .int 0, .int 0, .int 0, .int 0])), ((ad5 1), .inl (cy 0, 32, .inl (fun _ => 0))), ((ad5 2), .inl (cy 0, 1024, .inl (fun _ => 0))), ((ad7 0), .inr (9, [.ref (ad7 1), .int 0, .int 0, .int 0, .int 0, .ref (ad7 2), .int 0, .int 0, .null, .int 0, .ref q3, .int 0, .int 0, .int 0, .int 0, .int 0, .int 0, .int 0, .int 0, .int 0])), ((ad7 1), .inl (cy 0, 32, .inl (fun _ => 0))), ((ad7 2), .inl (cy 0, 1024, .inl (fun _ => 0))), (q8, .inl (cy 0, 2048, .inl (fun _ => 0))), ((ad10 0), .inr (8, [.int 0, .ref (ad10 1), .ref (ad10 2), .ref (ad10 3), .ref (ad10 4)])), ((ad10 1), .inl (cy 0, 400, .inl (fun _ => 0))), ((ad10 2), .inl (cy 0, 400, .inl (fun _ => 0))), ((ad10 3), .inl (cy 0, 400, .inl (fun _ => 0))), ((ad10 4), .inl (cy 1, 25600, .inl (fun _ => 0)))] dX10_init_78 inX10 tyX10_ok nmX10 rfl rfl (by decide) w4_113 rfl rfl rfl (Nat.le_of_ble_eq_true rfl) rfl ?_
  refine u_aload_n G 0 dX10_init_81 rfl ?_
  refine u_new G (ci := 8) blX8 dX10_init_82 inX8 tyX8_ok w4_63 w4_64 w1_11 rfl blX8_ok (by decide) (by decide) (fun q11 => ?_)
  show U _ _ _ _ _ _ _ _ _ _ _ _ _ _ [(h0, .inr (10, [.int 0, .int 0, .int 0, .int 0, .int 0, .int 0, .int 0, .int 0, .int 0, .int 0, .int 0, .ref q1, .ref q2, .ref q3, .ref (ad5 0), .ref (ad7 0), .ref q8, .int 0, .ref (ad10 0), .null, .int 0, .int 0, .int 0, .int 0, .null, .int 0, .int 0, .int 0, .int 0, .int 0, .int 0, .int 0, .int 0, .null, .int 0, .int 0])), (q1, .inl (cy 0, 6219, .inl (fun _ => 0))), (q2, .inl (cy 0, 2048, .inl (fun _ => 0))), (q3, .inl (cy 0, 1000, .inl (fun _ => 0))), ((ad5 0), .inr (9, [.ref (ad5 1), .int 0, .int 0, .int 0, .int 0, .ref (ad5 2), .int 0, .int 0, .null, .int 0, .ref q3, .int 0, .int 0, .int 0, .int 0, .int 0, .int 0, .int 0, .int 0, .int 0])), ((ad5 1), .inl (cy 0, 32, .inl (fun _ => 0))), ((ad5 2), .inl (cy 0, 1024, .inl (fun _ => 0))), ((ad7 0), .inr (9, [.ref (ad7 1), .int 0, .int 0, .int 0, .int 0, .ref (ad7 2), .int 0, .int 0, .null, .int 0, .ref q3, .int 0, .int 0, .int 0, .int 0, .int 0, .int 0, .int 0, .int 0, .int 0])), ((ad7 1), .inl (cy 0, 32, .inl (fun _ => 0))), ((ad7 2), .inl (cy 0, 1024, .inl (fun _ => 0))), (q8, .inl (cy 0, 2048, .inl (fun _ => 0))), ((ad10 0), .inr (8, [.int 0, .ref (ad10 1), .ref (ad10 2), .ref (ad10 3), .ref (ad10 4)])), ((ad10 1), .inl (cy 0, 400, .inl (fun _ => 0))), ((ad10 2), .inl (cy 0, 400, .inl (fun _ => 0))), ((ad10 3), .inl (cy 0, 400, .inl (fun _ => 0))), ((ad10 4), .inl (cy 1, 25600, .inl (fun _ => 0))), (q11, .inr (8, [.int 0, .null, .null, .null, .null]))] _ _ _ _ _
  refine u_dup G dX10_init_85 rfl ?_
  refine u_callN G (kq := 16) (As := []) (st := [.ref q11, .ref h0]) (c_A_init l D cy q11 ) rfl [0, 1, 2, 3, 4, 5, 6, 7, 8, 9, 10, 11, 12, 13, 14, 15] [(h0, .inr (10, [.int 0, .int 0, .int 0, .int 0, .int 0, .int 0, .int 0, .int 0, .int 0, .int 0, .int 0, .ref q1, .ref q2, .ref q3, .ref (ad5 0), .ref (ad7 0), .ref q8, .int 0, .ref (ad10 0), .null, .int 0, .int 0, .int 0, .int 0, .null, .int 0, .int 0, .int 0, .int 0, .int 0, .int 0, .int 0, .int 0, .null, .int 0, .int 0])), (q1, .inl (cy 0, 6219, .inl (fun _ => 0))), (q2, .inl (cy 0, 2048, .inl (fun _ => 0))), (q3, .inl (cy 0, 1000, .inl (fun _ => 0))), ((ad5 0), .inr (9, [.ref (ad5 1), .int 0, .int 0, .int 0, .int 0, .ref (ad5 2), .int 0, .int 0, .null, .int 0, .ref q3, .int 0, .int 0, .int 0, .int 0, .int 0, .int 0, .int 0, .int 0, .int 0])), ((ad5 1), .inl (cy 0, 32, .inl (fun _ => 0))), ((ad5 2), .inl (cy 0, 1024, .inl (fun _ => 0))), ((ad7 0), .inr (9, [.ref (ad7 1), .int 0, .int 0, .int 0, .int 0, .ref (ad7 2), .int 0, .int 0, .null, .int 0, .ref q3, .int 0, .int 0, .int 0, .int 0, .int 0, .int 0, .int 0, .int 0, .int 0])), ((ad7 1), .inl (cy 0, 32, .inl (fun _ => 0))), ((ad7 2), .inl (cy 0, 1024, .inl (fun _ => 0))), (q8, .inl (cy 0, 2048, .inl (fun _ => 0))), ((ad10 0), .inr (8, [.int 0, .ref (ad10 1), .ref (ad10 2), .ref (ad10 3), .ref (ad10 4)])), ((ad10 1), .inl (cy 0, 400, .inl (fun _ => 0))), ((ad10 2), .inl (cy 0, 400, .inl (fun _ => 0))), ((ad10 3), .inl (cy 0, 400, .inl (fun _ => 0))), ((ad10 4), .inl (cy 1, 25600, .inl (fun _ => 0)))] rfl (by decide) (by decide) (List.mem_of_getElem? (i := 4) rfl) w4_66 w1_11 w4_67 rfl qyX8_init (by decide) rfl (Nat.le_of_ble_eq_true rfl) dX10_init_86 (by decide) (fun ad12 had12 => ?_)
  subst had12
  show U _ _ _ _ _ _ _ _ _ _ _ _ _ _ [(h0, .inr (10, [.int 0, .int 0, .int 0, .int 0, .int 0, .int 0, .int 0, .int 0, .int 0, .int 0, .int 0, .ref q1, .ref q2, .ref q3, .ref (ad5 0), .ref (ad7 0), .ref q8, .int 0, .ref (ad10 0), .null, .int 0, .int 0, .int 0, .int 0, .null, .int 0, .int 0, .int 0, .int 0, .int 0, .int 0, .int 0, .int 0, .null, .int 0, .int 0])), (q1, .inl (cy 0, 6219, .inl (fun _ => 0))), (q2, .inl (cy 0, 2048, .inl (fun _ => 0))), (q3, .inl (cy 0, 1000, .inl (fun _ => 0))), ((ad5 0), .inr (9, [.ref (ad5 1), .int 0, .int 0, .int 0, .int 0, .ref (ad5 2), .int 0, .int 0, .null, .int 0, .ref q3, .int 0, .int 0, .int 0, .int 0, .int 0, .int 0, .int 0, .int 0, .int 0])), ((ad5 1), .inl (cy 0, 32, .inl (fun _ => 0))), ((ad5 2), .inl (cy 0, 1024, .inl (fun _ => 0))), ((ad7 0), .inr (9, [.ref (ad7 1), .int 0, .int 0, .int 0, .int 0, .ref (ad7 2), .int 0, .int 0, .null, .int 0, .ref q3, .int 0, .int 0, .int 0, .int 0, .int 0, .int 0, .int 0, .int 0, .int 0])), ((ad7 1), .inl (cy 0, 32, .inl (fun _ => 0))), ((ad7 2), .inl (cy 0, 1024, .inl (fun _ => 0))), (q8, .inl (cy 0, 2048, .inl (fun _ => 0))), ((ad10 0), .inr (8, [.int 0, .ref (ad10 1), .ref (ad10 2), .ref (ad10 3), .ref (ad10 4)])), ((ad10 1), .inl (cy 0, 400, .inl (fun _ => 0))), ((ad10 2), .inl (cy 0, 400, .inl (fun _ => 0))), ((ad10 3), .inl (cy 0, 400, .inl (fun _ => 0))), ((ad10 4), .inl (cy 1, 25600, .inl (fun _ => 0))), ((ad12 0), .inr (8, [.int 0, .ref (ad12 1), .ref (ad12 2), .ref (ad12 3), .ref (ad12 4)])), ((ad12 1), .inl (cy 0, 400, .inl (fun _ => 0))), ((ad12 2), .inl (cy 0, 400, .inl (fun _ => 0))), ((ad12 3), .inl (cy 0, 400, .inl (fun _ => 0))), ((ad12 4), .inl (cy 1, 25600, .inl (fun _ => 0)))] _ _ _ _ _
  refine u_putF G (ci := 10) (T := TX10) 0 19 [(h0, .inr (10, [.int 0, .int 0, .int 0, .int 0, .int 0, .int 0, .int 0, .int 0, .int 0, .int 0, .int 0, .ref q1, .ref q2, .ref q3, .ref (ad5 0), .ref (ad7 0), .ref q8, .int 0, .ref (ad10 0), .ref (ad12 0), .int 0, .int 0, .int 0, .int 0, .null, .int 0, .int 0, .int 0, .int 0, .int 0, .int 0, .int 0, .int 0, .null, .int 0, .int 0])), (q1, .inl (cy 0, 6219, .inl (fun _ => 0))), (q2, .inl (cy 0, 2048, .inl (fun _ => 0))), (q3, .inl (cy 0, 1000, .inl (fun _ => 0))), ((ad5 0), .inr (9, [.ref (ad5 1), .int 0, .int 0, .int 0, .int 0, .ref (ad5 2), .int 0, .int 0, .null, .int 0, .ref q3, .int 0, .int 0, .int 0, .int 0, .int 0, .int 0, .int 0, .int 0, .int 0])), ((ad5 1), .inl (cy 0, 32, .inl (fun _ => 0))), ((ad5 2), .inl (cy 0, 1024, .inl (fun _ => 0))), ((ad7 0), .inr (9, [.ref (ad7 1), .int 0, .int 0, .int 0, .int 0, .ref (ad7 2), .int 0, .int 0, .null, .int 0, .ref q3, .int 0, .int 0, .int 0, .int 0, .int 0, .int 0, .int 0, .int 0, .int 0])), ((ad7 1), .inl (cy 0, 32, .inl (fun _ => 0))), ((ad7 2), .inl (cy 0, 1024, .inl (fun _ => 0))), (q8, .inl (cy 0, 2048, .inl (fun _ => 0))), ((ad10 0), .inr (8, [.int 0, .ref (ad10 1), .ref (ad10 2), .ref (ad10 3), .ref (ad10 4)])), ((ad10 1), .inl (cy 0, 400, .inl (fun _ => 0))), ((ad10 2), .inl (cy 0, 400, .inl (fun _ => 0))), ((ad10 3), .inl (cy 0, 400, .inl (fun _ => 0))), ((ad10 4), .inl (cy 1, 25600, .inl (fun _ => 0))), ((ad12 0), .inr (8, [.int 0, .ref (ad12 1), .ref (ad12 2), .ref (ad12 3), .ref (ad12 4)])), ((ad12 1), .inl (cy 0, 400, .inl (fun _ => 0))), ((ad12 2), .inl (cy 0, 400, .inl (fun _ => 0))), ((ad12 3), .inl (cy 0, 400, .inl (fun _ => 0))), ((ad12 4), .inl (cy 1, 25600, .inl (fun _ => 0)))] dX10_init_89 inX10 tyX10_ok nmX10 rfl rfl (by decide) w4_114 rfl rfl rfl rfl (Nat.le_of_ble_eq_true rfl) rfl ?_
  refine u_aload_n G 0 dX10_init_92 rfl ?_
  refine u_sipush G (v := (2048 : Int32)) dX10_init_93 (by decide) ?_
  refine u_newa G 2 (ty := .boolean) (N := 2048) dX10_init_96 rfl rfl (fun _ h => h) w4_204 (fun _ => rfl) (by decide) (by decide) (by decide) (by decide) (by decide) (fun q13 => ?_)
  show U _ _ _ _ _ _ _ _ _ _ _ _ _ _ [(h0, .inr (10, [.int 0, .int 0, .int 0, .int 0, .int 0, .int 0, .int 0, .int 0, .int 0, .int 0, .int 0, .ref q1, .ref q2, .ref q3, .ref (ad5 0), .ref (ad7 0), .ref q8, .int 0, .ref (ad10 0), .ref (ad12 0), .int 0, .int 0, .int 0, .int 0, .null, .int 0, .int 0, .int 0, .int 0, .int 0, .int 0, .int 0, .int 0, .null, .int 0, .int 0])), (q1, .inl (cy 0, 6219, .inl (fun _ => 0))), (q2, .inl (cy 0, 2048, .inl (fun _ => 0))), (q3, .inl (cy 0, 1000, .inl (fun _ => 0))), ((ad5 0), .inr (9, [.ref (ad5 1), .int 0, .int 0, .int 0, .int 0, .ref (ad5 2), .int 0, .int 0, .null, .int 0, .ref q3, .int 0, .int 0, .int 0, .int 0, .int 0, .int 0, .int 0, .int 0, .int 0])), ((ad5 1), .inl (cy 0, 32, .inl (fun _ => 0))), ((ad5 2), .inl (cy 0, 1024, .inl (fun _ => 0))), ((ad7 0), .inr (9, [.ref (ad7 1), .int 0, .int 0, .int 0, .int 0, .ref (ad7 2), .int 0, .int 0, .null, .int 0, .ref q3, .int 0, .int 0, .int 0, .int 0, .int 0, .int 0, .int 0, .int 0, .int 0])), ((ad7 1), .inl (cy 0, 32, .inl (fun _ => 0))), ((ad7 2), .inl (cy 0, 1024, .inl (fun _ => 0))), (q8, .inl (cy 0, 2048, .inl (fun _ => 0))), ((ad10 0), .inr (8, [.int 0, .ref (ad10 1), .ref (ad10 2), .ref (ad10 3), .ref (ad10 4)])), ((ad10 1), .inl (cy 0, 400, .inl (fun _ => 0))), ((ad10 2), .inl (cy 0, 400, .inl (fun _ => 0))), ((ad10 3), .inl (cy 0, 400, .inl (fun _ => 0))), ((ad10 4), .inl (cy 1, 25600, .inl (fun _ => 0))), ((ad12 0), .inr (8, [.int 0, .ref (ad12 1), .ref (ad12 2), .ref (ad12 3), .ref (ad12 4)])), ((ad12 1), .inl (cy 0, 400, .inl (fun _ => 0))), ((ad12 2), .inl (cy 0, 400, .inl (fun _ => 0))), ((ad12 3), .inl (cy 0, 400, .inl (fun _ => 0))), ((ad12 4), .inl (cy 1, 25600, .inl (fun _ => 0))), (q13, .inl (cy 2, 2048, .inl (fun _ => 0)))] _ _ _ _ _
  refine u_putF G (ci := 10) (T := TX10) 0 24 [(h0, .inr (10, [.int 0, .int 0, .int 0, .int 0, .int 0, .int 0, .int 0, .int 0, .int 0, .int 0, .int 0, .ref q1, .ref q2, .ref q3, .ref (ad5 0), .ref (ad7 0), .ref q8, .int 0, .ref (ad10 0), .ref (ad12 0), .int 0, .int 0, .int 0, .int 0, .ref q13, .int 0, .int 0, .int 0, .int 0, .int 0, .int 0, .int 0, .int 0, .null, .int 0, .int 0])), (q1, .inl (cy 0, 6219, .inl (fun _ => 0))), (q2, .inl (cy 0, 2048, .inl (fun _ => 0))), (q3, .inl (cy 0, 1000, .inl (fun _ => 0))), ((ad5 0), .inr (9, [.ref (ad5 1), .int 0, .int 0, .int 0, .int 0, .ref (ad5 2), .int 0, .int 0, .null, .int 0, .ref q3, .int 0, .int 0, .int 0, .int 0, .int 0, .int 0, .int 0, .int 0, .int 0])), ((ad5 1), .inl (cy 0, 32, .inl (fun _ => 0))), ((ad5 2), .inl (cy 0, 1024, .inl (fun _ => 0))), ((ad7 0), .inr (9, [.ref (ad7 1), .int 0, .int 0, .int 0, .int 0, .ref (ad7 2), .int 0, .int 0, .null, .int 0, .ref q3, .int 0, .int 0, .int 0, .int 0, .int 0, .int 0, .int 0, .int 0, .int 0])), ((ad7 1), .inl (cy 0, 32, .inl (fun _ => 0))), ((ad7 2), .inl (cy 0, 1024, .inl (fun _ => 0))), (q8, .inl (cy 0, 2048, .inl (fun _ => 0))), ((ad10 0), .inr (8, [.int 0, .ref (ad10 1), .ref (ad10 2), .ref (ad10 3), .ref (ad10 4)])), ((ad10 1), .inl (cy 0, 400, .inl (fun _ => 0))), ((ad10 2), .inl (cy 0, 400, .inl (fun _ => 0))), ((ad10 3), .inl (cy 0, 400, .inl (fun _ => 0))), ((ad10 4), .inl (cy 1, 25600, .inl (fun _ => 0))), ((ad12 0), .inr (8, [.int 0, .ref (ad12 1), .ref (ad12 2), .ref (ad12 3), .ref (ad12 4)])), ((ad12 1), .inl (cy 0, 400, .inl (fun _ => 0))), ((ad12 2), .inl (cy 0, 400, .inl (fun _ => 0))), ((ad12 3), .inl (cy 0, 400, .inl (fun _ => 0))), ((ad12 4), .inl (cy 1, 25600, .inl (fun _ => 0))), (q13, .inl (cy 2, 2048, .inl (fun _ => 0)))] dX10_init_98 inX10 tyX10_ok nmX10 rfl rfl (by decide) w4_119 rfl rfl rfl rfl (Nat.le_of_ble_eq_true rfl) rfl ?_
  refine u_aload_n G 0 dX10_init_101 rfl ?_
  refine u_sipush G (v := (8200 : Int32)) dX10_init_102 (by decide) ?_
  refine u_newa G 1 (ty := .byte) (N := 8200) dX10_init_105 rfl rfl (fun _ h => h) w4_94 (fun _ => rfl) (by decide) (by decide) (by decide) (by decide) (by decide) (fun q14 => ?_)
  show U _ _ _ _ _ _ _ _ _ _ _ _ _ _ [(h0, .inr (10, [.int 0, .int 0, .int 0, .int 0, .int 0, .int 0, .int 0, .int 0, .int 0, .int 0, .int 0, .ref q1, .ref q2, .ref q3, .ref (ad5 0), .ref (ad7 0), .ref q8, .int 0, .ref (ad10 0), .ref (ad12 0), .int 0, .int 0, .int 0, .int 0, .ref q13, .int 0, .int 0, .int 0, .int 0, .int 0, .int 0, .int 0, .int 0, .null, .int 0, .int 0])), (q1, .inl (cy 0, 6219, .inl (fun _ => 0))), (q2, .inl (cy 0, 2048, .inl (fun _ => 0))), (q3, .inl (cy 0, 1000, .inl (fun _ => 0))), ((ad5 0), .inr (9, [.ref (ad5 1), .int 0, .int 0, .int 0, .int 0, .ref (ad5 2), .int 0, .int 0, .null, .int 0, .ref q3, .int 0, .int 0, .int 0, .int 0, .int 0, .int 0, .int 0, .int 0, .int 0])), ((ad5 1), .inl (cy 0, 32, .inl (fun _ => 0))), ((ad5 2), .inl (cy 0, 1024, .inl (fun _ => 0))), ((ad7 0), .inr (9, [.ref (ad7 1), .int 0, .int 0, .int 0, .int 0, .ref (ad7 2), .int 0, .int 0, .null, .int 0, .ref q3, .int 0, .int 0, .int 0, .int 0, .int 0, .int 0, .int 0, .int 0, .int 0])), ((ad7 1), .inl (cy 0, 32, .inl (fun _ => 0))), ((ad7 2), .inl (cy 0, 1024, .inl (fun _ => 0))), (q8, .inl (cy 0, 2048, .inl (fun _ => 0))), ((ad10 0), .inr (8, [.int 0, .ref (ad10 1), .ref (ad10 2), .ref (ad10 3), .ref (ad10 4)])), ((ad10 1), .inl (cy 0, 400, .inl (fun _ => 0))), ((ad10 2), .inl (cy 0, 400, .inl (fun _ => 0))), ((ad10 3), .inl (cy 0, 400, .inl (fun _ => 0))), ((ad10 4), .inl (cy 1, 25600, .inl (fun _ => 0))), ((ad12 0), .inr (8, [.int 0, .ref (ad12 1), .ref (ad12 2), .ref (ad12 3), .ref (ad12 4)])), ((ad12 1), .inl (cy 0, 400, .inl (fun _ => 0))), ((ad12 2), .inl (cy 0, 400, .inl (fun _ => 0))), ((ad12 3), .inl (cy 0, 400, .inl (fun _ => 0))), ((ad12 4), .inl (cy 1, 25600, .inl (fun _ => 0))), (q13, .inl (cy 2, 2048, .inl (fun _ => 0))), (q14, .inl (cy 1, 8200, .inl (fun _ => 0)))] _ _ _ _ _
  refine u_putF G (ci := 10) (T := TX10) 0 33 [(h0, .inr (10, [.int 0, .int 0, .int 0, .int 0, .int 0, .int 0, .int 0, .int 0, .int 0, .int 0, .int 0, .ref q1, .ref q2, .ref q3, .ref (ad5 0), .ref (ad7 0), .ref q8, .int 0, .ref (ad10 0), .ref (ad12 0), .int 0, .int 0, .int 0, .int 0, .ref q13, .int 0, .int 0, .int 0, .int 0, .int 0, .int 0, .int 0, .int 0, .ref q14, .int 0, .int 0])), (q1, .inl (cy 0, 6219, .inl (fun _ => 0))), (q2, .inl (cy 0, 2048, .inl (fun _ => 0))), (q3, .inl (cy 0, 1000, .inl (fun _ => 0))), ((ad5 0), .inr (9, [.ref (ad5 1), .int 0, .int 0, .int 0, .int 0, .ref (ad5 2), .int 0, .int 0, .null, .int 0, .ref q3, .int 0, .int 0, .int 0, .int 0, .int 0, .int 0, .int 0, .int 0, .int 0])), ((ad5 1), .inl (cy 0, 32, .inl (fun _ => 0))), ((ad5 2), .inl (cy 0, 1024, .inl (fun _ => 0))), ((ad7 0), .inr (9, [.ref (ad7 1), .int 0, .int 0, .int 0, .int 0, .ref (ad7 2), .int 0, .int 0, .null, .int 0, .ref q3, .int 0, .int 0, .int 0, .int 0, .int 0, .int 0, .int 0, .int 0, .int 0])), ((ad7 1), .inl (cy 0, 32, .inl (fun _ => 0))), ((ad7 2), .inl (cy 0, 1024, .inl (fun _ => 0))), (q8, .inl (cy 0, 2048, .inl (fun _ => 0))), ((ad10 0), .inr (8, [.int 0, .ref (ad10 1), .ref (ad10 2), .ref (ad10 3), .ref (ad10 4)])), ((ad10 1), .inl (cy 0, 400, .inl (fun _ => 0))), ((ad10 2), .inl (cy 0, 400, .inl (fun _ => 0))), ((ad10 3), .inl (cy 0, 400, .inl (fun _ => 0))), ((ad10 4), .inl (cy 1, 25600, .inl (fun _ => 0))), ((ad12 0), .inr (8, [.int 0, .ref (ad12 1), .ref (ad12 2), .ref (ad12 3), .ref (ad12 4)])), ((ad12 1), .inl (cy 0, 400, .inl (fun _ => 0))), ((ad12 2), .inl (cy 0, 400, .inl (fun _ => 0))), ((ad12 3), .inl (cy 0, 400, .inl (fun _ => 0))), ((ad12 4), .inl (cy 1, 25600, .inl (fun _ => 0))), (q13, .inl (cy 2, 2048, .inl (fun _ => 0))), (q14, .inl (cy 1, 8200, .inl (fun _ => 0)))] dX10_init_107 inX10 tyX10_ok nmX10 rfl rfl (by decide) w4_128 rfl rfl rfl rfl (Nat.le_of_ble_eq_true rfl) rfl ?_
  exact u_vret (sz := 0) G (fun k => ([h0, q1, q2, q3, (ad5 0), (ad5 1), (ad5 2), (ad7 0), (ad7 1), (ad7 2), q8, (ad10 0), (ad10 1), (ad10 2), (ad10 3), (ad10 4), (ad12 0), (ad12 1), (ad12 2), (ad12 3), (ad12 4), q13, q14] : List Nat).getD k 0) dX10_init_110 rfl [0, 1, 2, 3, 4, 5, 6, 7, 8, 9, 10, 11, 12, 13, 14, 15, 16, 17, 18, 19, 20, 21, 22] (by decide) rfl rfl

/-! SensorNode$Bytes.get -/
theorem qyX0_get : yX0_get.cls ≠ "java/lang/invoke/MethodHandle" ∧ yX0_get.cls ≠ "java/lang/invoke/VarHandle" ∧ (parseMethodDescriptor yX0_get.desc).map (fun d => d.parameters.length) = some 1 := by decide +kernel
noncomputable def f_B_get (S : St) (kb kp n : Nat) (a1 : Int32) : Int32 := bnx (a1 >>> ((2 : Int32) &&& 31)) (fun x_1 => (if x_1 < 0 then (0 : Int32) else (if x_1 < (nI n) then (ush (S kp x_1.toNatClampNeg) ((8 : Int32) * (a1 &&& (3 : Int32)))) &&& (255 : Int32) else (0 : Int32))))
set_option linter.unusedVariables false in
set_option maxHeartbeats 4000000 in
set_option maxRecDepth 100000 in
theorem c_B_get (l : Launch) {X : vD} (hJ : sh_J X) (hX : shp X = shX) (kb kp n : Nat) (hB : isB kb kp n) (S : St) (a1 : Int32)  : Con l X yX0_get cX0_get 3 (some .int) 0 [.ref (adr X kb), .int a1] S (some (.int (f_B_get S kb kp n a1)), S) := by
  refine con_of (ρ := (fun r : Int32 => ((some (.int r), S) : Option Value × St))) (K := f_B_get S kb kp n a1) hJ hX (by decide) (Nat.le_of_ble_eq_true rfl) (lv := [(0, .ref (adr X kb)), (1, .int a1)]) rfl ?_
  intro p e s m below meth c G
  have G : vG p s m _ meth c X shX "SensorNode$Bytes" cX0_get 3 (some .int) := G
  unfold f_B_get
  refine v_iload_n G 1 dX0_get_0 rfl ?_
  refine v_iconst G (v := (2 : Int32)) dX0_get_1 (by decide) ?_
  refine v_ishr G dX0_get_2 ?_
  refine v_namei (fun x_1 ex_1 => ?_)
  refine v_istore_n G [(2, .int x_1), (0, .ref (adr X kb)), (1, .int a1)] dX0_get_3 (by decide) rfl ?_
  refine v_iload_n G 0 dX0_get_4 rfl ?_
  refine v_if_lt G (tgt := 17) dX0_get_5 (by decide) (fun c_2 => ?_) (fun c_2 => ?_)
  · refine v_iconst G (v := (0 : Int32)) dX0_get_17 (by decide) ?_
    refine v_goto G (tgt := 38) dX0_get_18 (by decide) ?_
    exact v_iret G rfl rfl dX0_get_38
  · refine v_iload_n G 0 dX0_get_8 rfl ?_
    refine v_aload_n G 1 dX0_get_9 rfl ?_
    refine v_getr G (ci := 0) (T := TX0) (j := 0) inX0 rfl hB.1 rfl (by decide) w1_75 dX0_get_10 ?_
    refine v_alen G (ty := .int) hB.2.1 rfl dX0_get_13 ?_
    refine v_icmp_lt G (tgt := 21) dX0_get_14 (by decide) (fun c_3 => ?_) (fun c_3 => ?_)
    · refine v_aload_n G 1 dX0_get_21 rfl ?_
      refine v_getr G (ci := 0) (T := TX0) (j := 0) inX0 rfl hB.1 rfl (by decide) w1_75 dX0_get_22 ?_
      refine v_iload_n G 0 dX0_get_25 rfl ?_
      refine v_iald G hB.2.1 (vi_br (by assumption) (by assumption) hB.2.2) dX0_get_26 ?_
      refine v_bipush G (v := (8 : Int32)) dX0_get_27 (by decide) ?_
      refine v_iload_n G 2 dX0_get_29 rfl ?_
      refine v_iconst G (v := (3 : Int32)) dX0_get_30 (by decide) ?_
      refine v_iand G dX0_get_31 ?_
      refine v_imul G dX0_get_32 ?_
      refine v_iushr G dX0_get_33 ?_
      refine v_sipush G (v := (255 : Int32)) dX0_get_34 (by decide) ?_
      refine v_iand G dX0_get_37 ?_
      exact v_iret G rfl rfl dX0_get_38
    · refine v_iconst G (v := (0 : Int32)) dX0_get_17 (by decide) ?_
      refine v_goto G (tgt := 38) dX0_get_18 (by decide) ?_
      exact v_iret G rfl rfl dX0_get_38
/-! SensorNode$Bytes.put -/
theorem qyX0_put : yX0_put.cls ≠ "java/lang/invoke/MethodHandle" ∧ yX0_put.cls ≠ "java/lang/invoke/VarHandle" ∧ (parseMethodDescriptor yX0_put.desc).map (fun d => d.parameters.length) = some 2 := by decide +kernel
noncomputable def f_B_put (S : St) (kb kp n : Nat) (a1 : Int32) (a2 : Int32) : St := bnx (a1 >>> ((2 : Int32) &&& 31)) (fun x_1 => (if x_1 < 0 then S else (if x_1 < (nI n) then bnx ((8 : Int32) * (a1 &&& (3 : Int32))) (fun x_4 => bnv (st_up S kp x_1.toNatClampNeg (((S kp x_1.toNatClampNeg) &&& (((255 : Int32) <<< (x_4 &&& 31)) ^^^ (-1 : Int32))) ||| ((a2 &&& (255 : Int32)) <<< (x_4 &&& 31)))) (fun S_5 => S_5)) else S)))
set_option linter.unusedVariables false in
set_option maxHeartbeats 4000000 in
set_option maxRecDepth 100000 in
theorem c_B_put (l : Launch) {X : vD} (hJ : sh_J X) (hX : shp X = shX) (kb kp n : Nat) (hB : isB kb kp n) (S : St) (a1 : Int32) (a2 : Int32)  : Con l X yX0_put cX0_put 5 none 0 [.ref (adr X kb), .int a1, .int a2] S (none, f_B_put S kb kp n a1 a2) := by
  refine con_of (ρ := (fun S : St => ((none, S) : Option Value × St))) (K := f_B_put S kb kp n a1 a2) hJ hX (by decide) (Nat.le_of_ble_eq_true rfl) (lv := [(0, .ref (adr X kb)), (1, .int a1), (2, .int a2)]) rfl ?_
  intro p e s m below meth c G
  have G : vG p s m _ meth c X shX "SensorNode$Bytes" cX0_put 5 none := G
  unfold f_B_put
  refine v_iload_n G 1 dX0_put_0 rfl ?_
  refine v_iconst G (v := (2 : Int32)) dX0_put_1 (by decide) ?_
  refine v_ishr G dX0_put_2 ?_
  refine v_namei (fun x_1 ex_1 => ?_)
  refine v_istore_n G [(3, .int x_1), (0, .ref (adr X kb)), (1, .int a1), (2, .int a2)] dX0_put_3 (by decide) rfl ?_
  refine v_iload_n G 0 dX0_put_4 rfl ?_
  refine v_if_lt G (tgt := 55) dX0_put_5 (by decide) (fun c_2 => ?_) (fun c_2 => ?_)
  · exact v_vret G rfl rfl dX0_put_55
  · refine v_iload_n G 0 dX0_put_8 rfl ?_
    refine v_aload_n G 1 dX0_put_9 rfl ?_
    refine v_getr G (ci := 0) (T := TX0) (j := 0) inX0 rfl hB.1 rfl (by decide) w1_75 dX0_put_10 ?_
    refine v_alen G (ty := .int) hB.2.1 rfl dX0_put_13 ?_
    refine v_icmp_ge G (tgt := 55) dX0_put_14 (by decide) (fun c_3 => ?_) (fun c_3 => ?_)
    · exact v_vret G rfl rfl dX0_put_55
    · refine v_bipush G (v := (8 : Int32)) dX0_put_17 (by decide) ?_
      refine v_iload_n G 2 dX0_put_19 rfl ?_
      refine v_iconst G (v := (3 : Int32)) dX0_put_20 (by decide) ?_
      refine v_iand G dX0_put_21 ?_
      refine v_imul G dX0_put_22 ?_
      refine v_namei (fun x_4 ex_4 => ?_)
      refine v_istore G [(4, .int x_4), (3, .int x_1), (0, .ref (adr X kb)), (1, .int a1), (2, .int a2)] dX0_put_23 (by decide) rfl ?_
      refine v_aload_n G 2 dX0_put_25 rfl ?_
      refine v_getr G (ci := 0) (T := TX0) (j := 0) inX0 rfl hB.1 rfl (by decide) w1_75 dX0_put_26 ?_
      refine v_iload_n G 1 dX0_put_29 rfl ?_
      refine v_aload_n G 2 dX0_put_30 rfl ?_
      refine v_getr G (ci := 0) (T := TX0) (j := 0) inX0 rfl hB.1 rfl (by decide) w1_75 dX0_put_31 ?_
      refine v_iload_n G 1 dX0_put_34 rfl ?_
      refine v_iald G hB.2.1 (vi_br (by assumption) (by assumption) hB.2.2) dX0_put_35 ?_
      refine v_sipush G (v := (255 : Int32)) dX0_put_36 (by decide) ?_
      refine v_iload G 0 dX0_put_39 rfl ?_
      refine v_ishl G dX0_put_41 ?_
      refine v_iconst G (v := (-1 : Int32)) dX0_put_42 (by decide) ?_
      refine v_ixor G dX0_put_43 ?_
      refine v_iand G dX0_put_44 ?_
      refine v_iload_n G 4 dX0_put_45 rfl ?_
      refine v_sipush G (v := (255 : Int32)) dX0_put_46 (by decide) ?_
      refine v_iand G dX0_put_49 ?_
      refine v_iload G 0 dX0_put_50 rfl ?_
      refine v_ishl G dX0_put_52 ?_
      refine v_ior G dX0_put_53 ?_
      refine v_iast G hB.2.1 (vi_br (by assumption) (by assumption) hB.2.2) dX0_put_54 (fun S_5 eS_5 => ?_)
      exact v_vret G rfl rfl dX0_put_55
/-! SensorNode$Tray.hasRoom -/
theorem qyX6_hasRoom : yX6_hasRoom.cls ≠ "java/lang/invoke/MethodHandle" ∧ yX6_hasRoom.cls ≠ "java/lang/invoke/VarHandle" ∧ (parseMethodDescriptor yX6_hasRoom.desc).map (fun d => d.parameters.length) = some 0 := by decide +kernel
noncomputable def f_T_hasRoom (S : St) : Int32 := (if (8200 : Int32) < ((S 4 1) + (20 : Int32)) then (0 : Int32) else (if (65536 : Int32) < ((S 4 2) + (20 : Int32)) then (0 : Int32) else (1 : Int32)))
set_option linter.unusedVariables false in
set_option maxHeartbeats 4000000 in
set_option maxRecDepth 100000 in
theorem c_T_hasRoom (l : Launch) {X : vD} (hJ : sh_J X) (hX : shp X = shX)  (S : St)  : Con l X yX6_hasRoom cX6_hasRoom 1 (some .boolean) 0 [.ref (adr X 4)] S (some (.int (f_T_hasRoom S)), S) := by
  refine con_of (ρ := (fun r : Int32 => ((some (.int r), S) : Option Value × St))) (K := f_T_hasRoom S) hJ hX (by decide) (Nat.le_of_ble_eq_true rfl) (lv := [(0, .ref (adr X 4))]) rfl ?_
  intro p e s m below meth c G
  have G : vG p s m _ meth c X shX "SensorNode$Tray" cX6_hasRoom 1 (some .boolean) := G
  unfold f_T_hasRoom
  refine v_aload_n G 0 dX6_hasRoom_0 rfl ?_
  refine v_geti G (ci := 6) (T := TX6) (j := 1) inX6 rfl rfl rfl (by decide) w1_80 dX6_hasRoom_1 ?_
  refine v_bipush G (v := (20 : Int32)) dX6_hasRoom_4 (by decide) ?_
  refine v_iadd G dX6_hasRoom_6 ?_
  refine v_sipush G (v := (8200 : Int32)) dX6_hasRoom_7 (by decide) ?_
  refine v_icmp_gt G (tgt := 29) dX6_hasRoom_10 (by decide) (fun c_1 => ?_) (fun c_1 => ?_)
  · refine v_iconst G (v := (0 : Int32)) dX6_hasRoom_29 (by decide) ?_
    exact v_zret G rfl rfl rfl dX6_hasRoom_30
  · refine v_aload_n G 0 dX6_hasRoom_13 rfl ?_
    refine v_geti G (ci := 6) (T := TX6) (j := 2) inX6 rfl rfl rfl (by decide) w1_81 dX6_hasRoom_14 ?_
    refine v_bipush G (v := (20 : Int32)) dX6_hasRoom_17 (by decide) ?_
    refine v_iadd G dX6_hasRoom_19 ?_
    refine v_ldc G (v := (65536 : Int32)) dX6_hasRoom_20 w2_15 ?_
    refine v_icmp_gt G (tgt := 29) dX6_hasRoom_22 (by decide) (fun c_2 => ?_) (fun c_2 => ?_)
    · refine v_iconst G (v := (0 : Int32)) dX6_hasRoom_29 (by decide) ?_
      exact v_zret G rfl rfl rfl dX6_hasRoom_30
    · refine v_iconst G (v := (1 : Int32)) dX6_hasRoom_25 (by decide) ?_
      refine v_goto G (tgt := 30) dX6_hasRoom_26 (by decide) ?_
      exact v_zret G rfl rfl rfl dX6_hasRoom_30
/-! SensorNode$Tray.size -/
theorem qyX6_size : yX6_size.cls ≠ "java/lang/invoke/MethodHandle" ∧ yX6_size.cls ≠ "java/lang/invoke/VarHandle" ∧ (parseMethodDescriptor yX6_size.desc).map (fun d => d.parameters.length) = some 0 := by decide +kernel
noncomputable def f_T_size (S : St) : Int32 := S 4 1
set_option linter.unusedVariables false in
set_option maxHeartbeats 4000000 in
set_option maxRecDepth 100000 in
theorem c_T_size (l : Launch) {X : vD} (hJ : sh_J X) (hX : shp X = shX)  (S : St)  : Con l X yX6_size cX6_size 1 (some .int) 0 [.ref (adr X 4)] S (some (.int (f_T_size S)), S) := by
  refine con_of (ρ := (fun r : Int32 => ((some (.int r), S) : Option Value × St))) (K := f_T_size S) hJ hX (by decide) (Nat.le_of_ble_eq_true rfl) (lv := [(0, .ref (adr X 4))]) rfl ?_
  intro p e s m below meth c G
  have G : vG p s m _ meth c X shX "SensorNode$Tray" cX6_size 1 (some .int) := G
  unfold f_T_size
  refine v_aload_n G 0 dX6_size_0 rfl ?_
  refine v_geti G (ci := 6) (T := TX6) (j := 1) inX6 rfl rfl rfl (by decide) w1_80 dX6_size_1 ?_
  exact v_iret G rfl rfl dX6_size_4
/-! SensorNode$Tray.add -/
theorem qyX6_add : yX6_add.cls ≠ "java/lang/invoke/MethodHandle" ∧ yX6_add.cls ≠ "java/lang/invoke/VarHandle" ∧ (parseMethodDescriptor yX6_add.desc).map (fun d => d.parameters.length) = some 1 := by decide +kernel
noncomputable def f_T_add (S : St) (a1 : Int32) : St := bnv (f_B_put S 5 6 2050 (S 4 1) (ush a1 (24 : Int32))) (fun S_1 => bnv (st_up S_1 4 1 ((S_1 4 1) + (1 : Int32))) (fun S_2 => bnv (f_B_put S_2 5 6 2050 (S_2 4 1) (ush a1 (16 : Int32))) (fun S_3 => bnv (st_up S_3 4 1 ((S_3 4 1) + (1 : Int32))) (fun S_4 => bnv (f_B_put S_4 5 6 2050 (S_4 4 1) (ush a1 (8 : Int32))) (fun S_5 => bnv (st_up S_5 4 1 ((S_5 4 1) + (1 : Int32))) (fun S_6 => bnv (f_B_put S_6 5 6 2050 (S_6 4 1) (ush a1 (0 : Int32))) (fun S_7 => bnv (st_up S_7 4 1 ((S_7 4 1) + (1 : Int32))) (fun S_8 => bnv (st_up S_8 4 2 ((S_8 4 2) + (4 : Int32))) (fun S_9 => S_9)))))))))
set_option linter.unusedVariables false in
set_option maxHeartbeats 4000000 in
set_option maxRecDepth 100000 in
theorem c_T_add (l : Launch) {X : vD} (hJ : sh_J X) (hX : shp X = shX)  (S : St) (a1 : Int32)  : Con l X yX6_add cX6_add 3 none 1 [.ref (adr X 4), .int a1] S (none, f_T_add S a1) := by
  refine con_of (ρ := (fun S : St => ((none, S) : Option Value × St))) (K := f_T_add S a1) hJ hX (by decide) (Nat.le_of_ble_eq_true rfl) (lv := [(0, .ref (adr X 4)), (1, .int a1)]) rfl ?_
  intro p e s m below meth c G
  have G : vG p s m _ meth c X shX "SensorNode$Tray" cX6_add 3 none := G
  unfold f_T_add
  refine v_bipush G (v := (24 : Int32)) dX6_add_0 (by decide) ?_
  refine v_istore_n G [(2, .int (24 : Int32)), (0, .ref (adr X 4)), (1, .int a1)] dX6_add_2 (by decide) rfl ?_
  refine v_iload_n G 0 dX6_add_3 rfl ?_
  refine v_if_lt_f G (tgt := 37) dX6_add_4 (by decide) (by decide) ?_
  refine v_aload_n G 1 dX6_add_7 rfl ?_
  refine v_getr G (ci := 6) (T := TX6) (j := 0) inX6 rfl rfl rfl (by decide) w1_79 dX6_add_8 ?_
  refine v_aload_n G 1 dX6_add_11 rfl ?_
  refine v_geti G (ci := 6) (T := TX6) (j := 1) inX6 rfl rfl rfl (by decide) w1_80 dX6_add_12 ?_
  refine v_iload_n G 2 dX6_add_15 rfl ?_
  refine v_iload_n G 0 dX6_add_16 rfl ?_
  refine v_iushr G dX6_add_17 ?_
  refine v_callVv G (As := [.int (S 4 1), .int (ush a1 (24 : Int32))]) (st := []) (c_B_put l hJ hX 5 6 2050 ⟨rfl, rfl, by decide⟩ S (S 4 1) (ush a1 (24 : Int32))) (by decide) (by decide) (ci := 0) rfl rfl w2_20 w2_21 w2_22 w1_4 w2_23 qyX0_put rfl (Nat.le_of_ble_eq_true rfl) dX6_add_18 ?_
  refine v_bnv (fun S_1 eS_1 => ?_)
  refine v_aload_n G 1 dX6_add_21 rfl ?_
  refine v_dup G dX6_add_22 rfl ?_
  refine v_geti G (ci := 6) (T := TX6) (j := 1) inX6 rfl rfl rfl (by decide) w1_80 dX6_add_23 ?_
  refine v_iconst G (v := (1 : Int32)) dX6_add_26 (by decide) ?_
  refine v_iadd G dX6_add_27 ?_
  refine v_puti G (ci := 6) (T := TX6) (j := 1) inX6 rfl rfl tyX6_ok nmX6 rfl (by decide) rfl rfl rfl w1_80 dX6_add_28 (fun S_2 eS_2 => ?_)
  refine v_iinc G (v := (16 : Int32)) 0 [(2, .int (16 : Int32)), (0, .ref (adr X 4)), (1, .int a1)] dX6_add_31 rfl (by decide) (by decide) rfl ?_
  refine v_goto G (tgt := 3) dX6_add_34 (by decide) ?_
  refine v_iload_n G 0 dX6_add_3 rfl ?_
  refine v_if_lt_f G (tgt := 37) dX6_add_4 (by decide) (by decide) ?_
  refine v_aload_n G 1 dX6_add_7 rfl ?_
  refine v_getr G (ci := 6) (T := TX6) (j := 0) inX6 rfl rfl rfl (by decide) w1_79 dX6_add_8 ?_
  refine v_aload_n G 1 dX6_add_11 rfl ?_
  refine v_geti G (ci := 6) (T := TX6) (j := 1) inX6 rfl rfl rfl (by decide) w1_80 dX6_add_12 ?_
  refine v_iload_n G 2 dX6_add_15 rfl ?_
  refine v_iload_n G 0 dX6_add_16 rfl ?_
  refine v_iushr G dX6_add_17 ?_
  refine v_callVv G (As := [.int (S_2 4 1), .int (ush a1 (16 : Int32))]) (st := []) (c_B_put l hJ hX 5 6 2050 ⟨rfl, rfl, by decide⟩ S_2 (S_2 4 1) (ush a1 (16 : Int32))) (by decide) (by decide) (ci := 0) rfl rfl w2_20 w2_21 w2_22 w1_4 w2_23 qyX0_put rfl (Nat.le_of_ble_eq_true rfl) dX6_add_18 ?_
  refine v_bnv (fun S_3 eS_3 => ?_)
  refine v_aload_n G 1 dX6_add_21 rfl ?_
  refine v_dup G dX6_add_22 rfl ?_
  refine v_geti G (ci := 6) (T := TX6) (j := 1) inX6 rfl rfl rfl (by decide) w1_80 dX6_add_23 ?_
  refine v_iconst G (v := (1 : Int32)) dX6_add_26 (by decide) ?_
  refine v_iadd G dX6_add_27 ?_
  refine v_puti G (ci := 6) (T := TX6) (j := 1) inX6 rfl rfl tyX6_ok nmX6 rfl (by decide) rfl rfl rfl w1_80 dX6_add_28 (fun S_4 eS_4 => ?_)
  refine v_iinc G (v := (8 : Int32)) 0 [(2, .int (8 : Int32)), (0, .ref (adr X 4)), (1, .int a1)] dX6_add_31 rfl (by decide) (by decide) rfl ?_
  refine v_goto G (tgt := 3) dX6_add_34 (by decide) ?_
  refine v_iload_n G 0 dX6_add_3 rfl ?_
  refine v_if_lt_f G (tgt := 37) dX6_add_4 (by decide) (by decide) ?_
  refine v_aload_n G 1 dX6_add_7 rfl ?_
  refine v_getr G (ci := 6) (T := TX6) (j := 0) inX6 rfl rfl rfl (by decide) w1_79 dX6_add_8 ?_
  refine v_aload_n G 1 dX6_add_11 rfl ?_
  refine v_geti G (ci := 6) (T := TX6) (j := 1) inX6 rfl rfl rfl (by decide) w1_80 dX6_add_12 ?_
  refine v_iload_n G 2 dX6_add_15 rfl ?_
  refine v_iload_n G 0 dX6_add_16 rfl ?_
  refine v_iushr G dX6_add_17 ?_
  refine v_callVv G (As := [.int (S_4 4 1), .int (ush a1 (8 : Int32))]) (st := []) (c_B_put l hJ hX 5 6 2050 ⟨rfl, rfl, by decide⟩ S_4 (S_4 4 1) (ush a1 (8 : Int32))) (by decide) (by decide) (ci := 0) rfl rfl w2_20 w2_21 w2_22 w1_4 w2_23 qyX0_put rfl (Nat.le_of_ble_eq_true rfl) dX6_add_18 ?_
  refine v_bnv (fun S_5 eS_5 => ?_)
  refine v_aload_n G 1 dX6_add_21 rfl ?_
  refine v_dup G dX6_add_22 rfl ?_
  refine v_geti G (ci := 6) (T := TX6) (j := 1) inX6 rfl rfl rfl (by decide) w1_80 dX6_add_23 ?_
  refine v_iconst G (v := (1 : Int32)) dX6_add_26 (by decide) ?_
  refine v_iadd G dX6_add_27 ?_
  refine v_puti G (ci := 6) (T := TX6) (j := 1) inX6 rfl rfl tyX6_ok nmX6 rfl (by decide) rfl rfl rfl w1_80 dX6_add_28 (fun S_6 eS_6 => ?_)
  refine v_iinc G (v := (0 : Int32)) 0 [(2, .int (0 : Int32)), (0, .ref (adr X 4)), (1, .int a1)] dX6_add_31 rfl (by decide) (by decide) rfl ?_
  refine v_goto G (tgt := 3) dX6_add_34 (by decide) ?_
  refine v_iload_n G 0 dX6_add_3 rfl ?_
  refine v_if_lt_f G (tgt := 37) dX6_add_4 (by decide) (by decide) ?_
  refine v_aload_n G 1 dX6_add_7 rfl ?_
  refine v_getr G (ci := 6) (T := TX6) (j := 0) inX6 rfl rfl rfl (by decide) w1_79 dX6_add_8 ?_
  refine v_aload_n G 1 dX6_add_11 rfl ?_
  refine v_geti G (ci := 6) (T := TX6) (j := 1) inX6 rfl rfl rfl (by decide) w1_80 dX6_add_12 ?_
  refine v_iload_n G 2 dX6_add_15 rfl ?_
  refine v_iload_n G 0 dX6_add_16 rfl ?_
  refine v_iushr G dX6_add_17 ?_
  refine v_callVv G (As := [.int (S_6 4 1), .int (ush a1 (0 : Int32))]) (st := []) (c_B_put l hJ hX 5 6 2050 ⟨rfl, rfl, by decide⟩ S_6 (S_6 4 1) (ush a1 (0 : Int32))) (by decide) (by decide) (ci := 0) rfl rfl w2_20 w2_21 w2_22 w1_4 w2_23 qyX0_put rfl (Nat.le_of_ble_eq_true rfl) dX6_add_18 ?_
  refine v_bnv (fun S_7 eS_7 => ?_)
  refine v_aload_n G 1 dX6_add_21 rfl ?_
  refine v_dup G dX6_add_22 rfl ?_
  refine v_geti G (ci := 6) (T := TX6) (j := 1) inX6 rfl rfl rfl (by decide) w1_80 dX6_add_23 ?_
  refine v_iconst G (v := (1 : Int32)) dX6_add_26 (by decide) ?_
  refine v_iadd G dX6_add_27 ?_
  refine v_puti G (ci := 6) (T := TX6) (j := 1) inX6 rfl rfl tyX6_ok nmX6 rfl (by decide) rfl rfl rfl w1_80 dX6_add_28 (fun S_8 eS_8 => ?_)
  refine v_iinc G (v := (-8 : Int32)) 0 [(2, .int (-8 : Int32)), (0, .ref (adr X 4)), (1, .int a1)] dX6_add_31 rfl (by decide) (by decide) rfl ?_
  refine v_goto G (tgt := 3) dX6_add_34 (by decide) ?_
  refine v_iload_n G 0 dX6_add_3 rfl ?_
  refine v_if_lt_t G (tgt := 37) dX6_add_4 (by decide) (by decide) ?_
  refine v_aload_n G 1 dX6_add_37 rfl ?_
  refine v_dup G dX6_add_38 rfl ?_
  refine v_geti G (ci := 6) (T := TX6) (j := 2) inX6 rfl rfl rfl (by decide) w1_81 dX6_add_39 ?_
  refine v_iconst G (v := (4 : Int32)) dX6_add_42 (by decide) ?_
  refine v_iadd G dX6_add_43 ?_
  refine v_puti G (ci := 6) (T := TX6) (j := 2) inX6 rfl rfl tyX6_ok nmX6 rfl (by decide) rfl rfl rfl w1_81 dX6_add_44 (fun S_9 eS_9 => ?_)
  exact v_vret G rfl rfl dX6_add_47
/-! SensorNode$Tray.shorten -/
theorem qyX6_shorten : yX6_shorten.cls ≠ "java/lang/invoke/MethodHandle" ∧ yX6_shorten.cls ≠ "java/lang/invoke/VarHandle" ∧ (parseMethodDescriptor yX6_shorten.desc).map (fun d => d.parameters.length) = some 1 := by decide +kernel
noncomputable def f_T_shorten (S : St) (a1 : Int32) : Int32 × St := (if a1 < 0 then ((0 : Int32), S) else (if (S 4 1) < a1 then ((0 : Int32), S) else bnv (st_up S 4 1 a1) (fun S_3 => ((1 : Int32), S_3))))
set_option linter.unusedVariables false in
set_option maxHeartbeats 4000000 in
set_option maxRecDepth 100000 in
theorem c_T_shorten (l : Launch) {X : vD} (hJ : sh_J X) (hX : shp X = shX)  (S : St) (a1 : Int32)  : Con l X yX6_shorten cX6_shorten 2 (some .boolean) 0 [.ref (adr X 4), .int a1] S (some (.int (f_T_shorten S a1).1), (f_T_shorten S a1).2) := by
  refine con_of (ρ := (fun q : Int32 × St => ((some (.int q.1), q.2) : Option Value × St))) (K := f_T_shorten S a1) hJ hX (by decide) (Nat.le_of_ble_eq_true rfl) (lv := [(0, .ref (adr X 4)), (1, .int a1)]) rfl ?_
  intro p e s m below meth c G
  generalize hρ0 : (fun q : Int32 × St => ((some (.int q.1), q.2) : Option Value × St)) = ρ
  have hρ : ∀ q : Int32 × St, ρ q = ((some (.int q.1), q.2) : Option Value × St) := fun q => by rw [← hρ0]
  have G : vG p s m _ meth c X shX "SensorNode$Tray" cX6_shorten 2 (some .boolean) := G
  unfold f_T_shorten
  refine v_iload_n G 1 dX6_shorten_0 rfl ?_
  refine v_if_lt G (tgt := 12) dX6_shorten_1 (by decide) (fun c_1 => ?_) (fun c_1 => ?_)
  · refine v_iconst G (v := (0 : Int32)) dX6_shorten_12 (by decide) ?_
    exact v_zret G rfl rfl (hρ _) dX6_shorten_13
  · refine v_iload_n G 1 dX6_shorten_4 rfl ?_
    refine v_aload_n G 0 dX6_shorten_5 rfl ?_
    refine v_geti G (ci := 6) (T := TX6) (j := 1) inX6 rfl rfl rfl (by decide) w1_80 dX6_shorten_6 ?_
    refine v_icmp_le G (tgt := 14) dX6_shorten_9 (by decide) (fun c_2 => ?_) (fun c_2 => ?_)
    · refine v_aload_n G 0 dX6_shorten_14 rfl ?_
      refine v_iload_n G 1 dX6_shorten_15 rfl ?_
      refine v_puti G (ci := 6) (T := TX6) (j := 1) inX6 rfl rfl tyX6_ok nmX6 rfl (by decide) rfl rfl rfl w1_80 dX6_shorten_16 (fun S_3 eS_3 => ?_)
      refine v_iconst G (v := (1 : Int32)) dX6_shorten_19 (by decide) ?_
      exact v_zret G rfl rfl (hρ _) dX6_shorten_20
    · refine v_iconst G (v := (0 : Int32)) dX6_shorten_12 (by decide) ?_
      exact v_zret G rfl rfl (hρ _) dX6_shorten_13
/-! SensorNode$Tray.get -/
theorem qyX6_get : yX6_get.cls ≠ "java/lang/invoke/MethodHandle" ∧ yX6_get.cls ≠ "java/lang/invoke/VarHandle" ∧ (parseMethodDescriptor yX6_get.desc).map (fun d => d.parameters.length) = some 1 := by decide +kernel
noncomputable def f_T_get (S : St) (a1 : Int32) : Int32 := f_B_get S 5 6 2050 a1
set_option linter.unusedVariables false in
set_option maxHeartbeats 4000000 in
set_option maxRecDepth 100000 in
theorem c_T_get (l : Launch) {X : vD} (hJ : sh_J X) (hX : shp X = shX)  (S : St) (a1 : Int32)  : Con l X yX6_get cX6_get 2 (some .int) 1 [.ref (adr X 4), .int a1] S (some (.int (f_T_get S a1)), S) := by
  refine con_of (ρ := (fun r : Int32 => ((some (.int r), S) : Option Value × St))) (K := f_T_get S a1) hJ hX (by decide) (Nat.le_of_ble_eq_true rfl) (lv := [(0, .ref (adr X 4)), (1, .int a1)]) rfl ?_
  intro p e s m below meth c G
  have G : vG p s m _ meth c X shX "SensorNode$Tray" cX6_get 2 (some .int) := G
  unfold f_T_get
  refine v_aload_n G 0 dX6_get_0 rfl ?_
  refine v_getr G (ci := 6) (T := TX6) (j := 0) inX6 rfl rfl rfl (by decide) w1_79 dX6_get_1 ?_
  refine v_iload_n G 1 dX6_get_4 rfl ?_
  refine v_callVi G (As := [.int a1]) (st := []) (c_B_get l hJ hX 5 6 2050 ⟨rfl, rfl, by decide⟩ S a1) (by decide) (by decide) (ci := 0) rfl rfl w2_56 w2_57 w2_58 w1_4 w2_59 qyX0_get rfl (Nat.le_of_ble_eq_true rfl) dX6_get_5 ?_
  exact v_iret G rfl rfl dX6_get_8

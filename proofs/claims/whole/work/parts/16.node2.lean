/-! SensorNode$Node.needsEntry -/
theorem qyX2_needsEntry : yX2_needsEntry.cls ≠ "java/lang/invoke/MethodHandle" ∧ yX2_needsEntry.cls ≠ "java/lang/invoke/VarHandle" ∧ (parseMethodDescriptor yX2_needsEntry.desc).map (fun d => d.parameters.length) = some 0 := by decide +kernel
noncomputable def f_N_needsEntry (S : St) : Int32 := bnx (f_G_cellWritten S 17 18 19 16 6219) (fun x_1 => (if (f_G_kind S 17 18 19 16 6219) = (4 : Int32) then (if x_1 < 0 then (0 : Int32) else (if x_1 < (nI 2048) then (if (S 8 x_1.toNatClampNeg) = (S 7 6) then (0 : Int32) else (1 : Int32)) else (0 : Int32))) else (0 : Int32)))
set_option linter.unusedVariables false in
set_option maxHeartbeats 4000000 in
set_option maxRecDepth 100000 in
theorem c_N_needsEntry (l : Launch) {X : vD} (hJ : sh_J X) (hX : shp X = shX)  (S : St)  : Con l X yX2_needsEntry cX2_needsEntry 2 (some .boolean) 1 [.ref (adr X 7)] S (some (.int (f_N_needsEntry S)), S) := by
  refine con_of (ρ := (fun r : Int32 => ((some (.int r), S) : Option Value × St))) (K := f_N_needsEntry S) hJ hX (by decide) (Nat.le_of_ble_eq_true rfl) (lv := [(0, .ref (adr X 7))]) rfl ?_
  intro p e s m below meth c G
  have G : vG p s m _ meth c X shX "SensorNode$Node" cX2_needsEntry 2 (some .boolean) := G
  unfold f_N_needsEntry
  refine v_aload_n G 0 dX2_needsEntry_0 rfl ?_
  refine v_getr G (ci := 2) (T := TX2) (j := 5) inX2 rfl rfl rfl (by decide) w1_164 dX2_needsEntry_1 ?_
  refine v_callVi G (As := []) (st := []) (c_G_cellWritten l hJ hX 17 18 19 16 6219 ⟨rfl, rfl, rfl, rfl, by decide⟩ S) (by decide) (by decide) (ci := 1) rfl rfl w3_2 w3_3 w3_4 w1_7 w3_5 qyX1_cellWritten rfl (Nat.le_of_ble_eq_true rfl) dX2_needsEntry_4 ?_
  refine v_namei (fun x_1 ex_1 => ?_)
  refine v_istore_n G [(1, .int x_1), (0, .ref (adr X 7))] dX2_needsEntry_7 (by decide) rfl ?_
  refine v_aload_n G 1 dX2_needsEntry_8 rfl ?_
  refine v_getr G (ci := 2) (T := TX2) (j := 5) inX2 rfl rfl rfl (by decide) w1_164 dX2_needsEntry_9 ?_
  refine v_callVi G (As := []) (st := []) (c_G_kind l hJ hX 17 18 19 16 6219 ⟨rfl, rfl, rfl, rfl, by decide⟩ S) (by decide) (by decide) (ci := 1) rfl rfl w2_234 w2_235 w2_236 w1_7 w2_237 qyX1_kind rfl (Nat.le_of_ble_eq_true rfl) dX2_needsEntry_12 ?_
  refine v_iconst G (v := (4 : Int32)) dX2_needsEntry_15 (by decide) ?_
  refine v_icmp_ne G (tgt := 49) dX2_needsEntry_16 (by decide) (fun c_2 => ?_) (fun c_2 => ?_)
  · refine v_iconst G (v := (0 : Int32)) dX2_needsEntry_49 (by decide) ?_
    exact v_zret G rfl rfl rfl dX2_needsEntry_50
  · refine v_iload_n G 0 dX2_needsEntry_19 rfl ?_
    refine v_if_lt G (tgt := 49) dX2_needsEntry_20 (by decide) (fun c_3 => ?_) (fun c_3 => ?_)
    · refine v_iconst G (v := (0 : Int32)) dX2_needsEntry_49 (by decide) ?_
      exact v_zret G rfl rfl rfl dX2_needsEntry_50
    · refine v_iload_n G 0 dX2_needsEntry_23 rfl ?_
      refine v_aload_n G 1 dX2_needsEntry_24 rfl ?_
      refine v_getr G (ci := 2) (T := TX2) (j := 2) inX2 rfl rfl rfl (by decide) w1_161 dX2_needsEntry_25 ?_
      refine v_alen G (ty := .int) rfl rfl dX2_needsEntry_28 ?_
      refine v_icmp_ge G (tgt := 49) dX2_needsEntry_29 (by decide) (fun c_4 => ?_) (fun c_4 => ?_)
      · refine v_iconst G (v := (0 : Int32)) dX2_needsEntry_49 (by decide) ?_
        exact v_zret G rfl rfl rfl dX2_needsEntry_50
      · refine v_aload_n G 1 dX2_needsEntry_32 rfl ?_
        refine v_getr G (ci := 2) (T := TX2) (j := 2) inX2 rfl rfl rfl (by decide) w1_161 dX2_needsEntry_33 ?_
        refine v_iload_n G 0 dX2_needsEntry_36 rfl ?_
        refine v_iald G rfl (vi_br (by assumption) (by assumption) (by decide)) dX2_needsEntry_37 ?_
        refine v_aload_n G 1 dX2_needsEntry_38 rfl ?_
        refine v_geti G (ci := 2) (T := TX2) (j := 6) inX2 rfl rfl rfl (by decide) w1_165 dX2_needsEntry_39 ?_
        refine v_icmp_eq G (tgt := 49) dX2_needsEntry_42 (by decide) (fun c_5 => ?_) (fun c_5 => ?_)
        · refine v_iconst G (v := (0 : Int32)) dX2_needsEntry_49 (by decide) ?_
          exact v_zret G rfl rfl rfl dX2_needsEntry_50
        · refine v_iconst G (v := (1 : Int32)) dX2_needsEntry_45 (by decide) ?_
          refine v_goto G (tgt := 50) dX2_needsEntry_46 (by decide) ?_
          exact v_zret G rfl rfl rfl dX2_needsEntry_50
/-! SensorNode$Node.needsCheckpoint -/
theorem qyX2_needsCheckpoint : yX2_needsCheckpoint.cls ≠ "java/lang/invoke/MethodHandle" ∧ yX2_needsCheckpoint.cls ≠ "java/lang/invoke/VarHandle" ∧ (parseMethodDescriptor yX2_needsCheckpoint.desc).map (fun d => d.parameters.length) = some 0 := by decide +kernel
noncomputable def f_N_needsCheckpoint (S : St) : Int32 := (if (f_G_kind S 17 18 19 16 6219) = (2 : Int32) then (if 0 < (S 7 9) then (1 : Int32) else (0 : Int32)) else (if (f_N_needsEntry S) = 0 then (0 : Int32) else (if (f_N_entriesThatCount S) < (S 1 6) then (0 : Int32) else (1 : Int32))))
set_option linter.unusedVariables false in
set_option maxHeartbeats 4000000 in
set_option maxRecDepth 100000 in
theorem c_N_needsCheckpoint (l : Launch) {X : vD} (hJ : sh_J X) (hX : shp X = shX)  (S : St)  : Con l X yX2_needsCheckpoint cX2_needsCheckpoint 1 (some .boolean) 2 [.ref (adr X 7)] S (some (.int (f_N_needsCheckpoint S)), S) := by
  refine con_of (ρ := (fun r : Int32 => ((some (.int r), S) : Option Value × St))) (K := f_N_needsCheckpoint S) hJ hX (by decide) (Nat.le_of_ble_eq_true rfl) (lv := [(0, .ref (adr X 7))]) rfl ?_
  intro p e s m below meth c G
  have G : vG p s m _ meth c X shX "SensorNode$Node" cX2_needsCheckpoint 1 (some .boolean) := G
  unfold f_N_needsCheckpoint
  refine v_aload_n G 0 dX2_needsCheckpoint_0 rfl ?_
  refine v_getr G (ci := 2) (T := TX2) (j := 5) inX2 rfl rfl rfl (by decide) w1_164 dX2_needsCheckpoint_1 ?_
  refine v_callVi G (As := []) (st := []) (c_G_kind l hJ hX 17 18 19 16 6219 ⟨rfl, rfl, rfl, rfl, by decide⟩ S) (by decide) (by decide) (ci := 1) rfl rfl w2_234 w2_235 w2_236 w1_7 w2_237 qyX1_kind rfl (Nat.le_of_ble_eq_true rfl) dX2_needsCheckpoint_4 ?_
  refine v_iconst G (v := (2 : Int32)) dX2_needsCheckpoint_7 (by decide) ?_
  refine v_icmp_ne G (tgt := 24) dX2_needsCheckpoint_8 (by decide) (fun c_1 => ?_) (fun c_1 => ?_)
  · refine v_aload_n G 0 dX2_needsCheckpoint_24 rfl ?_
    refine v_callVi G (As := []) (st := []) (c_N_needsEntry l hJ hX S) (by decide) (by decide) (ci := 2) rfl rfl w2_238 w3_0 w0_18 w1_5 w3_1 qyX2_needsEntry rfl (Nat.le_of_ble_eq_true rfl) dX2_needsCheckpoint_25 ?_
    refine v_if_eq G (tgt := 49) dX2_needsCheckpoint_28 (by decide) (fun c_2 => ?_) (fun c_2 => ?_)
    · refine v_iconst G (v := (0 : Int32)) dX2_needsCheckpoint_49 (by decide) ?_
      exact v_zret G rfl rfl rfl dX2_needsCheckpoint_50
    · refine v_aload_n G 0 dX2_needsCheckpoint_31 rfl ?_
      refine v_callVi G (As := []) (st := []) (c_N_entriesThatCount l hJ hX S) (by decide) (by decide) (ci := 2) rfl rfl w2_126 w2_128 w0_3 w1_5 w2_129 qyX2_entriesThatCount rfl (Nat.le_of_ble_eq_true rfl) dX2_needsCheckpoint_32 ?_
      refine v_aload_n G 0 dX2_needsCheckpoint_35 rfl ?_
      refine v_getr G (ci := 2) (T := TX2) (j := 0) inX2 rfl rfl rfl (by decide) w1_159 dX2_needsCheckpoint_36 ?_
      refine v_getNi G (ci := 4) (T := TX4) (j := 6) inX4 rfl rfl rfl (by decide) (host := "SensorNode") (List.mem_of_getElem? (i := 4) rfl) dX2_needsCheckpoint_39 ?_
      refine v_icmp_lt G (tgt := 49) dX2_needsCheckpoint_42 (by decide) (fun c_3 => ?_) (fun c_3 => ?_)
      · refine v_iconst G (v := (0 : Int32)) dX2_needsCheckpoint_49 (by decide) ?_
        exact v_zret G rfl rfl rfl dX2_needsCheckpoint_50
      · refine v_iconst G (v := (1 : Int32)) dX2_needsCheckpoint_45 (by decide) ?_
        refine v_goto G (tgt := 50) dX2_needsCheckpoint_46 (by decide) ?_
        exact v_zret G rfl rfl rfl dX2_needsCheckpoint_50
  · refine v_aload_n G 0 dX2_needsCheckpoint_11 rfl ?_
    refine v_geti G (ci := 2) (T := TX2) (j := 9) inX2 rfl rfl rfl (by decide) w1_168 dX2_needsCheckpoint_12 ?_
    refine v_if_le G (tgt := 22) dX2_needsCheckpoint_15 (by decide) (fun c_4 => ?_) (fun c_4 => ?_)
    · refine v_iconst G (v := (0 : Int32)) dX2_needsCheckpoint_22 (by decide) ?_
      exact v_zret G rfl rfl rfl dX2_needsCheckpoint_23
    · refine v_iconst G (v := (1 : Int32)) dX2_needsCheckpoint_18 (by decide) ?_
      refine v_goto G (tgt := 23) dX2_needsCheckpoint_19 (by decide) ?_
      exact v_zret G rfl rfl rfl dX2_needsCheckpoint_23
/-! SensorNode$Node.choose -/
theorem qyX2_choose : yX2_choose.cls ≠ "java/lang/invoke/MethodHandle" ∧ yX2_choose.cls ≠ "java/lang/invoke/VarHandle" ∧ (parseMethodDescriptor yX2_choose.desc).map (fun d => d.parameters.length) = some 0 := by decide +kernel
noncomputable def f_N_choose (S : St) : St := bnv (st_up S 7 8 (0 : Int32)) (fun S_1 => (if (S_1 7 9) = (S_1 1 7) then bnv (st_up S_1 7 7 (4 : Int32)) (fun S_10 => S_10) else bnd (f_G_look S_1 17 18 19 16 6219) (fun r_4 S_3 => (if r_4 = 0 then (if (f_N_needsCheckpoint S_3) = 0 then bnv (st_up S_3 7 7 (5 : Int32)) (fun S_7 => S_7) else bnv (st_up S_3 7 7 (4 : Int32)) (fun S_8 => S_8)) else bnv (st_up S_3 7 7 r_4) (fun S_9 => S_9)))))
set_option linter.unusedVariables false in
set_option maxHeartbeats 4000000 in
set_option maxRecDepth 100000 in
theorem c_N_choose (l : Launch) {X : vD} (hJ : sh_J X) (hX : shp X = shX)  (S : St)  : Con l X yX2_choose cX2_choose 2 none 4 [.ref (adr X 7)] S (none, f_N_choose S) := by
  refine con_of (ρ := (fun S : St => ((none, S) : Option Value × St))) (K := f_N_choose S) hJ hX (by decide) (Nat.le_of_ble_eq_true rfl) (lv := [(0, .ref (adr X 7))]) rfl ?_
  intro p e s m below meth c G
  have G : vG p s m _ meth c X shX "SensorNode$Node" cX2_choose 2 none := G
  unfold f_N_choose
  refine v_aload_n G 0 dX2_choose_0 rfl ?_
  refine v_iconst G (v := (0 : Int32)) dX2_choose_1 (by decide) ?_
  refine v_puti G (ci := 2) (T := TX2) (j := 8) inX2 rfl rfl tyX2_ok nmX2 rfl (by decide) rfl rfl rfl w1_167 dX2_choose_2 (fun S_1 eS_1 => ?_)
  refine v_aload_n G 0 dX2_choose_5 rfl ?_
  refine v_geti G (ci := 2) (T := TX2) (j := 9) inX2 rfl rfl rfl (by decide) w1_168 dX2_choose_6 ?_
  refine v_aload_n G 0 dX2_choose_9 rfl ?_
  refine v_getr G (ci := 2) (T := TX2) (j := 0) inX2 rfl rfl rfl (by decide) w1_159 dX2_choose_10 ?_
  refine v_getNi G (ci := 4) (T := TX4) (j := 7) inX4 rfl rfl rfl (by decide) (host := "SensorNode") (List.mem_of_getElem? (i := 5) rfl) dX2_choose_13 ?_
  refine v_icmp_ne G (tgt := 25) dX2_choose_16 (by decide) (fun c_2 => ?_) (fun c_2 => ?_)
  · refine v_aload_n G 0 dX2_choose_25 rfl ?_
    refine v_getr G (ci := 2) (T := TX2) (j := 5) inX2 rfl rfl rfl (by decide) w1_164 dX2_choose_26 ?_
    refine v_callVi G (As := []) (st := []) (c_G_look l hJ hX 17 18 19 16 6219 ⟨rfl, rfl, rfl, rfl, by decide⟩ S_1) (by decide) (by decide) (ci := 1) rfl rfl w2_154 w2_155 w2_156 w1_7 w2_157 qyX1_look rfl (Nat.le_of_ble_eq_true rfl) dX2_choose_29 ?_
    refine v_bnd (fun r_4 S_3 eS_3 => ?_)
    refine v_istore_n G [(1, .int r_4), (0, .ref (adr X 7))] dX2_choose_32 (by decide) rfl ?_
    refine v_iload_n G 0 dX2_choose_33 rfl ?_
    refine v_if_eq G (tgt := 45) dX2_choose_34 (by decide) (fun c_5 => ?_) (fun c_5 => ?_)
    · refine v_aload_n G 1 dX2_choose_45 rfl ?_
      refine v_aload_n G 1 dX2_choose_46 rfl ?_
      refine v_callVi G (As := []) (st := [.ref (adr X 7)]) (c_N_needsCheckpoint l hJ hX S_3) (by decide) (by decide) (ci := 2) rfl rfl w2_230 w2_232 w0_17 w1_5 w2_233 qyX2_needsCheckpoint rfl (Nat.le_of_ble_eq_true rfl) dX2_choose_47 ?_
      refine v_if_eq G (tgt := 57) dX2_choose_50 (by decide) (fun c_6 => ?_) (fun c_6 => ?_)
      · refine v_iconst G (v := (5 : Int32)) dX2_choose_57 (by decide) ?_
        refine v_puti G (ci := 2) (T := TX2) (j := 7) inX2 rfl rfl tyX2_ok nmX2 rfl (by decide) rfl rfl rfl w1_166 dX2_choose_58 (fun S_7 eS_7 => ?_)
        exact v_vret G rfl rfl dX2_choose_61
      · refine v_iconst G (v := (4 : Int32)) dX2_choose_53 (by decide) ?_
        refine v_goto G (tgt := 58) dX2_choose_54 (by decide) ?_
        refine v_puti G (ci := 2) (T := TX2) (j := 7) inX2 rfl rfl tyX2_ok nmX2 rfl (by decide) rfl rfl rfl w1_166 dX2_choose_58 (fun S_8 eS_8 => ?_)
        exact v_vret G rfl rfl dX2_choose_61
    · refine v_aload_n G 1 dX2_choose_37 rfl ?_
      refine v_iload_n G 0 dX2_choose_38 rfl ?_
      refine v_puti G (ci := 2) (T := TX2) (j := 7) inX2 rfl rfl tyX2_ok nmX2 rfl (by decide) rfl rfl rfl w1_166 dX2_choose_39 (fun S_9 eS_9 => ?_)
      refine v_goto G (tgt := 61) dX2_choose_42 (by decide) ?_
      exact v_vret G rfl rfl dX2_choose_61
  · refine v_aload_n G 0 dX2_choose_19 rfl ?_
    refine v_iconst G (v := (4 : Int32)) dX2_choose_20 (by decide) ?_
    refine v_puti G (ci := 2) (T := TX2) (j := 7) inX2 rfl rfl tyX2_ok nmX2 rfl (by decide) rfl rfl rfl w1_166 dX2_choose_21 (fun S_10 eS_10 => ?_)
    exact v_vret G rfl rfl dX2_choose_24
/-! SensorNode$Node.boot -/
theorem qyX2_boot : yX2_boot.cls ≠ "java/lang/invoke/MethodHandle" ∧ yX2_boot.cls ≠ "java/lang/invoke/VarHandle" ∧ (parseMethodDescriptor yX2_boot.desc).map (fun d => d.parameters.length) = some 0 := by decide +kernel
noncomputable def f_N_boot (S : St) : St := (if (ush (S 16 (1 : Int32).toNatClampNeg) (16 : Int32)) = (f_N_generation S) then bnx ((f_N_entriesThatCount S) - (S 7 8)) (fun x_4 => (if 0 < x_4 then bnx ((S 7 11) + ((2 : Int32) * (x_4 - (1 : Int32)))) (fun x_8 => bnv (f_N_write S (f_N_stored S x_8) (f_N_stored S (x_8 + (1 : Int32)))) (fun S_9 => bnv (st_up S_9 9 (6 : Int32).toNatClampNeg ((S_9 9 (6 : Int32).toNatClampNeg) + (1 : Int32))) (fun S_10 => bnv (st_up S_10 7 8 ((S_10 7 8) + (1 : Int32))) (fun S_11 => S_11)))) else bnv (f_N_write S (1 : Int32) ((f_N_generation S) <<< ((16 : Int32) &&& 31))) (fun S_6 => bnv (st_up S_6 7 7 (3 : Int32)) (fun S_7 => S_7)))) else bnv (f_N_write S (1 : Int32) ((f_N_generation S) <<< ((16 : Int32) &&& 31))) (fun S_2 => bnv (st_up S_2 7 7 (3 : Int32)) (fun S_3 => S_3)))
set_option linter.unusedVariables false in
set_option maxHeartbeats 4000000 in
set_option maxRecDepth 100000 in
theorem c_N_boot (l : Launch) {X : vD} (hJ : sh_J X) (hX : shp X = shX)  (S : St)  : Con l X yX2_boot cX2_boot 4 none 1 [.ref (adr X 7)] S (none, f_N_boot S) := by
  refine con_of (ρ := (fun S : St => ((none, S) : Option Value × St))) (K := f_N_boot S) hJ hX (by decide) (Nat.le_of_ble_eq_true rfl) (lv := [(0, .ref (adr X 7))]) rfl ?_
  intro p e s m below meth c G
  have G : vG p s m _ meth c X shX "SensorNode$Node" cX2_boot 4 none := G
  unfold f_N_boot
  refine v_aload_n G 0 dX2_boot_0 rfl ?_
  refine v_getr G (ci := 2) (T := TX2) (j := 1) inX2 rfl rfl rfl (by decide) w1_160 dX2_boot_1 ?_
  refine v_iconst G (v := (1 : Int32)) dX2_boot_4 (by decide) ?_
  refine v_iald G rfl (by unfold vp_in; decide) dX2_boot_5 ?_
  refine v_bipush G (v := (16 : Int32)) dX2_boot_6 (by decide) ?_
  refine v_iushr G dX2_boot_8 ?_
  refine v_aload_n G 0 dX2_boot_9 rfl ?_
  refine v_callVi G (As := []) (st := [.int (ush (S 16 (1 : Int32).toNatClampNeg) (16 : Int32))]) (c_N_generation l hJ hX S) (by decide) (by decide) (ci := 2) rfl rfl w2_105 w2_107 w0_0 w1_5 w2_108 qyX2_generation rfl (Nat.le_of_ble_eq_true rfl) dX2_boot_10 ?_
  refine v_icmp_ne G (tgt := 20) dX2_boot_13 (by decide) (fun c_1 => ?_) (fun c_1 => ?_)
  · refine v_iconst G (v := (0 : Int32)) dX2_boot_20 (by decide) ?_
    refine v_istore_n G [(1, .int (0 : Int32)), (0, .ref (adr X 7))] dX2_boot_21 (by decide) rfl ?_
    refine v_iload_n G 0 dX2_boot_22 rfl ?_
    refine v_if_eq_t G (tgt := 38) dX2_boot_23 (by decide) (by decide) ?_
    refine v_iconst G (v := (0 : Int32)) dX2_boot_38 (by decide) ?_
    refine v_istore_n G [(2, .int (0 : Int32)), (1, .int (0 : Int32)), (0, .ref (adr X 7))] dX2_boot_39 (by decide) rfl ?_
    refine v_iload_n G 0 dX2_boot_40 rfl ?_
    refine v_if_le_t G (tgt := 95) dX2_boot_41 (by decide) (by decide) ?_
    refine v_aload_n G 2 dX2_boot_95 rfl ?_
    refine v_iconst G (v := (1 : Int32)) dX2_boot_96 (by decide) ?_
    refine v_aload_n G 2 dX2_boot_97 rfl ?_
    refine v_callVi G (As := []) (st := [.int (1 : Int32), .ref (adr X 7)]) (c_N_generation l hJ hX S) (by decide) (by decide) (ci := 2) rfl rfl w2_105 w2_107 w0_0 w1_5 w2_108 qyX2_generation rfl (Nat.le_of_ble_eq_true rfl) dX2_boot_98 ?_
    refine v_bipush G (v := (16 : Int32)) dX2_boot_101 (by decide) ?_
    refine v_ishl G dX2_boot_103 ?_
    refine v_callVv G (As := [.int (1 : Int32), .int ((f_N_generation S) <<< ((16 : Int32) &&& 31))]) (st := []) (c_N_write l hJ hX S (1 : Int32) ((f_N_generation S) <<< ((16 : Int32) &&& 31))) (by decide) (by decide) (ci := 2) rfl rfl w3_10 w3_12 w0_20 w1_5 w3_13 qyX2_write rfl (Nat.le_of_ble_eq_true rfl) dX2_boot_104 ?_
    refine v_bnv (fun S_2 eS_2 => ?_)
    refine v_aload_n G 2 dX2_boot_107 rfl ?_
    refine v_iconst G (v := (3 : Int32)) dX2_boot_108 (by decide) ?_
    refine v_puti G (ci := 2) (T := TX2) (j := 7) inX2 rfl rfl tyX2_ok nmX2 rfl (by decide) rfl rfl rfl w1_166 dX2_boot_109 (fun S_3 eS_3 => ?_)
    exact v_vret G rfl rfl dX2_boot_112
  · refine v_iconst G (v := (1 : Int32)) dX2_boot_16 (by decide) ?_
    refine v_goto G (tgt := 21) dX2_boot_17 (by decide) ?_
    refine v_istore_n G [(1, .int (1 : Int32)), (0, .ref (adr X 7))] dX2_boot_21 (by decide) rfl ?_
    refine v_iload_n G 0 dX2_boot_22 rfl ?_
    refine v_if_eq_f G (tgt := 38) dX2_boot_23 (by decide) (by decide) ?_
    refine v_aload_n G 1 dX2_boot_26 rfl ?_
    refine v_callVi G (As := []) (st := []) (c_N_entriesThatCount l hJ hX S) (by decide) (by decide) (ci := 2) rfl rfl w2_126 w2_128 w0_3 w1_5 w2_129 qyX2_entriesThatCount rfl (Nat.le_of_ble_eq_true rfl) dX2_boot_27 ?_
    refine v_aload_n G 1 dX2_boot_30 rfl ?_
    refine v_geti G (ci := 2) (T := TX2) (j := 8) inX2 rfl rfl rfl (by decide) w1_167 dX2_boot_31 ?_
    refine v_isub G dX2_boot_34 ?_
    refine v_goto G (tgt := 39) dX2_boot_35 (by decide) ?_
    refine v_namei (fun x_4 ex_4 => ?_)
    refine v_istore_n G [(2, .int x_4), (1, .int (1 : Int32)), (0, .ref (adr X 7))] dX2_boot_39 (by decide) rfl ?_
    refine v_iload_n G 0 dX2_boot_40 rfl ?_
    refine v_if_le G (tgt := 95) dX2_boot_41 (by decide) (fun c_5 => ?_) (fun c_5 => ?_)
    · refine v_aload_n G 2 dX2_boot_95 rfl ?_
      refine v_iconst G (v := (1 : Int32)) dX2_boot_96 (by decide) ?_
      refine v_aload_n G 2 dX2_boot_97 rfl ?_
      refine v_callVi G (As := []) (st := [.int (1 : Int32), .ref (adr X 7)]) (c_N_generation l hJ hX S) (by decide) (by decide) (ci := 2) rfl rfl w2_105 w2_107 w0_0 w1_5 w2_108 qyX2_generation rfl (Nat.le_of_ble_eq_true rfl) dX2_boot_98 ?_
      refine v_bipush G (v := (16 : Int32)) dX2_boot_101 (by decide) ?_
      refine v_ishl G dX2_boot_103 ?_
      refine v_callVv G (As := [.int (1 : Int32), .int ((f_N_generation S) <<< ((16 : Int32) &&& 31))]) (st := []) (c_N_write l hJ hX S (1 : Int32) ((f_N_generation S) <<< ((16 : Int32) &&& 31))) (by decide) (by decide) (ci := 2) rfl rfl w3_10 w3_12 w0_20 w1_5 w3_13 qyX2_write rfl (Nat.le_of_ble_eq_true rfl) dX2_boot_104 ?_
      refine v_bnv (fun S_6 eS_6 => ?_)
      refine v_aload_n G 2 dX2_boot_107 rfl ?_
      refine v_iconst G (v := (3 : Int32)) dX2_boot_108 (by decide) ?_
      refine v_puti G (ci := 2) (T := TX2) (j := 7) inX2 rfl rfl tyX2_ok nmX2 rfl (by decide) rfl rfl rfl w1_166 dX2_boot_109 (fun S_7 eS_7 => ?_)
      exact v_vret G rfl rfl dX2_boot_112
    · refine v_aload_n G 2 dX2_boot_44 rfl ?_
      refine v_geti G (ci := 2) (T := TX2) (j := 11) inX2 rfl rfl rfl (by decide) w1_170 dX2_boot_45 ?_
      refine v_iconst G (v := (2 : Int32)) dX2_boot_48 (by decide) ?_
      refine v_iload_n G 0 dX2_boot_49 rfl ?_
      refine v_iconst G (v := (1 : Int32)) dX2_boot_50 (by decide) ?_
      refine v_isub G dX2_boot_51 ?_
      refine v_imul G dX2_boot_52 ?_
      refine v_iadd G dX2_boot_53 ?_
      refine v_namei (fun x_8 ex_8 => ?_)
      refine v_istore_n G [(3, .int x_8), (2, .int x_4), (1, .int (1 : Int32)), (0, .ref (adr X 7))] dX2_boot_54 (by decide) rfl ?_
      refine v_aload_n G 3 dX2_boot_55 rfl ?_
      refine v_aload_n G 3 dX2_boot_56 rfl ?_
      refine v_iload_n G 0 dX2_boot_57 rfl ?_
      refine v_callVi G (As := [.int x_8]) (st := [.ref (adr X 7)]) (c_N_stored l hJ hX S x_8) (by decide) (by decide) (ci := 2) rfl rfl w2_114 w2_115 w2_116 w1_5 w2_117 qyX2_stored rfl (Nat.le_of_ble_eq_true rfl) dX2_boot_58 ?_
      refine v_aload_n G 3 dX2_boot_61 rfl ?_
      refine v_iload_n G 0 dX2_boot_62 rfl ?_
      refine v_iconst G (v := (1 : Int32)) dX2_boot_63 (by decide) ?_
      refine v_iadd G dX2_boot_64 ?_
      refine v_callVi G (As := [.int (x_8 + (1 : Int32))]) (st := [.int (f_N_stored S x_8), .ref (adr X 7)]) (c_N_stored l hJ hX S (x_8 + (1 : Int32))) (by decide) (by decide) (ci := 2) rfl rfl w2_114 w2_115 w2_116 w1_5 w2_117 qyX2_stored rfl (Nat.le_of_ble_eq_true rfl) dX2_boot_65 ?_
      refine v_callVv G (As := [.int (f_N_stored S x_8), .int (f_N_stored S (x_8 + (1 : Int32)))]) (st := []) (c_N_write l hJ hX S (f_N_stored S x_8) (f_N_stored S (x_8 + (1 : Int32)))) (by decide) (by decide) (ci := 2) rfl rfl w3_10 w3_12 w0_20 w1_5 w3_13 qyX2_write rfl (Nat.le_of_ble_eq_true rfl) dX2_boot_68 ?_
      refine v_bnv (fun S_9 eS_9 => ?_)
      refine v_aload_n G 3 dX2_boot_71 rfl ?_
      refine v_getr G (ci := 2) (T := TX2) (j := 3) inX2 rfl rfl rfl (by decide) w1_162 dX2_boot_72 ?_
      refine v_bipush G (v := (6 : Int32)) dX2_boot_75 (by decide) ?_
      refine v_dup2 G dX2_boot_77 rfl rfl ?_
      refine v_iald G rfl (by unfold vp_in; decide) dX2_boot_78 ?_
      refine v_iconst G (v := (1 : Int32)) dX2_boot_79 (by decide) ?_
      refine v_iadd G dX2_boot_80 ?_
      refine v_iast G rfl (by unfold vp_in; decide) dX2_boot_81 (fun S_10 eS_10 => ?_)
      refine v_aload_n G 3 dX2_boot_82 rfl ?_
      refine v_dup G dX2_boot_83 rfl ?_
      refine v_geti G (ci := 2) (T := TX2) (j := 8) inX2 rfl rfl rfl (by decide) w1_167 dX2_boot_84 ?_
      refine v_iconst G (v := (1 : Int32)) dX2_boot_87 (by decide) ?_
      refine v_iadd G dX2_boot_88 ?_
      refine v_puti G (ci := 2) (T := TX2) (j := 8) inX2 rfl rfl tyX2_ok nmX2 rfl (by decide) rfl rfl rfl w1_167 dX2_boot_89 (fun S_11 eS_11 => ?_)
      refine v_goto G (tgt := 112) dX2_boot_92 (by decide) ?_
      exact v_vret G rfl rfl dX2_boot_112
/-! SensorNode$Node.checkpoint -/
theorem qyX2_checkpoint : yX2_checkpoint.cls ≠ "java/lang/invoke/MethodHandle" ∧ yX2_checkpoint.cls ≠ "java/lang/invoke/VarHandle" ∧ (parseMethodDescriptor yX2_checkpoint.desc).map (fun d => d.parameters.length) = some 0 := by decide +kernel
noncomputable def f_N_checkpoint (S : St) : St := bnx (f_L_bufferWords S) (fun x_1 => bnx (((f_N_generation S) + (1 : Int32)) &&& (65535 : Int32)) (fun x_2 => (if (S 7 8) < x_1 then bnv (f_N_write S ((f_N_bufferStart S x_2) + (S 7 8)) (f_G_saved S 17 18 19 16 6219 (S 7 8))) (fun S_13 => bnv (st_up S_13 7 8 ((S_13 7 8) + (1 : Int32))) (fun S_14 => S_14)) else (if (S 7 8) = x_1 then bnv (f_N_write S (0 : Int32) x_2) (fun S_8 => bnv (st_up S_8 9 (4 : Int32).toNatClampNeg ((S_8 9 (4 : Int32).toNatClampNeg) + (1 : Int32))) (fun S_9 => bnv (st_up S_9 7 9 (0 : Int32)) (fun S_10 => bnv (st_up S_10 7 6 ((S_10 7 6) + (1 : Int32))) (fun S_11 => bnv (st_up S_11 7 8 ((S_11 7 8) + (1 : Int32))) (fun S_12 => S_12))))) else bnv (f_N_write S (1 : Int32) ((f_N_generation S) <<< ((16 : Int32) &&& 31))) (fun S_5 => bnv (st_up S_5 7 7 (3 : Int32)) (fun S_6 => bnv (st_up S_6 7 8 ((S_6 7 8) + (1 : Int32))) (fun S_7 => S_7)))))))
set_option linter.unusedVariables false in
set_option maxHeartbeats 4000000 in
set_option maxRecDepth 100000 in
theorem c_N_checkpoint (l : Launch) {X : vD} (hJ : sh_J X) (hX : shp X = shX)  (S : St)  : Con l X yX2_checkpoint cX2_checkpoint 3 none 2 [.ref (adr X 7)] S (none, f_N_checkpoint S) := by
  refine con_of (ρ := (fun S : St => ((none, S) : Option Value × St))) (K := f_N_checkpoint S) hJ hX (by decide) (Nat.le_of_ble_eq_true rfl) (lv := [(0, .ref (adr X 7))]) rfl ?_
  intro p e s m below meth c G
  have G : vG p s m _ meth c X shX "SensorNode$Node" cX2_checkpoint 3 none := G
  unfold f_N_checkpoint
  refine v_aload_n G 0 dX2_checkpoint_0 rfl ?_
  refine v_getr G (ci := 2) (T := TX2) (j := 0) inX2 rfl rfl rfl (by decide) w1_159 dX2_checkpoint_1 ?_
  refine v_callVi G (As := []) (st := []) (c_L_bufferWords l hJ hX S) (by decide) (by decide) (ci := 4) rfl rfl w2_64 w2_65 w2_66 w1_2 w2_67 qyX4_bufferWords rfl (Nat.le_of_ble_eq_true rfl) dX2_checkpoint_4 ?_
  refine v_namei (fun x_1 ex_1 => ?_)
  refine v_istore_n G [(1, .int x_1), (0, .ref (adr X 7))] dX2_checkpoint_7 (by decide) rfl ?_
  refine v_aload_n G 1 dX2_checkpoint_8 rfl ?_
  refine v_callVi G (As := []) (st := []) (c_N_generation l hJ hX S) (by decide) (by decide) (ci := 2) rfl rfl w2_105 w2_107 w0_0 w1_5 w2_108 qyX2_generation rfl (Nat.le_of_ble_eq_true rfl) dX2_checkpoint_9 ?_
  refine v_iconst G (v := (1 : Int32)) dX2_checkpoint_12 (by decide) ?_
  refine v_iadd G dX2_checkpoint_13 ?_
  refine v_ldc G (v := (65535 : Int32)) dX2_checkpoint_14 w2_109 ?_
  refine v_iand G dX2_checkpoint_16 ?_
  refine v_namei (fun x_2 ex_2 => ?_)
  refine v_istore_n G [(2, .int x_2), (1, .int x_1), (0, .ref (adr X 7))] dX2_checkpoint_17 (by decide) rfl ?_
  refine v_aload_n G 2 dX2_checkpoint_18 rfl ?_
  refine v_geti G (ci := 2) (T := TX2) (j := 8) inX2 rfl rfl rfl (by decide) w1_167 dX2_checkpoint_19 ?_
  refine v_iload_n G 1 dX2_checkpoint_22 rfl ?_
  refine v_icmp_ge G (tgt := 54) dX2_checkpoint_23 (by decide) (fun c_3 => ?_) (fun c_3 => ?_)
  · refine v_aload_n G 2 dX2_checkpoint_54 rfl ?_
    refine v_geti G (ci := 2) (T := TX2) (j := 8) inX2 rfl rfl rfl (by decide) w1_167 dX2_checkpoint_55 ?_
    refine v_iload_n G 1 dX2_checkpoint_58 rfl ?_
    refine v_icmp_ne G (tgt := 96) dX2_checkpoint_59 (by decide) (fun c_4 => ?_) (fun c_4 => ?_)
    · refine v_aload_n G 2 dX2_checkpoint_96 rfl ?_
      refine v_iconst G (v := (1 : Int32)) dX2_checkpoint_97 (by decide) ?_
      refine v_aload_n G 2 dX2_checkpoint_98 rfl ?_
      refine v_callVi G (As := []) (st := [.int (1 : Int32), .ref (adr X 7)]) (c_N_generation l hJ hX S) (by decide) (by decide) (ci := 2) rfl rfl w2_105 w2_107 w0_0 w1_5 w2_108 qyX2_generation rfl (Nat.le_of_ble_eq_true rfl) dX2_checkpoint_99 ?_
      refine v_bipush G (v := (16 : Int32)) dX2_checkpoint_102 (by decide) ?_
      refine v_ishl G dX2_checkpoint_104 ?_
      refine v_callVv G (As := [.int (1 : Int32), .int ((f_N_generation S) <<< ((16 : Int32) &&& 31))]) (st := []) (c_N_write l hJ hX S (1 : Int32) ((f_N_generation S) <<< ((16 : Int32) &&& 31))) (by decide) (by decide) (ci := 2) rfl rfl w3_10 w3_12 w0_20 w1_5 w3_13 qyX2_write rfl (Nat.le_of_ble_eq_true rfl) dX2_checkpoint_105 ?_
      refine v_bnv (fun S_5 eS_5 => ?_)
      refine v_aload_n G 2 dX2_checkpoint_108 rfl ?_
      refine v_iconst G (v := (3 : Int32)) dX2_checkpoint_109 (by decide) ?_
      refine v_puti G (ci := 2) (T := TX2) (j := 7) inX2 rfl rfl tyX2_ok nmX2 rfl (by decide) rfl rfl rfl w1_166 dX2_checkpoint_110 (fun S_6 eS_6 => ?_)
      refine v_aload_n G 2 dX2_checkpoint_113 rfl ?_
      refine v_dup G dX2_checkpoint_114 rfl ?_
      refine v_geti G (ci := 2) (T := TX2) (j := 8) inX2 rfl rfl rfl (by decide) w1_167 dX2_checkpoint_115 ?_
      refine v_iconst G (v := (1 : Int32)) dX2_checkpoint_118 (by decide) ?_
      refine v_iadd G dX2_checkpoint_119 ?_
      refine v_puti G (ci := 2) (T := TX2) (j := 8) inX2 rfl rfl tyX2_ok nmX2 rfl (by decide) rfl rfl rfl w1_167 dX2_checkpoint_120 (fun S_7 eS_7 => ?_)
      exact v_vret G rfl rfl dX2_checkpoint_123
    · refine v_aload_n G 2 dX2_checkpoint_62 rfl ?_
      refine v_iconst G (v := (0 : Int32)) dX2_checkpoint_63 (by decide) ?_
      refine v_iload_n G 0 dX2_checkpoint_64 rfl ?_
      refine v_callVv G (As := [.int (0 : Int32), .int x_2]) (st := []) (c_N_write l hJ hX S (0 : Int32) x_2) (by decide) (by decide) (ci := 2) rfl rfl w3_10 w3_12 w0_20 w1_5 w3_13 qyX2_write rfl (Nat.le_of_ble_eq_true rfl) dX2_checkpoint_65 ?_
      refine v_bnv (fun S_8 eS_8 => ?_)
      refine v_aload_n G 2 dX2_checkpoint_68 rfl ?_
      refine v_getr G (ci := 2) (T := TX2) (j := 3) inX2 rfl rfl rfl (by decide) w1_162 dX2_checkpoint_69 ?_
      refine v_iconst G (v := (4 : Int32)) dX2_checkpoint_72 (by decide) ?_
      refine v_dup2 G dX2_checkpoint_73 rfl rfl ?_
      refine v_iald G rfl (by unfold vp_in; decide) dX2_checkpoint_74 ?_
      refine v_iconst G (v := (1 : Int32)) dX2_checkpoint_75 (by decide) ?_
      refine v_iadd G dX2_checkpoint_76 ?_
      refine v_iast G rfl (by unfold vp_in; decide) dX2_checkpoint_77 (fun S_9 eS_9 => ?_)
      refine v_aload_n G 2 dX2_checkpoint_78 rfl ?_
      refine v_iconst G (v := (0 : Int32)) dX2_checkpoint_79 (by decide) ?_
      refine v_puti G (ci := 2) (T := TX2) (j := 9) inX2 rfl rfl tyX2_ok nmX2 rfl (by decide) rfl rfl rfl w1_168 dX2_checkpoint_80 (fun S_10 eS_10 => ?_)
      refine v_aload_n G 2 dX2_checkpoint_83 rfl ?_
      refine v_dup G dX2_checkpoint_84 rfl ?_
      refine v_geti G (ci := 2) (T := TX2) (j := 6) inX2 rfl rfl rfl (by decide) w1_165 dX2_checkpoint_85 ?_
      refine v_iconst G (v := (1 : Int32)) dX2_checkpoint_88 (by decide) ?_
      refine v_iadd G dX2_checkpoint_89 ?_
      refine v_puti G (ci := 2) (T := TX2) (j := 6) inX2 rfl rfl tyX2_ok nmX2 rfl (by decide) rfl rfl rfl w1_165 dX2_checkpoint_90 (fun S_11 eS_11 => ?_)
      refine v_goto G (tgt := 113) dX2_checkpoint_93 (by decide) ?_
      refine v_aload_n G 2 dX2_checkpoint_113 rfl ?_
      refine v_dup G dX2_checkpoint_114 rfl ?_
      refine v_geti G (ci := 2) (T := TX2) (j := 8) inX2 rfl rfl rfl (by decide) w1_167 dX2_checkpoint_115 ?_
      refine v_iconst G (v := (1 : Int32)) dX2_checkpoint_118 (by decide) ?_
      refine v_iadd G dX2_checkpoint_119 ?_
      refine v_puti G (ci := 2) (T := TX2) (j := 8) inX2 rfl rfl tyX2_ok nmX2 rfl (by decide) rfl rfl rfl w1_167 dX2_checkpoint_120 (fun S_12 eS_12 => ?_)
      exact v_vret G rfl rfl dX2_checkpoint_123
  · refine v_aload_n G 2 dX2_checkpoint_26 rfl ?_
    refine v_aload_n G 2 dX2_checkpoint_27 rfl ?_
    refine v_iload_n G 0 dX2_checkpoint_28 rfl ?_
    refine v_callVi G (As := [.int x_2]) (st := [.ref (adr X 7)]) (c_N_bufferStart l hJ hX S x_2) (by decide) (by decide) (ci := 2) rfl rfl w2_110 w2_112 w0_1 w1_5 w2_113 qyX2_bufferStart rfl (Nat.le_of_ble_eq_true rfl) dX2_checkpoint_29 ?_
    refine v_aload_n G 2 dX2_checkpoint_32 rfl ?_
    refine v_geti G (ci := 2) (T := TX2) (j := 8) inX2 rfl rfl rfl (by decide) w1_167 dX2_checkpoint_33 ?_
    refine v_iadd G dX2_checkpoint_36 ?_
    refine v_aload_n G 2 dX2_checkpoint_37 rfl ?_
    refine v_getr G (ci := 2) (T := TX2) (j := 5) inX2 rfl rfl rfl (by decide) w1_164 dX2_checkpoint_38 ?_
    refine v_aload_n G 2 dX2_checkpoint_41 rfl ?_
    refine v_geti G (ci := 2) (T := TX2) (j := 8) inX2 rfl rfl rfl (by decide) w1_167 dX2_checkpoint_42 ?_
    refine v_callVi G (As := [.int (S 7 8)]) (st := [.int ((f_N_bufferStart S x_2) + (S 7 8)), .ref (adr X 7)]) (c_G_saved l hJ hX 17 18 19 16 6219 ⟨rfl, rfl, rfl, rfl, by decide⟩ S (S 7 8)) (by decide) (by decide) (ci := 1) rfl rfl w3_18 w3_19 w3_20 w1_7 w3_21 qyX1_saved rfl (Nat.le_of_ble_eq_true rfl) dX2_checkpoint_45 ?_
    refine v_callVv G (As := [.int ((f_N_bufferStart S x_2) + (S 7 8)), .int (f_G_saved S 17 18 19 16 6219 (S 7 8))]) (st := []) (c_N_write l hJ hX S ((f_N_bufferStart S x_2) + (S 7 8)) (f_G_saved S 17 18 19 16 6219 (S 7 8))) (by decide) (by decide) (ci := 2) rfl rfl w3_10 w3_12 w0_20 w1_5 w3_13 qyX2_write rfl (Nat.le_of_ble_eq_true rfl) dX2_checkpoint_48 ?_
    refine v_bnv (fun S_13 eS_13 => ?_)
    refine v_goto G (tgt := 113) dX2_checkpoint_51 (by decide) ?_
    refine v_aload_n G 2 dX2_checkpoint_113 rfl ?_
    refine v_dup G dX2_checkpoint_114 rfl ?_
    refine v_geti G (ci := 2) (T := TX2) (j := 8) inX2 rfl rfl rfl (by decide) w1_167 dX2_checkpoint_115 ?_
    refine v_iconst G (v := (1 : Int32)) dX2_checkpoint_118 (by decide) ?_
    refine v_iadd G dX2_checkpoint_119 ?_
    refine v_puti G (ci := 2) (T := TX2) (j := 8) inX2 rfl rfl tyX2_ok nmX2 rfl (by decide) rfl rfl rfl w1_167 dX2_checkpoint_120 (fun S_14 eS_14 => ?_)
    exact v_vret G rfl rfl dX2_checkpoint_123
/-! SensorNode$Node.log -/
theorem qyX2_log : yX2_log.cls ≠ "java/lang/invoke/MethodHandle" ∧ yX2_log.cls ≠ "java/lang/invoke/VarHandle" ∧ (parseMethodDescriptor yX2_log.desc).map (fun d => d.parameters.length) = some 1 := by decide +kernel
noncomputable def f_N_log (S : St) (a1 : Int32) : St := bnx ((S 7 11) + ((2 : Int32) * (f_N_entriesThatCount S))) (fun x_1 => (if (S 7 8) = 0 then bnv (f_N_write S x_1 ((S 7 12) + a1)) (fun S_9 => S_9) else (if (S 7 8) = (1 : Int32) then bnv (f_N_write S (x_1 + (1 : Int32)) (f_N_stored S ((S 7 12) + a1))) (fun S_8 => S_8) else bnv (f_N_write S (1 : Int32) (((f_N_generation S) <<< ((16 : Int32) &&& 31)) ||| ((f_N_entriesThatCount S) + (1 : Int32)))) (fun S_4 => (if a1 < 0 then S_4 else (if a1 < (nI 2048) then bnv (st_up S_4 8 a1.toNatClampNeg (S_4 7 6)) (fun S_7 => S_7) else S_4))))))
set_option linter.unusedVariables false in
set_option maxHeartbeats 4000000 in
set_option maxRecDepth 100000 in
theorem c_N_log (l : Launch) {X : vD} (hJ : sh_J X) (hX : shp X = shX)  (S : St) (a1 : Int32)  : Con l X yX2_log cX2_log 3 none 1 [.ref (adr X 7), .int a1] S (none, f_N_log S a1) := by
  refine con_of (ρ := (fun S : St => ((none, S) : Option Value × St))) (K := f_N_log S a1) hJ hX (by decide) (Nat.le_of_ble_eq_true rfl) (lv := [(0, .ref (adr X 7)), (1, .int a1)]) rfl ?_
  intro p e s m below meth c G
  have G : vG p s m _ meth c X shX "SensorNode$Node" cX2_log 3 none := G
  unfold f_N_log
  refine v_aload_n G 0 dX2_log_0 rfl ?_
  refine v_geti G (ci := 2) (T := TX2) (j := 11) inX2 rfl rfl rfl (by decide) w1_170 dX2_log_1 ?_
  refine v_iconst G (v := (2 : Int32)) dX2_log_4 (by decide) ?_
  refine v_aload_n G 0 dX2_log_5 rfl ?_
  refine v_callVi G (As := []) (st := [.int (2 : Int32), .int (S 7 11)]) (c_N_entriesThatCount l hJ hX S) (by decide) (by decide) (ci := 2) rfl rfl w2_126 w2_128 w0_3 w1_5 w2_129 qyX2_entriesThatCount rfl (Nat.le_of_ble_eq_true rfl) dX2_log_6 ?_
  refine v_imul G dX2_log_9 ?_
  refine v_iadd G dX2_log_10 ?_
  refine v_namei (fun x_1 ex_1 => ?_)
  refine v_istore_n G [(2, .int x_1), (0, .ref (adr X 7)), (1, .int a1)] dX2_log_11 (by decide) rfl ?_
  refine v_aload_n G 1 dX2_log_12 rfl ?_
  refine v_geti G (ci := 2) (T := TX2) (j := 8) inX2 rfl rfl rfl (by decide) w1_167 dX2_log_13 ?_
  refine v_if_ne G (tgt := 33) dX2_log_16 (by decide) (fun c_2 => ?_) (fun c_2 => ?_)
  · refine v_aload_n G 1 dX2_log_33 rfl ?_
    refine v_geti G (ci := 2) (T := TX2) (j := 8) inX2 rfl rfl rfl (by decide) w1_167 dX2_log_34 ?_
    refine v_iconst G (v := (1 : Int32)) dX2_log_37 (by decide) ?_
    refine v_icmp_ne G (tgt := 61) dX2_log_38 (by decide) (fun c_3 => ?_) (fun c_3 => ?_)
    · refine v_aload_n G 1 dX2_log_61 rfl ?_
      refine v_iconst G (v := (1 : Int32)) dX2_log_62 (by decide) ?_
      refine v_aload_n G 1 dX2_log_63 rfl ?_
      refine v_callVi G (As := []) (st := [.int (1 : Int32), .ref (adr X 7)]) (c_N_generation l hJ hX S) (by decide) (by decide) (ci := 2) rfl rfl w2_105 w2_107 w0_0 w1_5 w2_108 qyX2_generation rfl (Nat.le_of_ble_eq_true rfl) dX2_log_64 ?_
      refine v_bipush G (v := (16 : Int32)) dX2_log_67 (by decide) ?_
      refine v_ishl G dX2_log_69 ?_
      refine v_aload_n G 1 dX2_log_70 rfl ?_
      refine v_callVi G (As := []) (st := [.int ((f_N_generation S) <<< ((16 : Int32) &&& 31)), .int (1 : Int32), .ref (adr X 7)]) (c_N_entriesThatCount l hJ hX S) (by decide) (by decide) (ci := 2) rfl rfl w2_126 w2_128 w0_3 w1_5 w2_129 qyX2_entriesThatCount rfl (Nat.le_of_ble_eq_true rfl) dX2_log_71 ?_
      refine v_iconst G (v := (1 : Int32)) dX2_log_74 (by decide) ?_
      refine v_iadd G dX2_log_75 ?_
      refine v_ior G dX2_log_76 ?_
      refine v_callVv G (As := [.int (1 : Int32), .int (((f_N_generation S) <<< ((16 : Int32) &&& 31)) ||| ((f_N_entriesThatCount S) + (1 : Int32)))]) (st := []) (c_N_write l hJ hX S (1 : Int32) (((f_N_generation S) <<< ((16 : Int32) &&& 31)) ||| ((f_N_entriesThatCount S) + (1 : Int32)))) (by decide) (by decide) (ci := 2) rfl rfl w3_10 w3_12 w0_20 w1_5 w3_13 qyX2_write rfl (Nat.le_of_ble_eq_true rfl) dX2_log_77 ?_
      refine v_bnv (fun S_4 eS_4 => ?_)
      refine v_iload_n G 2 dX2_log_80 rfl ?_
      refine v_if_lt G (tgt := 103) dX2_log_81 (by decide) (fun c_5 => ?_) (fun c_5 => ?_)
      · exact v_vret G rfl rfl dX2_log_103
      · refine v_iload_n G 2 dX2_log_84 rfl ?_
        refine v_aload_n G 1 dX2_log_85 rfl ?_
        refine v_getr G (ci := 2) (T := TX2) (j := 2) inX2 rfl rfl rfl (by decide) w1_161 dX2_log_86 ?_
        refine v_alen G (ty := .int) rfl rfl dX2_log_89 ?_
        refine v_icmp_ge G (tgt := 103) dX2_log_90 (by decide) (fun c_6 => ?_) (fun c_6 => ?_)
        · exact v_vret G rfl rfl dX2_log_103
        · refine v_aload_n G 1 dX2_log_93 rfl ?_
          refine v_getr G (ci := 2) (T := TX2) (j := 2) inX2 rfl rfl rfl (by decide) w1_161 dX2_log_94 ?_
          refine v_iload_n G 2 dX2_log_97 rfl ?_
          refine v_aload_n G 1 dX2_log_98 rfl ?_
          refine v_geti G (ci := 2) (T := TX2) (j := 6) inX2 rfl rfl rfl (by decide) w1_165 dX2_log_99 ?_
          refine v_iast G rfl (vi_br (by assumption) (by assumption) (by decide)) dX2_log_102 (fun S_7 eS_7 => ?_)
          exact v_vret G rfl rfl dX2_log_103
    · refine v_aload_n G 1 dX2_log_41 rfl ?_
      refine v_iload_n G 0 dX2_log_42 rfl ?_
      refine v_iconst G (v := (1 : Int32)) dX2_log_43 (by decide) ?_
      refine v_iadd G dX2_log_44 ?_
      refine v_aload_n G 1 dX2_log_45 rfl ?_
      refine v_aload_n G 1 dX2_log_46 rfl ?_
      refine v_geti G (ci := 2) (T := TX2) (j := 12) inX2 rfl rfl rfl (by decide) w1_171 dX2_log_47 ?_
      refine v_iload_n G 2 dX2_log_50 rfl ?_
      refine v_iadd G dX2_log_51 ?_
      refine v_callVi G (As := [.int ((S 7 12) + a1)]) (st := [.int (x_1 + (1 : Int32)), .ref (adr X 7)]) (c_N_stored l hJ hX S ((S 7 12) + a1)) (by decide) (by decide) (ci := 2) rfl rfl w2_114 w2_115 w2_116 w1_5 w2_117 qyX2_stored rfl (Nat.le_of_ble_eq_true rfl) dX2_log_52 ?_
      refine v_callVv G (As := [.int (x_1 + (1 : Int32)), .int (f_N_stored S ((S 7 12) + a1))]) (st := []) (c_N_write l hJ hX S (x_1 + (1 : Int32)) (f_N_stored S ((S 7 12) + a1))) (by decide) (by decide) (ci := 2) rfl rfl w3_10 w3_12 w0_20 w1_5 w3_13 qyX2_write rfl (Nat.le_of_ble_eq_true rfl) dX2_log_55 ?_
      refine v_bnv (fun S_8 eS_8 => ?_)
      refine v_goto G (tgt := 103) dX2_log_58 (by decide) ?_
      exact v_vret G rfl rfl dX2_log_103
  · refine v_aload_n G 1 dX2_log_19 rfl ?_
    refine v_iload_n G 0 dX2_log_20 rfl ?_
    refine v_aload_n G 1 dX2_log_21 rfl ?_
    refine v_geti G (ci := 2) (T := TX2) (j := 12) inX2 rfl rfl rfl (by decide) w1_171 dX2_log_22 ?_
    refine v_iload_n G 2 dX2_log_25 rfl ?_
    refine v_iadd G dX2_log_26 ?_
    refine v_callVv G (As := [.int x_1, .int ((S 7 12) + a1)]) (st := []) (c_N_write l hJ hX S x_1 ((S 7 12) + a1)) (by decide) (by decide) (ci := 2) rfl rfl w3_10 w3_12 w0_20 w1_5 w3_13 qyX2_write rfl (Nat.le_of_ble_eq_true rfl) dX2_log_27 ?_
    refine v_bnv (fun S_9 eS_9 => ?_)
    refine v_goto G (tgt := 103) dX2_log_30 (by decide) ?_
    exact v_vret G rfl rfl dX2_log_103
/-! SensorNode$Node.finish -/
theorem qyX2_finish : yX2_finish.cls ≠ "java/lang/invoke/MethodHandle" ∧ yX2_finish.cls ≠ "java/lang/invoke/VarHandle" ∧ (parseMethodDescriptor yX2_finish.desc).map (fun d => d.parameters.length) = some 0 := by decide +kernel
noncomputable def f_N_finish (S : St) : St := (if (f_G_kind S 17 18 19 16 6219) = (4 : Int32) then bnv (st_up S 9 (1 : Int32).toNatClampNeg ((S 9 (1 : Int32).toNatClampNeg) + (1 : Int32))) (fun S_17 => (if (f_G_kind S_17 17 18 19 16 6219) = (2 : Int32) then (if (f_R_newest S_17 10 11 12 13 14 15) = ((f_G_owned S_17 17 18 19 16 6219 (34 : Int32)) + (1 : Int32)) then bnv (f_G_finish S_17 17 18 19 16 6219) (fun S_24 => bnv (st_up S_24 9 (2 : Int32).toNatClampNeg ((S_24 9 (2 : Int32).toNatClampNeg) + (1 : Int32))) (fun S_25 => bnv (st_up S_25 7 9 ((S_25 7 9) + (1 : Int32))) (fun S_26 => bnv (st_up S_26 7 7 (3 : Int32)) (fun S_27 => S_27)))) else bnv (st_up S_17 7 13 ((S_17 7 13) + (1 : Int32))) (fun S_28 => bnv (f_G_finish S_28 17 18 19 16 6219) (fun S_29 => bnv (st_up S_29 9 (2 : Int32).toNatClampNeg ((S_29 9 (2 : Int32).toNatClampNeg) + (1 : Int32))) (fun S_30 => bnv (st_up S_30 7 9 ((S_30 7 9) + (1 : Int32))) (fun S_31 => bnv (st_up S_31 7 7 (3 : Int32)) (fun S_32 => S_32)))))) else bnv (f_G_finish S_17 17 18 19 16 6219) (fun S_19 => bnv (st_up S_19 9 (2 : Int32).toNatClampNeg ((S_19 9 (2 : Int32).toNatClampNeg) + (1 : Int32))) (fun S_20 => bnv (st_up S_20 7 9 ((S_20 7 9) + (1 : Int32))) (fun S_21 => bnv (st_up S_21 7 7 (3 : Int32)) (fun S_22 => S_22)))))) else (if (f_G_kind S 17 18 19 16 6219) = (2 : Int32) then (if (f_R_newest S 10 11 12 13 14 15) = ((f_G_owned S 17 18 19 16 6219 (34 : Int32)) + (1 : Int32)) then bnv (f_G_finish S 17 18 19 16 6219) (fun S_8 => bnv (st_up S_8 9 (2 : Int32).toNatClampNeg ((S_8 9 (2 : Int32).toNatClampNeg) + (1 : Int32))) (fun S_9 => bnv (st_up S_9 7 9 ((S_9 7 9) + (1 : Int32))) (fun S_10 => bnv (st_up S_10 7 7 (3 : Int32)) (fun S_11 => S_11)))) else bnv (st_up S 7 13 ((S 7 13) + (1 : Int32))) (fun S_12 => bnv (f_G_finish S_12 17 18 19 16 6219) (fun S_13 => bnv (st_up S_13 9 (2 : Int32).toNatClampNeg ((S_13 9 (2 : Int32).toNatClampNeg) + (1 : Int32))) (fun S_14 => bnv (st_up S_14 7 9 ((S_14 7 9) + (1 : Int32))) (fun S_15 => bnv (st_up S_15 7 7 (3 : Int32)) (fun S_16 => S_16)))))) else bnv (f_G_finish S 17 18 19 16 6219) (fun S_3 => bnv (st_up S_3 9 (2 : Int32).toNatClampNeg ((S_3 9 (2 : Int32).toNatClampNeg) + (1 : Int32))) (fun S_4 => bnv (st_up S_4 7 9 ((S_4 7 9) + (1 : Int32))) (fun S_5 => bnv (st_up S_5 7 7 (3 : Int32)) (fun S_6 => S_6))))))
set_option linter.unusedVariables false in
set_option maxHeartbeats 4000000 in
set_option maxRecDepth 100000 in
theorem c_N_finish (l : Launch) {X : vD} (hJ : sh_J X) (hX : shp X = shX)  (S : St)  : Con l X yX2_finish cX2_finish 1 none 3 [.ref (adr X 7)] S (none, f_N_finish S) := by
  refine con_of (ρ := (fun S : St => ((none, S) : Option Value × St))) (K := f_N_finish S) hJ hX (by decide) (Nat.le_of_ble_eq_true rfl) (lv := [(0, .ref (adr X 7))]) rfl ?_
  intro p e s m below meth c G
  have G : vG p s m _ meth c X shX "SensorNode$Node" cX2_finish 1 none := G
  unfold f_N_finish
  refine v_aload_n G 0 dX2_finish_0 rfl ?_
  refine v_getr G (ci := 2) (T := TX2) (j := 5) inX2 rfl rfl rfl (by decide) w1_164 dX2_finish_1 ?_
  refine v_callVi G (As := []) (st := []) (c_G_kind l hJ hX 17 18 19 16 6219 ⟨rfl, rfl, rfl, rfl, by decide⟩ S) (by decide) (by decide) (ci := 1) rfl rfl w2_234 w2_235 w2_236 w1_7 w2_237 qyX1_kind rfl (Nat.le_of_ble_eq_true rfl) dX2_finish_4 ?_
  refine v_iconst G (v := (4 : Int32)) dX2_finish_7 (by decide) ?_
  refine v_icmp_ne G (tgt := 21) dX2_finish_8 (by decide) (fun c_1 => ?_) (fun c_1 => ?_)
  · refine v_aload_n G 0 dX2_finish_21 rfl ?_
    refine v_getr G (ci := 2) (T := TX2) (j := 5) inX2 rfl rfl rfl (by decide) w1_164 dX2_finish_22 ?_
    refine v_callVi G (As := []) (st := []) (c_G_kind l hJ hX 17 18 19 16 6219 ⟨rfl, rfl, rfl, rfl, by decide⟩ S) (by decide) (by decide) (ci := 1) rfl rfl w2_234 w2_235 w2_236 w1_7 w2_237 qyX1_kind rfl (Nat.le_of_ble_eq_true rfl) dX2_finish_25 ?_
    refine v_iconst G (v := (2 : Int32)) dX2_finish_28 (by decide) ?_
    refine v_icmp_ne G (tgt := 63) dX2_finish_29 (by decide) (fun c_2 => ?_) (fun c_2 => ?_)
    · refine v_aload_n G 0 dX2_finish_63 rfl ?_
      refine v_getr G (ci := 2) (T := TX2) (j := 5) inX2 rfl rfl rfl (by decide) w1_164 dX2_finish_64 ?_
      refine v_callVv G (As := []) (st := []) (c_G_finish l hJ hX 17 18 19 16 6219 ⟨rfl, rfl, rfl, rfl, by decide⟩ S) (by decide) (by decide) (ci := 1) rfl rfl w3_60 w3_61 w3_62 w1_7 w3_63 qyX1_finish rfl (Nat.le_of_ble_eq_true rfl) dX2_finish_67 ?_
      refine v_bnv (fun S_3 eS_3 => ?_)
      refine v_aload_n G 0 dX2_finish_70 rfl ?_
      refine v_getr G (ci := 2) (T := TX2) (j := 3) inX2 rfl rfl rfl (by decide) w1_162 dX2_finish_71 ?_
      refine v_iconst G (v := (2 : Int32)) dX2_finish_74 (by decide) ?_
      refine v_dup2 G dX2_finish_75 rfl rfl ?_
      refine v_iald G rfl (by unfold vp_in; decide) dX2_finish_76 ?_
      refine v_iconst G (v := (1 : Int32)) dX2_finish_77 (by decide) ?_
      refine v_iadd G dX2_finish_78 ?_
      refine v_iast G rfl (by unfold vp_in; decide) dX2_finish_79 (fun S_4 eS_4 => ?_)
      refine v_aload_n G 0 dX2_finish_80 rfl ?_
      refine v_dup G dX2_finish_81 rfl ?_
      refine v_geti G (ci := 2) (T := TX2) (j := 9) inX2 rfl rfl rfl (by decide) w1_168 dX2_finish_82 ?_
      refine v_iconst G (v := (1 : Int32)) dX2_finish_85 (by decide) ?_
      refine v_iadd G dX2_finish_86 ?_
      refine v_puti G (ci := 2) (T := TX2) (j := 9) inX2 rfl rfl tyX2_ok nmX2 rfl (by decide) rfl rfl rfl w1_168 dX2_finish_87 (fun S_5 eS_5 => ?_)
      refine v_aload_n G 0 dX2_finish_90 rfl ?_
      refine v_iconst G (v := (3 : Int32)) dX2_finish_91 (by decide) ?_
      refine v_puti G (ci := 2) (T := TX2) (j := 7) inX2 rfl rfl tyX2_ok nmX2 rfl (by decide) rfl rfl rfl w1_166 dX2_finish_92 (fun S_6 eS_6 => ?_)
      exact v_vret G rfl rfl dX2_finish_95
    · refine v_aload_n G 0 dX2_finish_32 rfl ?_
      refine v_getr G (ci := 2) (T := TX2) (j := 4) inX2 rfl rfl rfl (by decide) w1_163 dX2_finish_33 ?_
      refine v_callVi G (As := []) (st := []) (c_R_newest l hJ hX 10 11 12 13 14 15 ⟨rfl, rfl, rfl, rfl, rfl, rfl, by decide⟩ S) (by decide) (by decide) (ci := 5) rfl rfl w3_56 w3_57 w3_58 w1_6 w3_59 qyX5_newest rfl (Nat.le_of_ble_eq_true rfl) dX2_finish_36 ?_
      refine v_aload_n G 0 dX2_finish_39 rfl ?_
      refine v_getr G (ci := 2) (T := TX2) (j := 5) inX2 rfl rfl rfl (by decide) w1_164 dX2_finish_40 ?_
      refine v_bipush G (v := (34 : Int32)) dX2_finish_43 (by decide) ?_
      refine v_callVi G (As := [.int (34 : Int32)]) (st := [.int (f_R_newest S 10 11 12 13 14 15)]) (c_G_owned l hJ hX 17 18 19 16 6219 ⟨rfl, rfl, rfl, rfl, by decide⟩ S (34 : Int32)) (by decide) (by decide) (ci := 1) rfl rfl w3_30 w3_23 w3_24 w1_7 w3_25 qyX1_owned rfl (Nat.le_of_ble_eq_true rfl) dX2_finish_45 ?_
      refine v_iconst G (v := (1 : Int32)) dX2_finish_48 (by decide) ?_
      refine v_iadd G dX2_finish_49 ?_
      refine v_icmp_eq G (tgt := 63) dX2_finish_50 (by decide) (fun c_7 => ?_) (fun c_7 => ?_)
      · refine v_aload_n G 0 dX2_finish_63 rfl ?_
        refine v_getr G (ci := 2) (T := TX2) (j := 5) inX2 rfl rfl rfl (by decide) w1_164 dX2_finish_64 ?_
        refine v_callVv G (As := []) (st := []) (c_G_finish l hJ hX 17 18 19 16 6219 ⟨rfl, rfl, rfl, rfl, by decide⟩ S) (by decide) (by decide) (ci := 1) rfl rfl w3_60 w3_61 w3_62 w1_7 w3_63 qyX1_finish rfl (Nat.le_of_ble_eq_true rfl) dX2_finish_67 ?_
        refine v_bnv (fun S_8 eS_8 => ?_)
        refine v_aload_n G 0 dX2_finish_70 rfl ?_
        refine v_getr G (ci := 2) (T := TX2) (j := 3) inX2 rfl rfl rfl (by decide) w1_162 dX2_finish_71 ?_
        refine v_iconst G (v := (2 : Int32)) dX2_finish_74 (by decide) ?_
        refine v_dup2 G dX2_finish_75 rfl rfl ?_
        refine v_iald G rfl (by unfold vp_in; decide) dX2_finish_76 ?_
        refine v_iconst G (v := (1 : Int32)) dX2_finish_77 (by decide) ?_
        refine v_iadd G dX2_finish_78 ?_
        refine v_iast G rfl (by unfold vp_in; decide) dX2_finish_79 (fun S_9 eS_9 => ?_)
        refine v_aload_n G 0 dX2_finish_80 rfl ?_
        refine v_dup G dX2_finish_81 rfl ?_
        refine v_geti G (ci := 2) (T := TX2) (j := 9) inX2 rfl rfl rfl (by decide) w1_168 dX2_finish_82 ?_
        refine v_iconst G (v := (1 : Int32)) dX2_finish_85 (by decide) ?_
        refine v_iadd G dX2_finish_86 ?_
        refine v_puti G (ci := 2) (T := TX2) (j := 9) inX2 rfl rfl tyX2_ok nmX2 rfl (by decide) rfl rfl rfl w1_168 dX2_finish_87 (fun S_10 eS_10 => ?_)
        refine v_aload_n G 0 dX2_finish_90 rfl ?_
        refine v_iconst G (v := (3 : Int32)) dX2_finish_91 (by decide) ?_
        refine v_puti G (ci := 2) (T := TX2) (j := 7) inX2 rfl rfl tyX2_ok nmX2 rfl (by decide) rfl rfl rfl w1_166 dX2_finish_92 (fun S_11 eS_11 => ?_)
        exact v_vret G rfl rfl dX2_finish_95
      · refine v_aload_n G 0 dX2_finish_53 rfl ?_
        refine v_dup G dX2_finish_54 rfl ?_
        refine v_geti G (ci := 2) (T := TX2) (j := 13) inX2 rfl rfl rfl (by decide) w1_172 dX2_finish_55 ?_
        refine v_iconst G (v := (1 : Int32)) dX2_finish_58 (by decide) ?_
        refine v_iadd G dX2_finish_59 ?_
        refine v_puti G (ci := 2) (T := TX2) (j := 13) inX2 rfl rfl tyX2_ok nmX2 rfl (by decide) rfl rfl rfl w1_172 dX2_finish_60 (fun S_12 eS_12 => ?_)
        refine v_aload_n G 0 dX2_finish_63 rfl ?_
        refine v_getr G (ci := 2) (T := TX2) (j := 5) inX2 rfl rfl rfl (by decide) w1_164 dX2_finish_64 ?_
        refine v_callVv G (As := []) (st := []) (c_G_finish l hJ hX 17 18 19 16 6219 ⟨rfl, rfl, rfl, rfl, by decide⟩ S_12) (by decide) (by decide) (ci := 1) rfl rfl w3_60 w3_61 w3_62 w1_7 w3_63 qyX1_finish rfl (Nat.le_of_ble_eq_true rfl) dX2_finish_67 ?_
        refine v_bnv (fun S_13 eS_13 => ?_)
        refine v_aload_n G 0 dX2_finish_70 rfl ?_
        refine v_getr G (ci := 2) (T := TX2) (j := 3) inX2 rfl rfl rfl (by decide) w1_162 dX2_finish_71 ?_
        refine v_iconst G (v := (2 : Int32)) dX2_finish_74 (by decide) ?_
        refine v_dup2 G dX2_finish_75 rfl rfl ?_
        refine v_iald G rfl (by unfold vp_in; decide) dX2_finish_76 ?_
        refine v_iconst G (v := (1 : Int32)) dX2_finish_77 (by decide) ?_
        refine v_iadd G dX2_finish_78 ?_
        refine v_iast G rfl (by unfold vp_in; decide) dX2_finish_79 (fun S_14 eS_14 => ?_)
        refine v_aload_n G 0 dX2_finish_80 rfl ?_
        refine v_dup G dX2_finish_81 rfl ?_
        refine v_geti G (ci := 2) (T := TX2) (j := 9) inX2 rfl rfl rfl (by decide) w1_168 dX2_finish_82 ?_
        refine v_iconst G (v := (1 : Int32)) dX2_finish_85 (by decide) ?_
        refine v_iadd G dX2_finish_86 ?_
        refine v_puti G (ci := 2) (T := TX2) (j := 9) inX2 rfl rfl tyX2_ok nmX2 rfl (by decide) rfl rfl rfl w1_168 dX2_finish_87 (fun S_15 eS_15 => ?_)
        refine v_aload_n G 0 dX2_finish_90 rfl ?_
        refine v_iconst G (v := (3 : Int32)) dX2_finish_91 (by decide) ?_
        refine v_puti G (ci := 2) (T := TX2) (j := 7) inX2 rfl rfl tyX2_ok nmX2 rfl (by decide) rfl rfl rfl w1_166 dX2_finish_92 (fun S_16 eS_16 => ?_)
        exact v_vret G rfl rfl dX2_finish_95
  · refine v_aload_n G 0 dX2_finish_11 rfl ?_
    refine v_getr G (ci := 2) (T := TX2) (j := 3) inX2 rfl rfl rfl (by decide) w1_162 dX2_finish_12 ?_
    refine v_iconst G (v := (1 : Int32)) dX2_finish_15 (by decide) ?_
    refine v_dup2 G dX2_finish_16 rfl rfl ?_
    refine v_iald G rfl (by unfold vp_in; decide) dX2_finish_17 ?_
    refine v_iconst G (v := (1 : Int32)) dX2_finish_18 (by decide) ?_
    refine v_iadd G dX2_finish_19 ?_
    refine v_iast G rfl (by unfold vp_in; decide) dX2_finish_20 (fun S_17 eS_17 => ?_)
    refine v_aload_n G 0 dX2_finish_21 rfl ?_
    refine v_getr G (ci := 2) (T := TX2) (j := 5) inX2 rfl rfl rfl (by decide) w1_164 dX2_finish_22 ?_
    refine v_callVi G (As := []) (st := []) (c_G_kind l hJ hX 17 18 19 16 6219 ⟨rfl, rfl, rfl, rfl, by decide⟩ S_17) (by decide) (by decide) (ci := 1) rfl rfl w2_234 w2_235 w2_236 w1_7 w2_237 qyX1_kind rfl (Nat.le_of_ble_eq_true rfl) dX2_finish_25 ?_
    refine v_iconst G (v := (2 : Int32)) dX2_finish_28 (by decide) ?_
    refine v_icmp_ne G (tgt := 63) dX2_finish_29 (by decide) (fun c_18 => ?_) (fun c_18 => ?_)
    · refine v_aload_n G 0 dX2_finish_63 rfl ?_
      refine v_getr G (ci := 2) (T := TX2) (j := 5) inX2 rfl rfl rfl (by decide) w1_164 dX2_finish_64 ?_
      refine v_callVv G (As := []) (st := []) (c_G_finish l hJ hX 17 18 19 16 6219 ⟨rfl, rfl, rfl, rfl, by decide⟩ S_17) (by decide) (by decide) (ci := 1) rfl rfl w3_60 w3_61 w3_62 w1_7 w3_63 qyX1_finish rfl (Nat.le_of_ble_eq_true rfl) dX2_finish_67 ?_
      refine v_bnv (fun S_19 eS_19 => ?_)
      refine v_aload_n G 0 dX2_finish_70 rfl ?_
      refine v_getr G (ci := 2) (T := TX2) (j := 3) inX2 rfl rfl rfl (by decide) w1_162 dX2_finish_71 ?_
      refine v_iconst G (v := (2 : Int32)) dX2_finish_74 (by decide) ?_
      refine v_dup2 G dX2_finish_75 rfl rfl ?_
      refine v_iald G rfl (by unfold vp_in; decide) dX2_finish_76 ?_
      refine v_iconst G (v := (1 : Int32)) dX2_finish_77 (by decide) ?_
      refine v_iadd G dX2_finish_78 ?_
      refine v_iast G rfl (by unfold vp_in; decide) dX2_finish_79 (fun S_20 eS_20 => ?_)
      refine v_aload_n G 0 dX2_finish_80 rfl ?_
      refine v_dup G dX2_finish_81 rfl ?_
      refine v_geti G (ci := 2) (T := TX2) (j := 9) inX2 rfl rfl rfl (by decide) w1_168 dX2_finish_82 ?_
      refine v_iconst G (v := (1 : Int32)) dX2_finish_85 (by decide) ?_
      refine v_iadd G dX2_finish_86 ?_
      refine v_puti G (ci := 2) (T := TX2) (j := 9) inX2 rfl rfl tyX2_ok nmX2 rfl (by decide) rfl rfl rfl w1_168 dX2_finish_87 (fun S_21 eS_21 => ?_)
      refine v_aload_n G 0 dX2_finish_90 rfl ?_
      refine v_iconst G (v := (3 : Int32)) dX2_finish_91 (by decide) ?_
      refine v_puti G (ci := 2) (T := TX2) (j := 7) inX2 rfl rfl tyX2_ok nmX2 rfl (by decide) rfl rfl rfl w1_166 dX2_finish_92 (fun S_22 eS_22 => ?_)
      exact v_vret G rfl rfl dX2_finish_95
    · refine v_aload_n G 0 dX2_finish_32 rfl ?_
      refine v_getr G (ci := 2) (T := TX2) (j := 4) inX2 rfl rfl rfl (by decide) w1_163 dX2_finish_33 ?_
      refine v_callVi G (As := []) (st := []) (c_R_newest l hJ hX 10 11 12 13 14 15 ⟨rfl, rfl, rfl, rfl, rfl, rfl, by decide⟩ S_17) (by decide) (by decide) (ci := 5) rfl rfl w3_56 w3_57 w3_58 w1_6 w3_59 qyX5_newest rfl (Nat.le_of_ble_eq_true rfl) dX2_finish_36 ?_
      refine v_aload_n G 0 dX2_finish_39 rfl ?_
      refine v_getr G (ci := 2) (T := TX2) (j := 5) inX2 rfl rfl rfl (by decide) w1_164 dX2_finish_40 ?_
      refine v_bipush G (v := (34 : Int32)) dX2_finish_43 (by decide) ?_
      refine v_callVi G (As := [.int (34 : Int32)]) (st := [.int (f_R_newest S_17 10 11 12 13 14 15)]) (c_G_owned l hJ hX 17 18 19 16 6219 ⟨rfl, rfl, rfl, rfl, by decide⟩ S_17 (34 : Int32)) (by decide) (by decide) (ci := 1) rfl rfl w3_30 w3_23 w3_24 w1_7 w3_25 qyX1_owned rfl (Nat.le_of_ble_eq_true rfl) dX2_finish_45 ?_
      refine v_iconst G (v := (1 : Int32)) dX2_finish_48 (by decide) ?_
      refine v_iadd G dX2_finish_49 ?_
      refine v_icmp_eq G (tgt := 63) dX2_finish_50 (by decide) (fun c_23 => ?_) (fun c_23 => ?_)
      · refine v_aload_n G 0 dX2_finish_63 rfl ?_
        refine v_getr G (ci := 2) (T := TX2) (j := 5) inX2 rfl rfl rfl (by decide) w1_164 dX2_finish_64 ?_
        refine v_callVv G (As := []) (st := []) (c_G_finish l hJ hX 17 18 19 16 6219 ⟨rfl, rfl, rfl, rfl, by decide⟩ S_17) (by decide) (by decide) (ci := 1) rfl rfl w3_60 w3_61 w3_62 w1_7 w3_63 qyX1_finish rfl (Nat.le_of_ble_eq_true rfl) dX2_finish_67 ?_
        refine v_bnv (fun S_24 eS_24 => ?_)
        refine v_aload_n G 0 dX2_finish_70 rfl ?_
        refine v_getr G (ci := 2) (T := TX2) (j := 3) inX2 rfl rfl rfl (by decide) w1_162 dX2_finish_71 ?_
        refine v_iconst G (v := (2 : Int32)) dX2_finish_74 (by decide) ?_
        refine v_dup2 G dX2_finish_75 rfl rfl ?_
        refine v_iald G rfl (by unfold vp_in; decide) dX2_finish_76 ?_
        refine v_iconst G (v := (1 : Int32)) dX2_finish_77 (by decide) ?_
        refine v_iadd G dX2_finish_78 ?_
        refine v_iast G rfl (by unfold vp_in; decide) dX2_finish_79 (fun S_25 eS_25 => ?_)
        refine v_aload_n G 0 dX2_finish_80 rfl ?_
        refine v_dup G dX2_finish_81 rfl ?_
        refine v_geti G (ci := 2) (T := TX2) (j := 9) inX2 rfl rfl rfl (by decide) w1_168 dX2_finish_82 ?_
        refine v_iconst G (v := (1 : Int32)) dX2_finish_85 (by decide) ?_
        refine v_iadd G dX2_finish_86 ?_
        refine v_puti G (ci := 2) (T := TX2) (j := 9) inX2 rfl rfl tyX2_ok nmX2 rfl (by decide) rfl rfl rfl w1_168 dX2_finish_87 (fun S_26 eS_26 => ?_)
        refine v_aload_n G 0 dX2_finish_90 rfl ?_
        refine v_iconst G (v := (3 : Int32)) dX2_finish_91 (by decide) ?_
        refine v_puti G (ci := 2) (T := TX2) (j := 7) inX2 rfl rfl tyX2_ok nmX2 rfl (by decide) rfl rfl rfl w1_166 dX2_finish_92 (fun S_27 eS_27 => ?_)
        exact v_vret G rfl rfl dX2_finish_95
      · refine v_aload_n G 0 dX2_finish_53 rfl ?_
        refine v_dup G dX2_finish_54 rfl ?_
        refine v_geti G (ci := 2) (T := TX2) (j := 13) inX2 rfl rfl rfl (by decide) w1_172 dX2_finish_55 ?_
        refine v_iconst G (v := (1 : Int32)) dX2_finish_58 (by decide) ?_
        refine v_iadd G dX2_finish_59 ?_
        refine v_puti G (ci := 2) (T := TX2) (j := 13) inX2 rfl rfl tyX2_ok nmX2 rfl (by decide) rfl rfl rfl w1_172 dX2_finish_60 (fun S_28 eS_28 => ?_)
        refine v_aload_n G 0 dX2_finish_63 rfl ?_
        refine v_getr G (ci := 2) (T := TX2) (j := 5) inX2 rfl rfl rfl (by decide) w1_164 dX2_finish_64 ?_
        refine v_callVv G (As := []) (st := []) (c_G_finish l hJ hX 17 18 19 16 6219 ⟨rfl, rfl, rfl, rfl, by decide⟩ S_28) (by decide) (by decide) (ci := 1) rfl rfl w3_60 w3_61 w3_62 w1_7 w3_63 qyX1_finish rfl (Nat.le_of_ble_eq_true rfl) dX2_finish_67 ?_
        refine v_bnv (fun S_29 eS_29 => ?_)
        refine v_aload_n G 0 dX2_finish_70 rfl ?_
        refine v_getr G (ci := 2) (T := TX2) (j := 3) inX2 rfl rfl rfl (by decide) w1_162 dX2_finish_71 ?_
        refine v_iconst G (v := (2 : Int32)) dX2_finish_74 (by decide) ?_
        refine v_dup2 G dX2_finish_75 rfl rfl ?_
        refine v_iald G rfl (by unfold vp_in; decide) dX2_finish_76 ?_
        refine v_iconst G (v := (1 : Int32)) dX2_finish_77 (by decide) ?_
        refine v_iadd G dX2_finish_78 ?_
        refine v_iast G rfl (by unfold vp_in; decide) dX2_finish_79 (fun S_30 eS_30 => ?_)
        refine v_aload_n G 0 dX2_finish_80 rfl ?_
        refine v_dup G dX2_finish_81 rfl ?_
        refine v_geti G (ci := 2) (T := TX2) (j := 9) inX2 rfl rfl rfl (by decide) w1_168 dX2_finish_82 ?_
        refine v_iconst G (v := (1 : Int32)) dX2_finish_85 (by decide) ?_
        refine v_iadd G dX2_finish_86 ?_
        refine v_puti G (ci := 2) (T := TX2) (j := 9) inX2 rfl rfl tyX2_ok nmX2 rfl (by decide) rfl rfl rfl w1_168 dX2_finish_87 (fun S_31 eS_31 => ?_)
        refine v_aload_n G 0 dX2_finish_90 rfl ?_
        refine v_iconst G (v := (3 : Int32)) dX2_finish_91 (by decide) ?_
        refine v_puti G (ci := 2) (T := TX2) (j := 7) inX2 rfl rfl tyX2_ok nmX2 rfl (by decide) rfl rfl rfl w1_166 dX2_finish_92 (fun S_32 eS_32 => ?_)
        exact v_vret G rfl rfl dX2_finish_95
/-! SensorNode$Node.instruct -/
theorem qyX2_instruct : yX2_instruct.cls ≠ "java/lang/invoke/MethodHandle" ∧ yX2_instruct.cls ≠ "java/lang/invoke/VarHandle" ∧ (parseMethodDescriptor yX2_instruct.desc).map (fun d => d.parameters.length) = some 0 := by decide +kernel
noncomputable def f_N_instruct (S : St) : St := bnx ((f_G_owned S 17 18 19 16 6219 (34 : Int32)) + (1 : Int32)) (fun x_1 => (if (f_G_kind S 17 18 19 16 6219) = (2 : Int32) then (if (S 16 (2 : Int32).toNatClampNeg) = x_1 then (if (f_N_needsEntry S) = 0 then bnv (f_N_finish S) (fun S_10 => bnv (st_up S_10 7 8 ((S_10 7 8) + (1 : Int32))) (fun S_11 => S_11)) else bnv (f_N_log S (f_G_cellWritten S 17 18 19 16 6219)) (fun S_12 => bnv (st_up S_12 7 8 ((S_12 7 8) + (1 : Int32))) (fun S_13 => S_13))) else (if (S 7 8) = 0 then bnv (f_R_send S 10 11 12 13 14 15 17 18 19 16 6219 x_1 (S 9 (5 : Int32).toNatClampNeg)) (fun S_17 => bnv (st_up S_17 7 8 ((S_17 7 8) + (1 : Int32))) (fun S_18 => S_18)) else bnv (f_N_write S (2 : Int32) x_1) (fun S_15 => bnv (st_up S_15 7 8 ((S_15 7 8) + (1 : Int32))) (fun S_16 => S_16)))) else (if (f_N_needsEntry S) = 0 then bnv (f_N_finish S) (fun S_4 => bnv (st_up S_4 7 8 ((S_4 7 8) + (1 : Int32))) (fun S_5 => S_5)) else bnv (f_N_log S (f_G_cellWritten S 17 18 19 16 6219)) (fun S_6 => bnv (st_up S_6 7 8 ((S_6 7 8) + (1 : Int32))) (fun S_7 => S_7)))))
set_option linter.unusedVariables false in
set_option maxHeartbeats 4000000 in
set_option maxRecDepth 100000 in
theorem c_N_instruct (l : Launch) {X : vD} (hJ : sh_J X) (hX : shp X = shX)  (S : St)  : Con l X yX2_instruct cX2_instruct 3 none 4 [.ref (adr X 7)] S (none, f_N_instruct S) := by
  refine con_of (ρ := (fun S : St => ((none, S) : Option Value × St))) (K := f_N_instruct S) hJ hX (by decide) (Nat.le_of_ble_eq_true rfl) (lv := [(0, .ref (adr X 7))]) rfl ?_
  intro p e s m below meth c G
  have G : vG p s m _ meth c X shX "SensorNode$Node" cX2_instruct 3 none := G
  unfold f_N_instruct
  refine v_aload_n G 0 dX2_instruct_0 rfl ?_
  refine v_getr G (ci := 2) (T := TX2) (j := 5) inX2 rfl rfl rfl (by decide) w1_164 dX2_instruct_1 ?_
  refine v_bipush G (v := (34 : Int32)) dX2_instruct_4 (by decide) ?_
  refine v_callVi G (As := [.int (34 : Int32)]) (st := []) (c_G_owned l hJ hX 17 18 19 16 6219 ⟨rfl, rfl, rfl, rfl, by decide⟩ S (34 : Int32)) (by decide) (by decide) (ci := 1) rfl rfl w3_30 w3_23 w3_24 w1_7 w3_25 qyX1_owned rfl (Nat.le_of_ble_eq_true rfl) dX2_instruct_6 ?_
  refine v_iconst G (v := (1 : Int32)) dX2_instruct_9 (by decide) ?_
  refine v_iadd G dX2_instruct_10 ?_
  refine v_namei (fun x_1 ex_1 => ?_)
  refine v_istore_n G [(1, .int x_1), (0, .ref (adr X 7))] dX2_instruct_11 (by decide) rfl ?_
  refine v_aload_n G 1 dX2_instruct_12 rfl ?_
  refine v_getr G (ci := 2) (T := TX2) (j := 5) inX2 rfl rfl rfl (by decide) w1_164 dX2_instruct_13 ?_
  refine v_callVi G (As := []) (st := []) (c_G_kind l hJ hX 17 18 19 16 6219 ⟨rfl, rfl, rfl, rfl, by decide⟩ S) (by decide) (by decide) (ci := 1) rfl rfl w2_234 w2_235 w2_236 w1_7 w2_237 qyX1_kind rfl (Nat.le_of_ble_eq_true rfl) dX2_instruct_16 ?_
  refine v_iconst G (v := (2 : Int32)) dX2_instruct_19 (by decide) ?_
  refine v_icmp_ne G (tgt := 37) dX2_instruct_20 (by decide) (fun c_2 => ?_) (fun c_2 => ?_)
  · refine v_iconst G (v := (0 : Int32)) dX2_instruct_37 (by decide) ?_
    refine v_istore_n G [(2, .int (0 : Int32)), (1, .int x_1), (0, .ref (adr X 7))] dX2_instruct_38 (by decide) rfl ?_
    refine v_iload_n G 0 dX2_instruct_39 rfl ?_
    refine v_if_eq_t G (tgt := 71) dX2_instruct_40 (by decide) (by decide) ?_
    refine v_iload_n G 0 dX2_instruct_71 rfl ?_
    refine v_if_eq_t G (tgt := 84) dX2_instruct_72 (by decide) (by decide) ?_
    refine v_aload_n G 2 dX2_instruct_84 rfl ?_
    refine v_callVi G (As := []) (st := []) (c_N_needsEntry l hJ hX S) (by decide) (by decide) (ci := 2) rfl rfl w2_238 w3_0 w0_18 w1_5 w3_1 qyX2_needsEntry rfl (Nat.le_of_ble_eq_true rfl) dX2_instruct_85 ?_
    refine v_if_eq G (tgt := 105) dX2_instruct_88 (by decide) (fun c_3 => ?_) (fun c_3 => ?_)
    · refine v_aload_n G 2 dX2_instruct_105 rfl ?_
      refine v_callVv G (As := []) (st := []) (c_N_finish l hJ hX S) (by decide) (by decide) (ci := 2) rfl rfl w3_52 w3_54 w0_24 w1_5 w3_55 qyX2_finish rfl (Nat.le_of_ble_eq_true rfl) dX2_instruct_106 ?_
      refine v_bnv (fun S_4 eS_4 => ?_)
      refine v_aload_n G 2 dX2_instruct_109 rfl ?_
      refine v_dup G dX2_instruct_110 rfl ?_
      refine v_geti G (ci := 2) (T := TX2) (j := 8) inX2 rfl rfl rfl (by decide) w1_167 dX2_instruct_111 ?_
      refine v_iconst G (v := (1 : Int32)) dX2_instruct_114 (by decide) ?_
      refine v_iadd G dX2_instruct_115 ?_
      refine v_puti G (ci := 2) (T := TX2) (j := 8) inX2 rfl rfl tyX2_ok nmX2 rfl (by decide) rfl rfl rfl w1_167 dX2_instruct_116 (fun S_5 eS_5 => ?_)
      exact v_vret G rfl rfl dX2_instruct_119
    · refine v_aload_n G 2 dX2_instruct_91 rfl ?_
      refine v_aload_n G 2 dX2_instruct_92 rfl ?_
      refine v_getr G (ci := 2) (T := TX2) (j := 5) inX2 rfl rfl rfl (by decide) w1_164 dX2_instruct_93 ?_
      refine v_callVi G (As := []) (st := [.ref (adr X 7)]) (c_G_cellWritten l hJ hX 17 18 19 16 6219 ⟨rfl, rfl, rfl, rfl, by decide⟩ S) (by decide) (by decide) (ci := 1) rfl rfl w3_2 w3_3 w3_4 w1_7 w3_5 qyX1_cellWritten rfl (Nat.le_of_ble_eq_true rfl) dX2_instruct_96 ?_
      refine v_callVv G (As := [.int (f_G_cellWritten S 17 18 19 16 6219)]) (st := []) (c_N_log l hJ hX S (f_G_cellWritten S 17 18 19 16 6219)) (by decide) (by decide) (ci := 2) rfl rfl w3_48 w3_50 w0_23 w1_5 w3_51 qyX2_log rfl (Nat.le_of_ble_eq_true rfl) dX2_instruct_99 ?_
      refine v_bnv (fun S_6 eS_6 => ?_)
      refine v_goto G (tgt := 109) dX2_instruct_102 (by decide) ?_
      refine v_aload_n G 2 dX2_instruct_109 rfl ?_
      refine v_dup G dX2_instruct_110 rfl ?_
      refine v_geti G (ci := 2) (T := TX2) (j := 8) inX2 rfl rfl rfl (by decide) w1_167 dX2_instruct_111 ?_
      refine v_iconst G (v := (1 : Int32)) dX2_instruct_114 (by decide) ?_
      refine v_iadd G dX2_instruct_115 ?_
      refine v_puti G (ci := 2) (T := TX2) (j := 8) inX2 rfl rfl tyX2_ok nmX2 rfl (by decide) rfl rfl rfl w1_167 dX2_instruct_116 (fun S_7 eS_7 => ?_)
      exact v_vret G rfl rfl dX2_instruct_119
  · refine v_aload_n G 1 dX2_instruct_23 rfl ?_
    refine v_getr G (ci := 2) (T := TX2) (j := 1) inX2 rfl rfl rfl (by decide) w1_160 dX2_instruct_24 ?_
    refine v_iconst G (v := (2 : Int32)) dX2_instruct_27 (by decide) ?_
    refine v_iald G rfl (by unfold vp_in; decide) dX2_instruct_28 ?_
    refine v_iload_n G 0 dX2_instruct_29 rfl ?_
    refine v_icmp_eq G (tgt := 37) dX2_instruct_30 (by decide) (fun c_8 => ?_) (fun c_8 => ?_)
    · refine v_iconst G (v := (0 : Int32)) dX2_instruct_37 (by decide) ?_
      refine v_istore_n G [(2, .int (0 : Int32)), (1, .int x_1), (0, .ref (adr X 7))] dX2_instruct_38 (by decide) rfl ?_
      refine v_iload_n G 0 dX2_instruct_39 rfl ?_
      refine v_if_eq_t G (tgt := 71) dX2_instruct_40 (by decide) (by decide) ?_
      refine v_iload_n G 0 dX2_instruct_71 rfl ?_
      refine v_if_eq_t G (tgt := 84) dX2_instruct_72 (by decide) (by decide) ?_
      refine v_aload_n G 2 dX2_instruct_84 rfl ?_
      refine v_callVi G (As := []) (st := []) (c_N_needsEntry l hJ hX S) (by decide) (by decide) (ci := 2) rfl rfl w2_238 w3_0 w0_18 w1_5 w3_1 qyX2_needsEntry rfl (Nat.le_of_ble_eq_true rfl) dX2_instruct_85 ?_
      refine v_if_eq G (tgt := 105) dX2_instruct_88 (by decide) (fun c_9 => ?_) (fun c_9 => ?_)
      · refine v_aload_n G 2 dX2_instruct_105 rfl ?_
        refine v_callVv G (As := []) (st := []) (c_N_finish l hJ hX S) (by decide) (by decide) (ci := 2) rfl rfl w3_52 w3_54 w0_24 w1_5 w3_55 qyX2_finish rfl (Nat.le_of_ble_eq_true rfl) dX2_instruct_106 ?_
        refine v_bnv (fun S_10 eS_10 => ?_)
        refine v_aload_n G 2 dX2_instruct_109 rfl ?_
        refine v_dup G dX2_instruct_110 rfl ?_
        refine v_geti G (ci := 2) (T := TX2) (j := 8) inX2 rfl rfl rfl (by decide) w1_167 dX2_instruct_111 ?_
        refine v_iconst G (v := (1 : Int32)) dX2_instruct_114 (by decide) ?_
        refine v_iadd G dX2_instruct_115 ?_
        refine v_puti G (ci := 2) (T := TX2) (j := 8) inX2 rfl rfl tyX2_ok nmX2 rfl (by decide) rfl rfl rfl w1_167 dX2_instruct_116 (fun S_11 eS_11 => ?_)
        exact v_vret G rfl rfl dX2_instruct_119
      · refine v_aload_n G 2 dX2_instruct_91 rfl ?_
        refine v_aload_n G 2 dX2_instruct_92 rfl ?_
        refine v_getr G (ci := 2) (T := TX2) (j := 5) inX2 rfl rfl rfl (by decide) w1_164 dX2_instruct_93 ?_
        refine v_callVi G (As := []) (st := [.ref (adr X 7)]) (c_G_cellWritten l hJ hX 17 18 19 16 6219 ⟨rfl, rfl, rfl, rfl, by decide⟩ S) (by decide) (by decide) (ci := 1) rfl rfl w3_2 w3_3 w3_4 w1_7 w3_5 qyX1_cellWritten rfl (Nat.le_of_ble_eq_true rfl) dX2_instruct_96 ?_
        refine v_callVv G (As := [.int (f_G_cellWritten S 17 18 19 16 6219)]) (st := []) (c_N_log l hJ hX S (f_G_cellWritten S 17 18 19 16 6219)) (by decide) (by decide) (ci := 2) rfl rfl w3_48 w3_50 w0_23 w1_5 w3_51 qyX2_log rfl (Nat.le_of_ble_eq_true rfl) dX2_instruct_99 ?_
        refine v_bnv (fun S_12 eS_12 => ?_)
        refine v_goto G (tgt := 109) dX2_instruct_102 (by decide) ?_
        refine v_aload_n G 2 dX2_instruct_109 rfl ?_
        refine v_dup G dX2_instruct_110 rfl ?_
        refine v_geti G (ci := 2) (T := TX2) (j := 8) inX2 rfl rfl rfl (by decide) w1_167 dX2_instruct_111 ?_
        refine v_iconst G (v := (1 : Int32)) dX2_instruct_114 (by decide) ?_
        refine v_iadd G dX2_instruct_115 ?_
        refine v_puti G (ci := 2) (T := TX2) (j := 8) inX2 rfl rfl tyX2_ok nmX2 rfl (by decide) rfl rfl rfl w1_167 dX2_instruct_116 (fun S_13 eS_13 => ?_)
        exact v_vret G rfl rfl dX2_instruct_119
    · refine v_iconst G (v := (1 : Int32)) dX2_instruct_33 (by decide) ?_
      refine v_goto G (tgt := 38) dX2_instruct_34 (by decide) ?_
      refine v_istore_n G [(2, .int (1 : Int32)), (1, .int x_1), (0, .ref (adr X 7))] dX2_instruct_38 (by decide) rfl ?_
      refine v_iload_n G 0 dX2_instruct_39 rfl ?_
      refine v_if_eq_f G (tgt := 71) dX2_instruct_40 (by decide) (by decide) ?_
      refine v_aload_n G 2 dX2_instruct_43 rfl ?_
      refine v_geti G (ci := 2) (T := TX2) (j := 8) inX2 rfl rfl rfl (by decide) w1_167 dX2_instruct_44 ?_
      refine v_if_ne G (tgt := 71) dX2_instruct_47 (by decide) (fun c_14 => ?_) (fun c_14 => ?_)
      · refine v_iload_n G 0 dX2_instruct_71 rfl ?_
        refine v_if_eq_f G (tgt := 84) dX2_instruct_72 (by decide) (by decide) ?_
        refine v_aload_n G 2 dX2_instruct_75 rfl ?_
        refine v_iconst G (v := (2 : Int32)) dX2_instruct_76 (by decide) ?_
        refine v_iload_n G 1 dX2_instruct_77 rfl ?_
        refine v_callVv G (As := [.int (2 : Int32), .int x_1]) (st := []) (c_N_write l hJ hX S (2 : Int32) x_1) (by decide) (by decide) (ci := 2) rfl rfl w3_10 w3_12 w0_20 w1_5 w3_13 qyX2_write rfl (Nat.le_of_ble_eq_true rfl) dX2_instruct_78 ?_
        refine v_bnv (fun S_15 eS_15 => ?_)
        refine v_goto G (tgt := 109) dX2_instruct_81 (by decide) ?_
        refine v_aload_n G 2 dX2_instruct_109 rfl ?_
        refine v_dup G dX2_instruct_110 rfl ?_
        refine v_geti G (ci := 2) (T := TX2) (j := 8) inX2 rfl rfl rfl (by decide) w1_167 dX2_instruct_111 ?_
        refine v_iconst G (v := (1 : Int32)) dX2_instruct_114 (by decide) ?_
        refine v_iadd G dX2_instruct_115 ?_
        refine v_puti G (ci := 2) (T := TX2) (j := 8) inX2 rfl rfl tyX2_ok nmX2 rfl (by decide) rfl rfl rfl w1_167 dX2_instruct_116 (fun S_16 eS_16 => ?_)
        exact v_vret G rfl rfl dX2_instruct_119
      · refine v_aload_n G 2 dX2_instruct_50 rfl ?_
        refine v_getr G (ci := 2) (T := TX2) (j := 4) inX2 rfl rfl rfl (by decide) w1_163 dX2_instruct_51 ?_
        refine v_aload_n G 2 dX2_instruct_54 rfl ?_
        refine v_getr G (ci := 2) (T := TX2) (j := 5) inX2 rfl rfl rfl (by decide) w1_164 dX2_instruct_55 ?_
        refine v_iload_n G 1 dX2_instruct_58 rfl ?_
        refine v_aload_n G 2 dX2_instruct_59 rfl ?_
        refine v_getr G (ci := 2) (T := TX2) (j := 3) inX2 rfl rfl rfl (by decide) w1_162 dX2_instruct_60 ?_
        refine v_iconst G (v := (5 : Int32)) dX2_instruct_63 (by decide) ?_
        refine v_iald G rfl (by unfold vp_in; decide) dX2_instruct_64 ?_
        refine v_callVv G (As := [.ref (adr X 17), .int x_1, .int (S 9 (5 : Int32).toNatClampNeg)]) (st := []) (c_R_send l hJ hX 10 11 12 13 14 15 17 18 19 16 6219 ⟨rfl, rfl, rfl, rfl, rfl, rfl, by decide⟩ ⟨rfl, rfl, rfl, rfl, by decide⟩ S x_1 (S 9 (5 : Int32).toNatClampNeg)) (by decide) (by decide) (ci := 5) rfl rfl w3_31 w3_32 w3_33 w1_6 w3_34 qyX5_send rfl (Nat.le_of_ble_eq_true rfl) dX2_instruct_65 ?_
        refine v_bnv (fun S_17 eS_17 => ?_)
        refine v_goto G (tgt := 109) dX2_instruct_68 (by decide) ?_
        refine v_aload_n G 2 dX2_instruct_109 rfl ?_
        refine v_dup G dX2_instruct_110 rfl ?_
        refine v_geti G (ci := 2) (T := TX2) (j := 8) inX2 rfl rfl rfl (by decide) w1_167 dX2_instruct_111 ?_
        refine v_iconst G (v := (1 : Int32)) dX2_instruct_114 (by decide) ?_
        refine v_iadd G dX2_instruct_115 ?_
        refine v_puti G (ci := 2) (T := TX2) (j := 8) inX2 rfl rfl tyX2_ok nmX2 rfl (by decide) rfl rfl rfl w1_167 dX2_instruct_116 (fun S_18 eS_18 => ?_)
        exact v_vret G rfl rfl dX2_instruct_119
/-! SensorNode$Node.act -/
theorem qyX2_act : yX2_act.cls ≠ "java/lang/invoke/MethodHandle" ∧ yX2_act.cls ≠ "java/lang/invoke/VarHandle" ∧ (parseMethodDescriptor yX2_act.desc).map (fun d => d.parameters.length) = some 1 := by decide +kernel
noncomputable def f_N_act_2 : Nat → St → Int32 → Int32 → Int32 × St
  | 0, S, _, _ => (0, S)
  | fn + 1, S, v1, v2 => (if v2 < v1 then (if (f_N_hasPower S) = 0 then bnv (st_up S 9 (0 : Int32).toNatClampNeg ((S 9 (0 : Int32).toNatClampNeg) + v2)) (fun S_1006 => (v2, S_1006)) else (if (S 7 7) < (6 : Int32) then (if (S 7 7) = (3 : Int32) then bnv (f_N_choose S) (fun S_1016 => (if (S_1016 7 7) = (2 : Int32) then bnv (f_N_boot S_1016) (fun S_1022 => (f_N_act_2 fn S_1022 v1 (v2 + (1 : Int32)))) else (if (S_1016 7 7) = (4 : Int32) then bnv (f_N_checkpoint S_1016) (fun S_1021 => (f_N_act_2 fn S_1021 v1 (v2 + (1 : Int32)))) else (if (S_1016 7 7) = (5 : Int32) then bnv (f_N_instruct S_1016) (fun S_1020 => (f_N_act_2 fn S_1020 v1 (v2 + (1 : Int32)))) else (f_N_act_2 fn S_1016 v1 (v2 + (1 : Int32))))))) else (if (S 7 7) = (2 : Int32) then bnv (f_N_boot S) (fun S_1015 => (f_N_act_2 fn S_1015 v1 (v2 + (1 : Int32)))) else (if (S 7 7) = (4 : Int32) then bnv (f_N_checkpoint S) (fun S_1014 => (f_N_act_2 fn S_1014 v1 (v2 + (1 : Int32)))) else (if (S 7 7) = (5 : Int32) then bnv (f_N_instruct S) (fun S_1013 => (f_N_act_2 fn S_1013 v1 (v2 + (1 : Int32)))) else (f_N_act_2 fn S v1 (v2 + (1 : Int32))))))) else bnv (st_up S 9 (0 : Int32).toNatClampNeg ((S 9 (0 : Int32).toNatClampNeg) + v2)) (fun S_1008 => (v2, S_1008)))) else bnv (st_up S 9 (0 : Int32).toNatClampNeg ((S 9 (0 : Int32).toNatClampNeg) + v2)) (fun S_1004 => (v2, S_1004)))
set_option linter.unusedVariables false in
set_option maxHeartbeats 4000000 in
set_option maxRecDepth 100000 in
theorem v_N_act_2 {p : Program} {l : Launch} {e : Env} {s : State} {m : MethodId} {args : Array Value} {below : List Frame} {meth : Method} {c : Code} {X : vD} {ρ : Int32 × St → Option Value × St} (hρ : ∀ q : Int32 × St, ρ q = ((some (.int q.1), q.2) : Option Value × St))  (hJ : sh_J X) (hX : shp X = shX) (G : vG p s m args meth c X shX "SensorNode$Node" cX2_act 3 (some .int))  : ∀ (fuel : Nat) (S : St) (v1 v2 : Int32) , ((v1).toInt - v2.toInt).toNat < fuel → V p l e 5 s m args below meth c X 3 ρ S 2 [(0, .ref (adr X 7)), (1, .int v1), (2, .int v2)] [] (f_N_act_2 fuel S v1 v2) := by
  intro fuel
  induction fuel with
  | zero =>
    intro S v1 v2 hm
    exact absurd hm (Nat.not_lt_zero _)
  | succ fn ih =>
    intro S v1 v2 hm
    rw [f_N_act_2]
    refine v_iload_n G 2 dX2_act_2 rfl ?_
    refine v_iload_n G 1 dX2_act_3 rfl ?_
    refine v_icmp_ge G (tgt := 83) dX2_act_4 (by decide) (fun c_1003 => ?_) (fun c_1003 => ?_)
    · refine v_aload_n G 0 dX2_act_83 rfl ?_
      refine v_getr G (ci := 2) (T := TX2) (j := 3) inX2 rfl rfl rfl (by decide) w1_162 dX2_act_84 ?_
      refine v_iconst G (v := (0 : Int32)) dX2_act_87 (by decide) ?_
      refine v_dup2 G dX2_act_88 rfl rfl ?_
      refine v_iald G rfl (by unfold vp_in; decide) dX2_act_89 ?_
      refine v_iload_n G 2 dX2_act_90 rfl ?_
      refine v_iadd G dX2_act_91 ?_
      refine v_iast G rfl (by unfold vp_in; decide) dX2_act_92 (fun S_1004 eS_1004 => ?_)
      refine v_iload_n G 2 dX2_act_93 rfl ?_
      exact v_iret G rfl (hρ _) dX2_act_94
    · refine v_aload_n G 0 dX2_act_7 rfl ?_
      refine v_callVi G (As := []) (st := []) (c_N_hasPower l hJ hX S) (by decide) (by decide) (ci := 2) rfl rfl w2_138 w2_140 w0_4 w1_5 w2_141 qyX2_hasPower rfl (Nat.le_of_ble_eq_true rfl) dX2_act_8 ?_
      refine v_if_eq G (tgt := 83) dX2_act_11 (by decide) (fun c_1005 => ?_) (fun c_1005 => ?_)
      · refine v_aload_n G 0 dX2_act_83 rfl ?_
        refine v_getr G (ci := 2) (T := TX2) (j := 3) inX2 rfl rfl rfl (by decide) w1_162 dX2_act_84 ?_
        refine v_iconst G (v := (0 : Int32)) dX2_act_87 (by decide) ?_
        refine v_dup2 G dX2_act_88 rfl rfl ?_
        refine v_iald G rfl (by unfold vp_in; decide) dX2_act_89 ?_
        refine v_iload_n G 2 dX2_act_90 rfl ?_
        refine v_iadd G dX2_act_91 ?_
        refine v_iast G rfl (by unfold vp_in; decide) dX2_act_92 (fun S_1006 eS_1006 => ?_)
        refine v_iload_n G 2 dX2_act_93 rfl ?_
        exact v_iret G rfl (hρ _) dX2_act_94
      · refine v_aload_n G 0 dX2_act_14 rfl ?_
        refine v_geti G (ci := 2) (T := TX2) (j := 7) inX2 rfl rfl rfl (by decide) w1_166 dX2_act_15 ?_
        refine v_bipush G (v := (6 : Int32)) dX2_act_18 (by decide) ?_
        refine v_icmp_ge G (tgt := 83) dX2_act_20 (by decide) (fun c_1007 => ?_) (fun c_1007 => ?_)
        · refine v_aload_n G 0 dX2_act_83 rfl ?_
          refine v_getr G (ci := 2) (T := TX2) (j := 3) inX2 rfl rfl rfl (by decide) w1_162 dX2_act_84 ?_
          refine v_iconst G (v := (0 : Int32)) dX2_act_87 (by decide) ?_
          refine v_dup2 G dX2_act_88 rfl rfl ?_
          refine v_iald G rfl (by unfold vp_in; decide) dX2_act_89 ?_
          refine v_iload_n G 2 dX2_act_90 rfl ?_
          refine v_iadd G dX2_act_91 ?_
          refine v_iast G rfl (by unfold vp_in; decide) dX2_act_92 (fun S_1008 eS_1008 => ?_)
          refine v_iload_n G 2 dX2_act_93 rfl ?_
          exact v_iret G rfl (hρ _) dX2_act_94
        · refine v_aload_n G 0 dX2_act_23 rfl ?_
          refine v_geti G (ci := 2) (T := TX2) (j := 7) inX2 rfl rfl rfl (by decide) w1_166 dX2_act_24 ?_
          refine v_iconst G (v := (3 : Int32)) dX2_act_27 (by decide) ?_
          refine v_icmp_ne G (tgt := 35) dX2_act_28 (by decide) (fun c_1009 => ?_) (fun c_1009 => ?_)
          · refine v_aload_n G 0 dX2_act_35 rfl ?_
            refine v_geti G (ci := 2) (T := TX2) (j := 7) inX2 rfl rfl rfl (by decide) w1_166 dX2_act_36 ?_
            refine v_iconst G (v := (2 : Int32)) dX2_act_39 (by decide) ?_
            refine v_icmp_ne G (tgt := 50) dX2_act_40 (by decide) (fun c_1010 => ?_) (fun c_1010 => ?_)
            · refine v_aload_n G 0 dX2_act_50 rfl ?_
              refine v_geti G (ci := 2) (T := TX2) (j := 7) inX2 rfl rfl rfl (by decide) w1_166 dX2_act_51 ?_
              refine v_iconst G (v := (4 : Int32)) dX2_act_54 (by decide) ?_
              refine v_icmp_ne G (tgt := 65) dX2_act_55 (by decide) (fun c_1011 => ?_) (fun c_1011 => ?_)
              · refine v_aload_n G 0 dX2_act_65 rfl ?_
                refine v_geti G (ci := 2) (T := TX2) (j := 7) inX2 rfl rfl rfl (by decide) w1_166 dX2_act_66 ?_
                refine v_iconst G (v := (5 : Int32)) dX2_act_69 (by decide) ?_
                refine v_icmp_ne G (tgt := 77) dX2_act_70 (by decide) (fun c_1012 => ?_) (fun c_1012 => ?_)
                · refine v_iinc G (v := v2 + (1 : Int32)) 2 [(2, .int (v2 + (1 : Int32))), (0, .ref (adr X 7)), (1, .int v1)] dX2_act_77 rfl rfl (by decide) rfl ?_
                  refine v_goto G (tgt := 2) dX2_act_80 (by decide) ?_
                  exact v_sub (lv' := [(0, .ref (adr X 7)), (1, .int v1), (2, .int (v2 + (1 : Int32)))]) [1, 2, 0] rfl (ih S v1 (v2 + (1 : Int32)) (lp_m (by assumption) hm))
                · refine v_aload_n G 0 dX2_act_73 rfl ?_
                  refine v_callVv G (As := []) (st := []) (c_N_instruct l hJ hX S) (by decide) (by decide) (ci := 2) rfl rfl w3_26 w3_28 w0_22 w1_5 w3_29 qyX2_instruct rfl (Nat.le_of_ble_eq_true rfl) dX2_act_74 ?_
                  refine v_bnv (fun S_1013 eS_1013 => ?_)
                  refine v_iinc G (v := v2 + (1 : Int32)) 2 [(2, .int (v2 + (1 : Int32))), (0, .ref (adr X 7)), (1, .int v1)] dX2_act_77 rfl rfl (by decide) rfl ?_
                  refine v_goto G (tgt := 2) dX2_act_80 (by decide) ?_
                  exact v_sub (lv' := [(0, .ref (adr X 7)), (1, .int v1), (2, .int (v2 + (1 : Int32)))]) [1, 2, 0] rfl (ih S_1013 v1 (v2 + (1 : Int32)) (lp_m (by assumption) hm))
              · refine v_aload_n G 0 dX2_act_58 rfl ?_
                refine v_callVv G (As := []) (st := []) (c_N_checkpoint l hJ hX S) (by decide) (by decide) (ci := 2) rfl rfl w3_14 w3_16 w0_21 w1_5 w3_17 qyX2_checkpoint rfl (Nat.le_of_ble_eq_true rfl) dX2_act_59 ?_
                refine v_bnv (fun S_1014 eS_1014 => ?_)
                refine v_goto G (tgt := 77) dX2_act_62 (by decide) ?_
                refine v_iinc G (v := v2 + (1 : Int32)) 2 [(2, .int (v2 + (1 : Int32))), (0, .ref (adr X 7)), (1, .int v1)] dX2_act_77 rfl rfl (by decide) rfl ?_
                refine v_goto G (tgt := 2) dX2_act_80 (by decide) ?_
                exact v_sub (lv' := [(0, .ref (adr X 7)), (1, .int v1), (2, .int (v2 + (1 : Int32)))]) [1, 2, 0] rfl (ih S_1014 v1 (v2 + (1 : Int32)) (lp_m (by assumption) hm))
            · refine v_aload_n G 0 dX2_act_43 rfl ?_
              refine v_callVv G (As := []) (st := []) (c_N_boot l hJ hX S) (by decide) (by decide) (ci := 2) rfl rfl w3_6 w3_8 w0_19 w1_5 w3_9 qyX2_boot rfl (Nat.le_of_ble_eq_true rfl) dX2_act_44 ?_
              refine v_bnv (fun S_1015 eS_1015 => ?_)
              refine v_goto G (tgt := 77) dX2_act_47 (by decide) ?_
              refine v_iinc G (v := v2 + (1 : Int32)) 2 [(2, .int (v2 + (1 : Int32))), (0, .ref (adr X 7)), (1, .int v1)] dX2_act_77 rfl rfl (by decide) rfl ?_
              refine v_goto G (tgt := 2) dX2_act_80 (by decide) ?_
              exact v_sub (lv' := [(0, .ref (adr X 7)), (1, .int v1), (2, .int (v2 + (1 : Int32)))]) [1, 2, 0] rfl (ih S_1015 v1 (v2 + (1 : Int32)) (lp_m (by assumption) hm))
          · refine v_aload_n G 0 dX2_act_31 rfl ?_
            refine v_callVv G (As := []) (st := []) (c_N_choose l hJ hX S) (by decide) (by decide) (ci := 2) rfl rfl w2_150 w2_152 w0_5 w1_5 w2_153 qyX2_choose rfl (Nat.le_of_ble_eq_true rfl) dX2_act_32 ?_
            refine v_bnv (fun S_1016 eS_1016 => ?_)
            refine v_aload_n G 0 dX2_act_35 rfl ?_
            refine v_geti G (ci := 2) (T := TX2) (j := 7) inX2 rfl rfl rfl (by decide) w1_166 dX2_act_36 ?_
            refine v_iconst G (v := (2 : Int32)) dX2_act_39 (by decide) ?_
            refine v_icmp_ne G (tgt := 50) dX2_act_40 (by decide) (fun c_1017 => ?_) (fun c_1017 => ?_)
            · refine v_aload_n G 0 dX2_act_50 rfl ?_
              refine v_geti G (ci := 2) (T := TX2) (j := 7) inX2 rfl rfl rfl (by decide) w1_166 dX2_act_51 ?_
              refine v_iconst G (v := (4 : Int32)) dX2_act_54 (by decide) ?_
              refine v_icmp_ne G (tgt := 65) dX2_act_55 (by decide) (fun c_1018 => ?_) (fun c_1018 => ?_)
              · refine v_aload_n G 0 dX2_act_65 rfl ?_
                refine v_geti G (ci := 2) (T := TX2) (j := 7) inX2 rfl rfl rfl (by decide) w1_166 dX2_act_66 ?_
                refine v_iconst G (v := (5 : Int32)) dX2_act_69 (by decide) ?_
                refine v_icmp_ne G (tgt := 77) dX2_act_70 (by decide) (fun c_1019 => ?_) (fun c_1019 => ?_)
                · refine v_iinc G (v := v2 + (1 : Int32)) 2 [(2, .int (v2 + (1 : Int32))), (0, .ref (adr X 7)), (1, .int v1)] dX2_act_77 rfl rfl (by decide) rfl ?_
                  refine v_goto G (tgt := 2) dX2_act_80 (by decide) ?_
                  exact v_sub (lv' := [(0, .ref (adr X 7)), (1, .int v1), (2, .int (v2 + (1 : Int32)))]) [1, 2, 0] rfl (ih S_1016 v1 (v2 + (1 : Int32)) (lp_m (by assumption) hm))
                · refine v_aload_n G 0 dX2_act_73 rfl ?_
                  refine v_callVv G (As := []) (st := []) (c_N_instruct l hJ hX S_1016) (by decide) (by decide) (ci := 2) rfl rfl w3_26 w3_28 w0_22 w1_5 w3_29 qyX2_instruct rfl (Nat.le_of_ble_eq_true rfl) dX2_act_74 ?_
                  refine v_bnv (fun S_1020 eS_1020 => ?_)
                  refine v_iinc G (v := v2 + (1 : Int32)) 2 [(2, .int (v2 + (1 : Int32))), (0, .ref (adr X 7)), (1, .int v1)] dX2_act_77 rfl rfl (by decide) rfl ?_
                  refine v_goto G (tgt := 2) dX2_act_80 (by decide) ?_
                  exact v_sub (lv' := [(0, .ref (adr X 7)), (1, .int v1), (2, .int (v2 + (1 : Int32)))]) [1, 2, 0] rfl (ih S_1020 v1 (v2 + (1 : Int32)) (lp_m (by assumption) hm))
              · refine v_aload_n G 0 dX2_act_58 rfl ?_
                refine v_callVv G (As := []) (st := []) (c_N_checkpoint l hJ hX S_1016) (by decide) (by decide) (ci := 2) rfl rfl w3_14 w3_16 w0_21 w1_5 w3_17 qyX2_checkpoint rfl (Nat.le_of_ble_eq_true rfl) dX2_act_59 ?_
                refine v_bnv (fun S_1021 eS_1021 => ?_)
                refine v_goto G (tgt := 77) dX2_act_62 (by decide) ?_
                refine v_iinc G (v := v2 + (1 : Int32)) 2 [(2, .int (v2 + (1 : Int32))), (0, .ref (adr X 7)), (1, .int v1)] dX2_act_77 rfl rfl (by decide) rfl ?_
                refine v_goto G (tgt := 2) dX2_act_80 (by decide) ?_
                exact v_sub (lv' := [(0, .ref (adr X 7)), (1, .int v1), (2, .int (v2 + (1 : Int32)))]) [1, 2, 0] rfl (ih S_1021 v1 (v2 + (1 : Int32)) (lp_m (by assumption) hm))
            · refine v_aload_n G 0 dX2_act_43 rfl ?_
              refine v_callVv G (As := []) (st := []) (c_N_boot l hJ hX S_1016) (by decide) (by decide) (ci := 2) rfl rfl w3_6 w3_8 w0_19 w1_5 w3_9 qyX2_boot rfl (Nat.le_of_ble_eq_true rfl) dX2_act_44 ?_
              refine v_bnv (fun S_1022 eS_1022 => ?_)
              refine v_goto G (tgt := 77) dX2_act_47 (by decide) ?_
              refine v_iinc G (v := v2 + (1 : Int32)) 2 [(2, .int (v2 + (1 : Int32))), (0, .ref (adr X 7)), (1, .int v1)] dX2_act_77 rfl rfl (by decide) rfl ?_
              refine v_goto G (tgt := 2) dX2_act_80 (by decide) ?_
              exact v_sub (lv' := [(0, .ref (adr X 7)), (1, .int v1), (2, .int (v2 + (1 : Int32)))]) [1, 2, 0] rfl (ih S_1022 v1 (v2 + (1 : Int32)) (lp_m (by assumption) hm))
noncomputable def f_N_act (S : St) (a1 : Int32) : Int32 × St := (f_N_act_2 fuz S a1 (0 : Int32))
set_option linter.unusedVariables false in
set_option maxHeartbeats 4000000 in
set_option maxRecDepth 100000 in
theorem c_N_act (l : Launch) {X : vD} (hJ : sh_J X) (hX : shp X = shX)  (S : St) (a1 : Int32)  : Con l X yX2_act cX2_act 3 (some .int) 5 [.ref (adr X 7), .int a1] S (some (.int (f_N_act S a1).1), (f_N_act S a1).2) := by
  refine con_of (ρ := (fun q : Int32 × St => ((some (.int q.1), q.2) : Option Value × St))) (K := f_N_act S a1) hJ hX (by decide) (Nat.le_of_ble_eq_true rfl) (lv := [(0, .ref (adr X 7)), (1, .int a1)]) rfl ?_
  intro p e s m below meth c G
  generalize hρ0 : (fun q : Int32 × St => ((some (.int q.1), q.2) : Option Value × St)) = ρ
  have hρ : ∀ q : Int32 × St, ρ q = ((some (.int q.1), q.2) : Option Value × St) := fun q => by rw [← hρ0]
  have G : vG p s m _ meth c X shX "SensorNode$Node" cX2_act 3 (some .int) := G
  unfold f_N_act
  refine v_iconst G (v := (0 : Int32)) dX2_act_0 (by decide) ?_
  refine v_istore_n G [(2, .int (0 : Int32)), (0, .ref (adr X 7)), (1, .int a1)] dX2_act_1 (by decide) rfl ?_
  exact v_sub (lv' := [(0, .ref (adr X 7)), (1, .int a1), (2, .int (0 : Int32))]) [1, 2, 0] rfl (v_N_act_2 hρ hJ hX G fuz S a1 (0 : Int32) (lp_z _ _))

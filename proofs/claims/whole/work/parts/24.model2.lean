/-! SensorNodeModel.checkWord -/
theorem qyX10_checkWord : yX10_checkWord.cls ≠ "java/lang/invoke/MethodHandle" ∧ yX10_checkWord.cls ≠ "java/lang/invoke/VarHandle" ∧ (parseMethodDescriptor yX10_checkWord.desc).map (fun d => d.parameters.length) = some 1 := by decide +kernel
noncomputable def f_M_checkWord (S : St) (a1 : Int32) : Int32 := (if a1 < (32 : Int32) then S 5 a1.toNatClampNeg else (if a1 = (32 : Int32) then S 4 1 else (if a1 = (33 : Int32) then S 4 2 else (if a1 = (34 : Int32) then S 4 3 else (if a1 = (35 : Int32) then S 4 4 else S 6 (a1 - (36 : Int32)).toNatClampNeg)))))
def k_M_checkWord (S : St) (a1 : Int32) : Prop := (if a1 < (32 : Int32) then vp_in a1 32 else (if a1 = (32 : Int32) then True else (if a1 = (33 : Int32) then True else (if a1 = (34 : Int32) then True else (if a1 = (35 : Int32) then True else vp_in (a1 - (36 : Int32)) 1024)))))
set_option linter.unusedVariables false in
set_option maxHeartbeats 4000000 in
set_option maxRecDepth 100000 in
theorem c_M_checkWord (l : Launch) {X : vD} (hJ : sh_J X) (hX : shp X = shM)  (S : St) (a1 : Int32) (hk : k_M_checkWord S a1) : Con l X yX10_checkWord cX10_checkWord 2 (some .int) 0 [.ref (adr X 0), .int a1] S (some (.int (f_M_checkWord S a1)), S) := by
  refine con_of (ρ := (fun r : Int32 => ((some (.int r), S) : Option Value × St))) (K := f_M_checkWord S a1) hJ hX (by decide) (Nat.le_of_ble_eq_true rfl) (lv := [(0, .ref (adr X 0)), (1, .int a1)]) rfl ?_
  intro p e s m below meth c G
  have G : vG p s m _ meth c X shM "SensorNodeModel" cX10_checkWord 2 (some .int) := G
  unfold f_M_checkWord
  unfold k_M_checkWord at hk
  refine v_iload_n G 1 dX10_checkWord_0 rfl ?_
  refine v_bipush G (v := (32 : Int32)) dX10_checkWord_1 (by decide) ?_
  refine v_icmp_ge G (tgt := 16) dX10_checkWord_3 (by decide) (fun c_1 => ?_) (fun c_1 => ?_)
  · replace hk := ok_f c_1 hk
    refine v_iload_n G 1 dX10_checkWord_16 rfl ?_
    refine v_bipush G (v := (32 : Int32)) dX10_checkWord_17 (by decide) ?_
    refine v_icmp_ne G (tgt := 32) dX10_checkWord_19 (by decide) (fun c_2 => ?_) (fun c_2 => ?_)
    · replace hk := ok_f c_2 hk
      refine v_iload_n G 1 dX10_checkWord_32 rfl ?_
      refine v_bipush G (v := (33 : Int32)) dX10_checkWord_33 (by decide) ?_
      refine v_icmp_ne G (tgt := 48) dX10_checkWord_35 (by decide) (fun c_3 => ?_) (fun c_3 => ?_)
      · replace hk := ok_f c_3 hk
        refine v_iload_n G 1 dX10_checkWord_48 rfl ?_
        refine v_bipush G (v := (34 : Int32)) dX10_checkWord_49 (by decide) ?_
        refine v_icmp_ne G (tgt := 64) dX10_checkWord_51 (by decide) (fun c_4 => ?_) (fun c_4 => ?_)
        · replace hk := ok_f c_4 hk
          refine v_iload_n G 1 dX10_checkWord_64 rfl ?_
          refine v_bipush G (v := (35 : Int32)) dX10_checkWord_65 (by decide) ?_
          refine v_icmp_ne G (tgt := 80) dX10_checkWord_67 (by decide) (fun c_5 => ?_) (fun c_5 => ?_)
          · replace hk := ok_f c_5 hk
            refine v_aload_n G 0 dX10_checkWord_80 rfl ?_
            refine v_getr G (ci := 10) (T := TX10) (j := 14) inX10 rfl rfl rfl (by decide) w4_109 dX10_checkWord_81 ?_
            refine v_getr G (ci := 9) (T := TX9) (j := 5) inX9 rfl rfl rfl (by decide) w3_239 dX10_checkWord_84 ?_
            refine v_iload_n G 1 dX10_checkWord_87 rfl ?_
            refine v_bipush G (v := (36 : Int32)) dX10_checkWord_88 (by decide) ?_
            refine v_isub G dX10_checkWord_90 ?_
            refine v_iald G rfl hk dX10_checkWord_91 ?_
            exact v_iret G rfl rfl dX10_checkWord_92
          · refine v_aload_n G 0 dX10_checkWord_70 rfl ?_
            refine v_getr G (ci := 10) (T := TX10) (j := 14) inX10 rfl rfl rfl (by decide) w4_109 dX10_checkWord_71 ?_
            refine v_geti G (ci := 9) (T := TX9) (j := 4) inX9 rfl rfl rfl (by decide) w3_237 dX10_checkWord_74 ?_
            refine v_goto G (tgt := 92) dX10_checkWord_77 (by decide) ?_
            exact v_iret G rfl rfl dX10_checkWord_92
        · refine v_aload_n G 0 dX10_checkWord_54 rfl ?_
          refine v_getr G (ci := 10) (T := TX10) (j := 14) inX10 rfl rfl rfl (by decide) w4_109 dX10_checkWord_55 ?_
          refine v_geti G (ci := 9) (T := TX9) (j := 3) inX9 rfl rfl rfl (by decide) w3_235 dX10_checkWord_58 ?_
          refine v_goto G (tgt := 92) dX10_checkWord_61 (by decide) ?_
          exact v_iret G rfl rfl dX10_checkWord_92
      · refine v_aload_n G 0 dX10_checkWord_38 rfl ?_
        refine v_getr G (ci := 10) (T := TX10) (j := 14) inX10 rfl rfl rfl (by decide) w4_109 dX10_checkWord_39 ?_
        refine v_geti G (ci := 9) (T := TX9) (j := 2) inX9 rfl rfl rfl (by decide) w3_233 dX10_checkWord_42 ?_
        refine v_goto G (tgt := 92) dX10_checkWord_45 (by decide) ?_
        exact v_iret G rfl rfl dX10_checkWord_92
    · refine v_aload_n G 0 dX10_checkWord_22 rfl ?_
      refine v_getr G (ci := 10) (T := TX10) (j := 14) inX10 rfl rfl rfl (by decide) w4_109 dX10_checkWord_23 ?_
      refine v_geti G (ci := 9) (T := TX9) (j := 1) inX9 rfl rfl rfl (by decide) w3_231 dX10_checkWord_26 ?_
      refine v_goto G (tgt := 92) dX10_checkWord_29 (by decide) ?_
      exact v_iret G rfl rfl dX10_checkWord_92
  · replace hk := ok_t c_1 hk
    refine v_aload_n G 0 dX10_checkWord_6 rfl ?_
    refine v_getr G (ci := 10) (T := TX10) (j := 14) inX10 rfl rfl rfl (by decide) w4_109 dX10_checkWord_7 ?_
    refine v_getr G (ci := 9) (T := TX9) (j := 0) inX9 rfl rfl rfl (by decide) w3_229 dX10_checkWord_10 ?_
    refine v_iload_n G 1 dX10_checkWord_13 rfl ?_
    refine v_iald G rfl hk dX10_checkWord_14 ?_
    exact v_iret G rfl rfl dX10_checkWord_15
/-! SensorNodeModel.check -/
theorem qyX10_check : yX10_check.cls ≠ "java/lang/invoke/MethodHandle" ∧ yX10_check.cls ≠ "java/lang/invoke/VarHandle" ∧ (parseMethodDescriptor yX10_check.desc).map (fun d => d.parameters.length) = some 0 := by decide +kernel
noncomputable def f_M_check (S : St) : St := bnx ((36 : Int32) + ((S 0 3) / (4 : Int32))) (fun x_1 => bnx (((f_M_generation S) + (1 : Int32)) &&& (65535 : Int32)) (fun x_2 => (if (S 0 23) < x_1 then bnv (f_M_write S ((f_M_bufferAt S x_2) + (S 0 23)) (f_M_checkWord S (S 0 23))) (fun S_13 => bnv (st_up S_13 0 23 ((S_13 0 23) + (1 : Int32))) (fun S_14 => S_14)) else (if (S 0 23) = x_1 then bnv (f_M_write S (0 : Int32) x_2) (fun S_8 => bnv (st_up S_8 0 29 ((S_8 0 29) + (1 : Int32))) (fun S_9 => bnv (st_up S_9 0 20 (0 : Int32)) (fun S_10 => bnv (f_M_forgetEntries S_10) (fun S_11 => bnv (st_up S_11 0 23 ((S_11 0 23) + (1 : Int32))) (fun S_12 => S_12))))) else bnv (f_M_write S (1 : Int32) ((f_M_generation S) <<< ((16 : Int32) &&& 31))) (fun S_5 => bnv (st_up S_5 0 22 (0 : Int32)) (fun S_6 => bnv (st_up S_6 0 23 ((S_6 0 23) + (1 : Int32))) (fun S_7 => S_7)))))))
def k_M_check (S : St) : Prop := bnx ((36 : Int32) + ((S 0 3) / (4 : Int32))) (fun x_1 => bnx (((f_M_generation S) + (1 : Int32)) &&& (65535 : Int32)) (fun x_2 => (if (S 0 23) < x_1 then (k_M_checkWord S (S 0 23) ∧ k_M_write S ((f_M_bufferAt S x_2) + (S 0 23)) (f_M_checkWord S (S 0 23))) else (if (S 0 23) = x_1 then k_M_write S (0 : Int32) x_2 else k_M_write S (1 : Int32) ((f_M_generation S) <<< ((16 : Int32) &&& 31))))))
set_option linter.unusedVariables false in
set_option maxHeartbeats 4000000 in
set_option maxRecDepth 100000 in
theorem c_M_check (l : Launch) {X : vD} (hJ : sh_J X) (hX : shp X = shM)  (S : St) (hk : k_M_check S) : Con l X yX10_check cX10_check 3 none 1 [.ref (adr X 0)] S (none, f_M_check S) := by
  refine con_of (ρ := (fun S : St => ((none, S) : Option Value × St))) (K := f_M_check S) hJ hX (by decide) (Nat.le_of_ble_eq_true rfl) (lv := [(0, .ref (adr X 0))]) rfl ?_
  intro p e s m below meth c G
  have G : vG p s m _ meth c X shM "SensorNodeModel" cX10_check 3 none := G
  unfold f_M_check
  unfold k_M_check at hk
  refine v_bipush G (v := (36 : Int32)) dX10_check_0 (by decide) ?_
  refine v_aload_n G 0 dX10_check_2 rfl ?_
  refine v_geti G (ci := 10) (T := TX10) (j := 3) inX10 rfl rfl rfl (by decide) w4_98 dX10_check_3 ?_
  refine v_iconst G (v := (4 : Int32)) dX10_check_6 (by decide) ?_
  refine v_idiv G dX10_check_7 (by decide) ?_
  refine v_iadd G dX10_check_8 ?_
  refine v_namei (fun x_1 ex_1 => ?_)
  replace hk := ok_x ex_1 hk
  refine v_istore_n G [(1, .int x_1), (0, .ref (adr X 0))] dX10_check_9 (by decide) rfl ?_
  refine v_aload_n G 1 dX10_check_10 rfl ?_
  refine v_callVi G (As := []) (st := []) (c_M_generation l hJ hX S) (by decide) (by decide) (ci := 10) rfl rfl w4_230 w4_232 w0_29 w1_9 w4_233 qyX10_generation rfl (Nat.le_of_ble_eq_true rfl) dX10_check_11 ?_
  refine v_iconst G (v := (1 : Int32)) dX10_check_14 (by decide) ?_
  refine v_iadd G dX10_check_15 ?_
  refine v_ldc G (v := (65535 : Int32)) dX10_check_16 w5_2 ?_
  refine v_iand G dX10_check_18 ?_
  refine v_namei (fun x_2 ex_2 => ?_)
  replace hk := ok_x ex_2 hk
  refine v_istore_n G [(2, .int x_2), (1, .int x_1), (0, .ref (adr X 0))] dX10_check_19 (by decide) rfl ?_
  refine v_aload_n G 2 dX10_check_20 rfl ?_
  refine v_geti G (ci := 10) (T := TX10) (j := 23) inX10 rfl rfl rfl (by decide) w4_118 dX10_check_21 ?_
  refine v_iload_n G 1 dX10_check_24 rfl ?_
  refine v_icmp_ge G (tgt := 53) dX10_check_25 (by decide) (fun c_3 => ?_) (fun c_3 => ?_)
  · replace hk := ok_f c_3 hk
    refine v_aload_n G 2 dX10_check_53 rfl ?_
    refine v_geti G (ci := 10) (T := TX10) (j := 23) inX10 rfl rfl rfl (by decide) w4_118 dX10_check_54 ?_
    refine v_iload_n G 1 dX10_check_57 rfl ?_
    refine v_icmp_ne G (tgt := 89) dX10_check_58 (by decide) (fun c_4 => ?_) (fun c_4 => ?_)
    · replace hk := ok_f c_4 hk
      refine v_aload_n G 2 dX10_check_89 rfl ?_
      refine v_iconst G (v := (1 : Int32)) dX10_check_90 (by decide) ?_
      refine v_aload_n G 2 dX10_check_91 rfl ?_
      refine v_callVi G (As := []) (st := [.int (1 : Int32), .ref (adr X 0)]) (c_M_generation l hJ hX S) (by decide) (by decide) (ci := 10) rfl rfl w4_230 w4_232 w0_29 w1_9 w4_233 qyX10_generation rfl (Nat.le_of_ble_eq_true rfl) dX10_check_92 ?_
      refine v_bipush G (v := (16 : Int32)) dX10_check_95 (by decide) ?_
      refine v_ishl G dX10_check_97 ?_
      refine v_callVv G (As := [.int (1 : Int32), .int ((f_M_generation S) <<< ((16 : Int32) &&& 31))]) (st := []) (c_M_write l hJ hX S (1 : Int32) ((f_M_generation S) <<< ((16 : Int32) &&& 31)) hk) (by decide) (by decide) (ci := 10) rfl rfl w5_23 w5_25 w0_35 w1_9 w5_26 qyX10_write rfl (Nat.le_of_ble_eq_true rfl) dX10_check_98 ?_
      refine v_bnv (fun S_5 eS_5 => ?_)
      refine v_aload_n G 2 dX10_check_101 rfl ?_
      refine v_iconst G (v := (0 : Int32)) dX10_check_102 (by decide) ?_
      refine v_puti G (ci := 10) (T := TX10) (j := 22) inX10 rfl rfl tyX10_ok nmX10 rfl (by decide) rfl rfl rfl w4_117 dX10_check_103 (fun S_6 eS_6 => ?_)
      refine v_aload_n G 2 dX10_check_106 rfl ?_
      refine v_dup G dX10_check_107 rfl ?_
      refine v_geti G (ci := 10) (T := TX10) (j := 23) inX10 rfl rfl rfl (by decide) w4_118 dX10_check_108 ?_
      refine v_iconst G (v := (1 : Int32)) dX10_check_111 (by decide) ?_
      refine v_iadd G dX10_check_112 ?_
      refine v_puti G (ci := 10) (T := TX10) (j := 23) inX10 rfl rfl tyX10_ok nmX10 rfl (by decide) rfl rfl rfl w4_118 dX10_check_113 (fun S_7 eS_7 => ?_)
      exact v_vret G rfl rfl dX10_check_116
    · replace hk := ok_t c_4 hk
      refine v_aload_n G 2 dX10_check_61 rfl ?_
      refine v_iconst G (v := (0 : Int32)) dX10_check_62 (by decide) ?_
      refine v_iload_n G 0 dX10_check_63 rfl ?_
      refine v_callVv G (As := [.int (0 : Int32), .int x_2]) (st := []) (c_M_write l hJ hX S (0 : Int32) x_2 hk) (by decide) (by decide) (ci := 10) rfl rfl w5_23 w5_25 w0_35 w1_9 w5_26 qyX10_write rfl (Nat.le_of_ble_eq_true rfl) dX10_check_64 ?_
      refine v_bnv (fun S_8 eS_8 => ?_)
      refine v_aload_n G 2 dX10_check_67 rfl ?_
      refine v_dup G dX10_check_68 rfl ?_
      refine v_geti G (ci := 10) (T := TX10) (j := 29) inX10 rfl rfl rfl (by decide) w4_124 dX10_check_69 ?_
      refine v_iconst G (v := (1 : Int32)) dX10_check_72 (by decide) ?_
      refine v_iadd G dX10_check_73 ?_
      refine v_puti G (ci := 10) (T := TX10) (j := 29) inX10 rfl rfl tyX10_ok nmX10 rfl (by decide) rfl rfl rfl w4_124 dX10_check_74 (fun S_9 eS_9 => ?_)
      refine v_aload_n G 2 dX10_check_77 rfl ?_
      refine v_iconst G (v := (0 : Int32)) dX10_check_78 (by decide) ?_
      refine v_puti G (ci := 10) (T := TX10) (j := 20) inX10 rfl rfl tyX10_ok nmX10 rfl (by decide) rfl rfl rfl w4_115 dX10_check_79 (fun S_10 eS_10 => ?_)
      refine v_aload_n G 2 dX10_check_82 rfl ?_
      refine v_callVv G (As := []) (st := []) (c_M_forgetEntries l hJ hX S_10) (by decide) (by decide) (ci := 10) rfl rfl w4_238 w5_0 w0_31 w1_9 w5_1 qyX10_forgetEntries rfl (Nat.le_of_ble_eq_true rfl) dX10_check_83 ?_
      refine v_bnv (fun S_11 eS_11 => ?_)
      refine v_goto G (tgt := 106) dX10_check_86 (by decide) ?_
      refine v_aload_n G 2 dX10_check_106 rfl ?_
      refine v_dup G dX10_check_107 rfl ?_
      refine v_geti G (ci := 10) (T := TX10) (j := 23) inX10 rfl rfl rfl (by decide) w4_118 dX10_check_108 ?_
      refine v_iconst G (v := (1 : Int32)) dX10_check_111 (by decide) ?_
      refine v_iadd G dX10_check_112 ?_
      refine v_puti G (ci := 10) (T := TX10) (j := 23) inX10 rfl rfl tyX10_ok nmX10 rfl (by decide) rfl rfl rfl w4_118 dX10_check_113 (fun S_12 eS_12 => ?_)
      exact v_vret G rfl rfl dX10_check_116
  · replace hk := ok_t c_3 hk
    refine v_aload_n G 2 dX10_check_28 rfl ?_
    refine v_aload_n G 2 dX10_check_29 rfl ?_
    refine v_iload_n G 0 dX10_check_30 rfl ?_
    refine v_callVi G (As := [.int x_2]) (st := [.ref (adr X 0)]) (c_M_bufferAt l hJ hX S x_2) (by decide) (by decide) (ci := 10) rfl rfl w4_234 w4_236 w0_30 w1_9 w4_237 qyX10_bufferAt rfl (Nat.le_of_ble_eq_true rfl) dX10_check_31 ?_
    refine v_aload_n G 2 dX10_check_34 rfl ?_
    refine v_geti G (ci := 10) (T := TX10) (j := 23) inX10 rfl rfl rfl (by decide) w4_118 dX10_check_35 ?_
    refine v_iadd G dX10_check_38 ?_
    refine v_aload_n G 2 dX10_check_39 rfl ?_
    refine v_aload_n G 2 dX10_check_40 rfl ?_
    refine v_geti G (ci := 10) (T := TX10) (j := 23) inX10 rfl rfl rfl (by decide) w4_118 dX10_check_41 ?_
    refine v_callVi G (As := [.int (S 0 23)]) (st := [.int ((f_M_bufferAt S x_2) + (S 0 23)), .ref (adr X 0)]) (c_M_checkWord l hJ hX S (S 0 23) hk.1) (by decide) (by decide) (ci := 10) rfl rfl w5_31 w5_33 w0_37 w1_9 w5_34 qyX10_checkWord rfl (Nat.le_of_ble_eq_true rfl) dX10_check_44 ?_
    replace hk := hk.2
    refine v_callVv G (As := [.int ((f_M_bufferAt S x_2) + (S 0 23)), .int (f_M_checkWord S (S 0 23))]) (st := []) (c_M_write l hJ hX S ((f_M_bufferAt S x_2) + (S 0 23)) (f_M_checkWord S (S 0 23)) hk) (by decide) (by decide) (ci := 10) rfl rfl w5_23 w5_25 w0_35 w1_9 w5_26 qyX10_write rfl (Nat.le_of_ble_eq_true rfl) dX10_check_47 ?_
    refine v_bnv (fun S_13 eS_13 => ?_)
    refine v_goto G (tgt := 106) dX10_check_50 (by decide) ?_
    refine v_aload_n G 2 dX10_check_106 rfl ?_
    refine v_dup G dX10_check_107 rfl ?_
    refine v_geti G (ci := 10) (T := TX10) (j := 23) inX10 rfl rfl rfl (by decide) w4_118 dX10_check_108 ?_
    refine v_iconst G (v := (1 : Int32)) dX10_check_111 (by decide) ?_
    refine v_iadd G dX10_check_112 ?_
    refine v_puti G (ci := 10) (T := TX10) (j := 23) inX10 rfl rfl tyX10_ok nmX10 rfl (by decide) rfl rfl rfl w4_118 dX10_check_113 (fun S_14 eS_14 => ?_)
    exact v_vret G rfl rfl dX10_check_116
/-! SensorNodeModel.perform -/
theorem qyX10_perform : yX10_perform.cls ≠ "java/lang/invoke/MethodHandle" ∧ yX10_perform.cls ≠ "java/lang/invoke/VarHandle" ∧ (parseMethodDescriptor yX10_perform.desc).map (fun d => d.parameters.length) = some 0 := by decide +kernel
noncomputable def f_M_perform (S : St) : St := (if (S 4 13) = (1 : Int32) then bnv (st_up S 0 26 ((S 0 26) + (1 : Int32))) (fun S_6 => bnv (f_H_perform S_6 4 5 6 1 6219) (fun S_7 => bnv (st_up S_7 0 20 ((S_7 0 20) + (1 : Int32))) (fun S_8 => bnv (st_up S_8 0 28 ((S_8 0 28) + (1 : Int32))) (fun S_9 => bnv (st_up S_9 0 22 (0 : Int32)) (fun S_10 => S_10))))) else bnv (f_H_perform S 4 5 6 1 6219) (fun S_2 => bnv (st_up S_2 0 20 ((S_2 0 20) + (1 : Int32))) (fun S_3 => bnv (st_up S_3 0 28 ((S_3 0 28) + (1 : Int32))) (fun S_4 => bnv (st_up S_4 0 22 (0 : Int32)) (fun S_5 => S_5)))))
def k_M_perform (S : St) : Prop := (if (S 4 13) = (1 : Int32) then bnv (st_up S 0 26 ((S 0 26) + (1 : Int32))) (fun S_6 => k_H_perform S_6 4 5 6 1 6219) else k_H_perform S 4 5 6 1 6219)
set_option linter.unusedVariables false in
set_option maxHeartbeats 4000000 in
set_option maxRecDepth 100000 in
theorem c_M_perform (l : Launch) {X : vD} (hJ : sh_J X) (hX : shp X = shM)  (S : St) (hk : k_M_perform S) : Con l X yX10_perform cX10_perform 1 none 3 [.ref (adr X 0)] S (none, f_M_perform S) := by
  refine con_of (ρ := (fun S : St => ((none, S) : Option Value × St))) (K := f_M_perform S) hJ hX (by decide) (Nat.le_of_ble_eq_true rfl) (lv := [(0, .ref (adr X 0))]) rfl ?_
  intro p e s m below meth c G
  have G : vG p s m _ meth c X shM "SensorNodeModel" cX10_perform 1 none := G
  unfold f_M_perform
  unfold k_M_perform at hk
  refine v_aload_n G 0 dX10_perform_0 rfl ?_
  refine v_getr G (ci := 10) (T := TX10) (j := 14) inX10 rfl rfl rfl (by decide) w4_109 dX10_perform_1 ?_
  refine v_geti G (ci := 9) (T := TX9) (j := 13) inX9 rfl rfl rfl (by decide) w4_14 dX10_perform_4 ?_
  refine v_iconst G (v := (1 : Int32)) dX10_perform_7 (by decide) ?_
  refine v_icmp_ne G (tgt := 21) dX10_perform_8 (by decide) (fun c_1 => ?_) (fun c_1 => ?_)
  · replace hk := ok_f c_1 hk
    refine v_aload_n G 0 dX10_perform_21 rfl ?_
    refine v_getr G (ci := 10) (T := TX10) (j := 14) inX10 rfl rfl rfl (by decide) w4_109 dX10_perform_22 ?_
    refine v_callVv G (As := []) (st := []) (c_H_perform l hJ hX 4 5 6 1 6219 ⟨rfl, rfl, rfl, rfl⟩ S hk) (by decide) (by decide) (ci := 9) rfl rfl w5_43 w5_44 w5_45 w1_10 w5_46 qyX9_perform rfl (Nat.le_of_ble_eq_true rfl) dX10_perform_25 ?_
    refine v_bnv (fun S_2 eS_2 => ?_)
    refine v_aload_n G 0 dX10_perform_28 rfl ?_
    refine v_dup G dX10_perform_29 rfl ?_
    refine v_geti G (ci := 10) (T := TX10) (j := 20) inX10 rfl rfl rfl (by decide) w4_115 dX10_perform_30 ?_
    refine v_iconst G (v := (1 : Int32)) dX10_perform_33 (by decide) ?_
    refine v_iadd G dX10_perform_34 ?_
    refine v_puti G (ci := 10) (T := TX10) (j := 20) inX10 rfl rfl tyX10_ok nmX10 rfl (by decide) rfl rfl rfl w4_115 dX10_perform_35 (fun S_3 eS_3 => ?_)
    refine v_aload_n G 0 dX10_perform_38 rfl ?_
    refine v_dup G dX10_perform_39 rfl ?_
    refine v_geti G (ci := 10) (T := TX10) (j := 28) inX10 rfl rfl rfl (by decide) w4_123 dX10_perform_40 ?_
    refine v_iconst G (v := (1 : Int32)) dX10_perform_43 (by decide) ?_
    refine v_iadd G dX10_perform_44 ?_
    refine v_puti G (ci := 10) (T := TX10) (j := 28) inX10 rfl rfl tyX10_ok nmX10 rfl (by decide) rfl rfl rfl w4_123 dX10_perform_45 (fun S_4 eS_4 => ?_)
    refine v_aload_n G 0 dX10_perform_48 rfl ?_
    refine v_iconst G (v := (0 : Int32)) dX10_perform_49 (by decide) ?_
    refine v_puti G (ci := 10) (T := TX10) (j := 22) inX10 rfl rfl tyX10_ok nmX10 rfl (by decide) rfl rfl rfl w4_117 dX10_perform_50 (fun S_5 eS_5 => ?_)
    exact v_vret G rfl rfl dX10_perform_53
  · replace hk := ok_t c_1 hk
    refine v_aload_n G 0 dX10_perform_11 rfl ?_
    refine v_dup G dX10_perform_12 rfl ?_
    refine v_geti G (ci := 10) (T := TX10) (j := 26) inX10 rfl rfl rfl (by decide) w4_121 dX10_perform_13 ?_
    refine v_iconst G (v := (1 : Int32)) dX10_perform_16 (by decide) ?_
    refine v_iadd G dX10_perform_17 ?_
    refine v_puti G (ci := 10) (T := TX10) (j := 26) inX10 rfl rfl tyX10_ok nmX10 rfl (by decide) rfl rfl rfl w4_121 dX10_perform_18 (fun S_6 eS_6 => ?_)
    replace hk := ok_v eS_6 hk
    refine v_aload_n G 0 dX10_perform_21 rfl ?_
    refine v_getr G (ci := 10) (T := TX10) (j := 14) inX10 rfl rfl rfl (by decide) w4_109 dX10_perform_22 ?_
    refine v_callVv G (As := []) (st := []) (c_H_perform l hJ hX 4 5 6 1 6219 ⟨rfl, rfl, rfl, rfl⟩ S_6 hk) (by decide) (by decide) (ci := 9) rfl rfl w5_43 w5_44 w5_45 w1_10 w5_46 qyX9_perform rfl (Nat.le_of_ble_eq_true rfl) dX10_perform_25 ?_
    refine v_bnv (fun S_7 eS_7 => ?_)
    refine v_aload_n G 0 dX10_perform_28 rfl ?_
    refine v_dup G dX10_perform_29 rfl ?_
    refine v_geti G (ci := 10) (T := TX10) (j := 20) inX10 rfl rfl rfl (by decide) w4_115 dX10_perform_30 ?_
    refine v_iconst G (v := (1 : Int32)) dX10_perform_33 (by decide) ?_
    refine v_iadd G dX10_perform_34 ?_
    refine v_puti G (ci := 10) (T := TX10) (j := 20) inX10 rfl rfl tyX10_ok nmX10 rfl (by decide) rfl rfl rfl w4_115 dX10_perform_35 (fun S_8 eS_8 => ?_)
    refine v_aload_n G 0 dX10_perform_38 rfl ?_
    refine v_dup G dX10_perform_39 rfl ?_
    refine v_geti G (ci := 10) (T := TX10) (j := 28) inX10 rfl rfl rfl (by decide) w4_123 dX10_perform_40 ?_
    refine v_iconst G (v := (1 : Int32)) dX10_perform_43 (by decide) ?_
    refine v_iadd G dX10_perform_44 ?_
    refine v_puti G (ci := 10) (T := TX10) (j := 28) inX10 rfl rfl tyX10_ok nmX10 rfl (by decide) rfl rfl rfl w4_123 dX10_perform_45 (fun S_9 eS_9 => ?_)
    refine v_aload_n G 0 dX10_perform_48 rfl ?_
    refine v_iconst G (v := (0 : Int32)) dX10_perform_49 (by decide) ?_
    refine v_puti G (ci := 10) (T := TX10) (j := 22) inX10 rfl rfl tyX10_ok nmX10 rfl (by decide) rfl rfl rfl w4_117 dX10_perform_50 (fun S_10 eS_10 => ?_)
    exact v_vret G rfl rfl dX10_perform_53
/-! SensorNodeModel.log -/
theorem qyX10_log : yX10_log.cls ≠ "java/lang/invoke/MethodHandle" ∧ yX10_log.cls ≠ "java/lang/invoke/VarHandle" ∧ (parseMethodDescriptor yX10_log.desc).map (fun d => d.parameters.length) = some 0 := by decide +kernel
noncomputable def f_M_log (S : St) : St := bnx (f_M_counting S) (fun x_1 => bnx ((S 0 9) + ((2 : Int32) * x_1)) (fun x_2 => bnx ((S 0 10) + (S 4 16)) (fun x_3 => (if (S 0 23) = 0 then bnv (f_M_write S x_2 x_3) (fun S_14 => bnv (st_up S_14 0 23 ((S_14 0 23) + (1 : Int32))) (fun S_15 => S_15)) else (if (S 0 23) = (1 : Int32) then bnv (f_M_write S (x_2 + (1 : Int32)) (S 1 x_3.toNatClampNeg)) (fun S_12 => bnv (st_up S_12 0 23 ((S_12 0 23) + (1 : Int32))) (fun S_13 => S_13)) else (if (S 0 23) = (2 : Int32) then bnv (f_M_write S (1 : Int32) ((S 1 (1 : Int32).toNatClampNeg) + (1 : Int32))) (fun S_9 => bnv (st_up S_9 21 (S_9 4 16).toNatClampNeg (vp_nar .boolean (1 : Int32))) (fun S_10 => bnv (st_up S_10 0 23 ((S_10 0 23) + (1 : Int32))) (fun S_11 => S_11))) else bnv (f_M_perform S) (fun S_7 => bnv (st_up S_7 0 23 ((S_7 0 23) + (1 : Int32))) (fun S_8 => S_8))))))))
def k_M_log (S : St) : Prop := bnx (f_M_counting S) (fun x_1 => bnx ((S 0 9) + ((2 : Int32) * x_1)) (fun x_2 => bnx ((S 0 10) + (S 4 16)) (fun x_3 => (if (S 0 23) = 0 then k_M_write S x_2 x_3 else (if (S 0 23) = (1 : Int32) then (vp_in x_3 6219 ∧ k_M_write S (x_2 + (1 : Int32)) (S 1 x_3.toNatClampNeg)) else (if (S 0 23) = (2 : Int32) then (k_M_write S (1 : Int32) ((S 1 (1 : Int32).toNatClampNeg) + (1 : Int32)) ∧ bnv (f_M_write S (1 : Int32) ((S 1 (1 : Int32).toNatClampNeg) + (1 : Int32))) (fun S_9 => vp_in (S_9 4 16) 2048)) else k_M_perform S))))))
set_option linter.unusedVariables false in
set_option maxHeartbeats 4000000 in
set_option maxRecDepth 100000 in
theorem c_M_log (l : Launch) {X : vD} (hJ : sh_J X) (hX : shp X = shM)  (S : St) (hk : k_M_log S) : Con l X yX10_log cX10_log 4 none 4 [.ref (adr X 0)] S (none, f_M_log S) := by
  refine con_of (ρ := (fun S : St => ((none, S) : Option Value × St))) (K := f_M_log S) hJ hX (by decide) (Nat.le_of_ble_eq_true rfl) (lv := [(0, .ref (adr X 0))]) rfl ?_
  intro p e s m below meth c G
  have G : vG p s m _ meth c X shM "SensorNodeModel" cX10_log 4 none := G
  unfold f_M_log
  unfold k_M_log at hk
  refine v_aload_n G 0 dX10_log_0 rfl ?_
  refine v_callVi G (As := []) (st := []) (c_M_counting l hJ hX S) (by decide) (by decide) (ci := 10) rfl rfl w5_3 w5_5 w0_32 w1_9 w5_6 qyX10_counting rfl (Nat.le_of_ble_eq_true rfl) dX10_log_1 ?_
  refine v_namei (fun x_1 ex_1 => ?_)
  replace hk := ok_x ex_1 hk
  refine v_istore_n G [(1, .int x_1), (0, .ref (adr X 0))] dX10_log_4 (by decide) rfl ?_
  refine v_aload_n G 1 dX10_log_5 rfl ?_
  refine v_geti G (ci := 10) (T := TX10) (j := 9) inX10 rfl rfl rfl (by decide) w4_104 dX10_log_6 ?_
  refine v_iconst G (v := (2 : Int32)) dX10_log_9 (by decide) ?_
  refine v_iload_n G 0 dX10_log_10 rfl ?_
  refine v_imul G dX10_log_11 ?_
  refine v_iadd G dX10_log_12 ?_
  refine v_namei (fun x_2 ex_2 => ?_)
  replace hk := ok_x ex_2 hk
  refine v_istore_n G [(2, .int x_2), (1, .int x_1), (0, .ref (adr X 0))] dX10_log_13 (by decide) rfl ?_
  refine v_aload_n G 2 dX10_log_14 rfl ?_
  refine v_geti G (ci := 10) (T := TX10) (j := 10) inX10 rfl rfl rfl (by decide) w4_105 dX10_log_15 ?_
  refine v_aload_n G 2 dX10_log_18 rfl ?_
  refine v_getr G (ci := 10) (T := TX10) (j := 14) inX10 rfl rfl rfl (by decide) w4_109 dX10_log_19 ?_
  refine v_geti G (ci := 9) (T := TX9) (j := 16) inX9 rfl rfl rfl (by decide) w4_17 dX10_log_22 ?_
  refine v_iadd G dX10_log_25 ?_
  refine v_namei (fun x_3 ex_3 => ?_)
  replace hk := ok_x ex_3 hk
  refine v_istore_n G [(3, .int x_3), (2, .int x_2), (1, .int x_1), (0, .ref (adr X 0))] dX10_log_26 (by decide) rfl ?_
  refine v_aload_n G 3 dX10_log_27 rfl ?_
  refine v_geti G (ci := 10) (T := TX10) (j := 23) inX10 rfl rfl rfl (by decide) w4_118 dX10_log_28 ?_
  refine v_if_ne G (tgt := 43) dX10_log_31 (by decide) (fun c_4 => ?_) (fun c_4 => ?_)
  · replace hk := ok_f c_4 hk
    refine v_aload_n G 3 dX10_log_43 rfl ?_
    refine v_geti G (ci := 10) (T := TX10) (j := 23) inX10 rfl rfl rfl (by decide) w4_118 dX10_log_44 ?_
    refine v_iconst G (v := (1 : Int32)) dX10_log_47 (by decide) ?_
    refine v_icmp_ne G (tgt := 67) dX10_log_48 (by decide) (fun c_5 => ?_) (fun c_5 => ?_)
    · replace hk := ok_f c_5 hk
      refine v_aload_n G 3 dX10_log_67 rfl ?_
      refine v_geti G (ci := 10) (T := TX10) (j := 23) inX10 rfl rfl rfl (by decide) w4_118 dX10_log_68 ?_
      refine v_iconst G (v := (2 : Int32)) dX10_log_71 (by decide) ?_
      refine v_icmp_ne G (tgt := 104) dX10_log_72 (by decide) (fun c_6 => ?_) (fun c_6 => ?_)
      · replace hk := ok_f c_6 hk
        refine v_aload_n G 3 dX10_log_104 rfl ?_
        refine v_callVv G (As := []) (st := []) (c_M_perform l hJ hX S hk) (by decide) (by decide) (ci := 10) rfl rfl w5_39 w5_41 w0_39 w1_9 w5_42 qyX10_perform rfl (Nat.le_of_ble_eq_true rfl) dX10_log_105 ?_
        refine v_bnv (fun S_7 eS_7 => ?_)
        refine v_aload_n G 3 dX10_log_108 rfl ?_
        refine v_dup G dX10_log_109 rfl ?_
        refine v_geti G (ci := 10) (T := TX10) (j := 23) inX10 rfl rfl rfl (by decide) w4_118 dX10_log_110 ?_
        refine v_iconst G (v := (1 : Int32)) dX10_log_113 (by decide) ?_
        refine v_iadd G dX10_log_114 ?_
        refine v_puti G (ci := 10) (T := TX10) (j := 23) inX10 rfl rfl tyX10_ok nmX10 rfl (by decide) rfl rfl rfl w4_118 dX10_log_115 (fun S_8 eS_8 => ?_)
        exact v_vret G rfl rfl dX10_log_118
      · replace hk := ok_t c_6 hk
        refine v_aload_n G 3 dX10_log_75 rfl ?_
        refine v_iconst G (v := (1 : Int32)) dX10_log_76 (by decide) ?_
        refine v_aload_n G 3 dX10_log_77 rfl ?_
        refine v_getr G (ci := 10) (T := TX10) (j := 11) inX10 rfl rfl rfl (by decide) w4_106 dX10_log_78 ?_
        refine v_iconst G (v := (1 : Int32)) dX10_log_81 (by decide) ?_
        refine v_iald G rfl (by unfold vp_in; decide) dX10_log_82 ?_
        refine v_iconst G (v := (1 : Int32)) dX10_log_83 (by decide) ?_
        refine v_iadd G dX10_log_84 ?_
        refine v_callVv G (As := [.int (1 : Int32), .int ((S 1 (1 : Int32).toNatClampNeg) + (1 : Int32))]) (st := []) (c_M_write l hJ hX S (1 : Int32) ((S 1 (1 : Int32).toNatClampNeg) + (1 : Int32)) hk.1) (by decide) (by decide) (ci := 10) rfl rfl w5_23 w5_25 w0_35 w1_9 w5_26 qyX10_write rfl (Nat.le_of_ble_eq_true rfl) dX10_log_85 ?_
        replace hk := hk.2
        refine v_bnv (fun S_9 eS_9 => ?_)
        replace hk := ok_v eS_9 hk
        refine v_aload_n G 3 dX10_log_88 rfl ?_
        refine v_getr G (ci := 10) (T := TX10) (j := 24) inX10 rfl rfl rfl (by decide) w4_119 dX10_log_89 ?_
        refine v_aload_n G 3 dX10_log_92 rfl ?_
        refine v_getr G (ci := 10) (T := TX10) (j := 14) inX10 rfl rfl rfl (by decide) w4_109 dX10_log_93 ?_
        refine v_geti G (ci := 9) (T := TX9) (j := 16) inX9 rfl rfl rfl (by decide) w4_17 dX10_log_96 ?_
        refine v_iconst G (v := (1 : Int32)) dX10_log_99 (by decide) ?_
        refine v_zast G rfl hk dX10_log_100 (fun S_10 eS_10 => ?_)
        refine v_goto G (tgt := 108) dX10_log_101 (by decide) ?_
        refine v_aload_n G 3 dX10_log_108 rfl ?_
        refine v_dup G dX10_log_109 rfl ?_
        refine v_geti G (ci := 10) (T := TX10) (j := 23) inX10 rfl rfl rfl (by decide) w4_118 dX10_log_110 ?_
        refine v_iconst G (v := (1 : Int32)) dX10_log_113 (by decide) ?_
        refine v_iadd G dX10_log_114 ?_
        refine v_puti G (ci := 10) (T := TX10) (j := 23) inX10 rfl rfl tyX10_ok nmX10 rfl (by decide) rfl rfl rfl w4_118 dX10_log_115 (fun S_11 eS_11 => ?_)
        exact v_vret G rfl rfl dX10_log_118
    · replace hk := ok_t c_5 hk
      refine v_aload_n G 3 dX10_log_51 rfl ?_
      refine v_iload_n G 1 dX10_log_52 rfl ?_
      refine v_iconst G (v := (1 : Int32)) dX10_log_53 (by decide) ?_
      refine v_iadd G dX10_log_54 ?_
      refine v_aload_n G 3 dX10_log_55 rfl ?_
      refine v_getr G (ci := 10) (T := TX10) (j := 11) inX10 rfl rfl rfl (by decide) w4_106 dX10_log_56 ?_
      refine v_iload_n G 0 dX10_log_59 rfl ?_
      refine v_iald G rfl hk.1 dX10_log_60 ?_
      replace hk := hk.2
      refine v_callVv G (As := [.int (x_2 + (1 : Int32)), .int (S 1 x_3.toNatClampNeg)]) (st := []) (c_M_write l hJ hX S (x_2 + (1 : Int32)) (S 1 x_3.toNatClampNeg) hk) (by decide) (by decide) (ci := 10) rfl rfl w5_23 w5_25 w0_35 w1_9 w5_26 qyX10_write rfl (Nat.le_of_ble_eq_true rfl) dX10_log_61 ?_
      refine v_bnv (fun S_12 eS_12 => ?_)
      refine v_goto G (tgt := 108) dX10_log_64 (by decide) ?_
      refine v_aload_n G 3 dX10_log_108 rfl ?_
      refine v_dup G dX10_log_109 rfl ?_
      refine v_geti G (ci := 10) (T := TX10) (j := 23) inX10 rfl rfl rfl (by decide) w4_118 dX10_log_110 ?_
      refine v_iconst G (v := (1 : Int32)) dX10_log_113 (by decide) ?_
      refine v_iadd G dX10_log_114 ?_
      refine v_puti G (ci := 10) (T := TX10) (j := 23) inX10 rfl rfl tyX10_ok nmX10 rfl (by decide) rfl rfl rfl w4_118 dX10_log_115 (fun S_13 eS_13 => ?_)
      exact v_vret G rfl rfl dX10_log_118
  · replace hk := ok_t c_4 hk
    refine v_aload_n G 3 dX10_log_34 rfl ?_
    refine v_iload_n G 1 dX10_log_35 rfl ?_
    refine v_iload_n G 0 dX10_log_36 rfl ?_
    refine v_callVv G (As := [.int x_2, .int x_3]) (st := []) (c_M_write l hJ hX S x_2 x_3 hk) (by decide) (by decide) (ci := 10) rfl rfl w5_23 w5_25 w0_35 w1_9 w5_26 qyX10_write rfl (Nat.le_of_ble_eq_true rfl) dX10_log_37 ?_
    refine v_bnv (fun S_14 eS_14 => ?_)
    refine v_goto G (tgt := 108) dX10_log_40 (by decide) ?_
    refine v_aload_n G 3 dX10_log_108 rfl ?_
    refine v_dup G dX10_log_109 rfl ?_
    refine v_geti G (ci := 10) (T := TX10) (j := 23) inX10 rfl rfl rfl (by decide) w4_118 dX10_log_110 ?_
    refine v_iconst G (v := (1 : Int32)) dX10_log_113 (by decide) ?_
    refine v_iadd G dX10_log_114 ?_
    refine v_puti G (ci := 10) (T := TX10) (j := 23) inX10 rfl rfl tyX10_ok nmX10 rfl (by decide) rfl rfl rfl w4_118 dX10_log_115 (fun S_15 eS_15 => ?_)
    exact v_vret G rfl rfl dX10_log_118
/-! SensorNodeModel.send -/
theorem qyX10_send : yX10_send.cls ≠ "java/lang/invoke/MethodHandle" ∧ yX10_send.cls ≠ "java/lang/invoke/VarHandle" ∧ (parseMethodDescriptor yX10_send.desc).map (fun d => d.parameters.length) = some 0 := by decide +kernel
noncomputable def f_M_send (S : St) : St := (if (S 0 23) = 0 then bnv (f_H_sendTo S 4 5 6 1 6219 11 12 13 14 15 (S 0 30)) (fun S_7 => bnv (st_up S_7 0 23 ((S_7 0 23) + (1 : Int32))) (fun S_8 => S_8)) else (if (S 0 23) = (1 : Int32) then bnv (f_M_write S (2 : Int32) ((S 4 3) + (1 : Int32))) (fun S_5 => bnv (st_up S_5 0 23 ((S_5 0 23) + (1 : Int32))) (fun S_6 => S_6)) else bnv (f_M_perform S) (fun S_3 => bnv (st_up S_3 0 23 ((S_3 0 23) + (1 : Int32))) (fun S_4 => S_4))))
def k_M_send (S : St) : Prop := (if (S 0 23) = 0 then k_H_sendTo S 4 5 6 1 6219 11 12 13 14 15 (S 0 30) else (if (S 0 23) = (1 : Int32) then k_M_write S (2 : Int32) ((S 4 3) + (1 : Int32)) else k_M_perform S))
set_option linter.unusedVariables false in
set_option maxHeartbeats 4000000 in
set_option maxRecDepth 100000 in
theorem c_M_send (l : Launch) {X : vD} (hJ : sh_J X) (hX : shp X = shM)  (S : St) (hk : k_M_send S) : Con l X yX10_send cX10_send 1 none 4 [.ref (adr X 0)] S (none, f_M_send S) := by
  refine con_of (ρ := (fun S : St => ((none, S) : Option Value × St))) (K := f_M_send S) hJ hX (by decide) (Nat.le_of_ble_eq_true rfl) (lv := [(0, .ref (adr X 0))]) rfl ?_
  intro p e s m below meth c G
  have G : vG p s m _ meth c X shM "SensorNodeModel" cX10_send 1 none := G
  unfold f_M_send
  unfold k_M_send at hk
  refine v_aload_n G 0 dX10_send_0 rfl ?_
  refine v_geti G (ci := 10) (T := TX10) (j := 23) inX10 rfl rfl rfl (by decide) w4_118 dX10_send_1 ?_
  refine v_if_ne G (tgt := 25) dX10_send_4 (by decide) (fun c_1 => ?_) (fun c_1 => ?_)
  · replace hk := ok_f c_1 hk
    refine v_aload_n G 0 dX10_send_25 rfl ?_
    refine v_geti G (ci := 10) (T := TX10) (j := 23) inX10 rfl rfl rfl (by decide) w4_118 dX10_send_26 ?_
    refine v_iconst G (v := (1 : Int32)) dX10_send_29 (by decide) ?_
    refine v_icmp_ne G (tgt := 50) dX10_send_30 (by decide) (fun c_2 => ?_) (fun c_2 => ?_)
    · replace hk := ok_f c_2 hk
      refine v_aload_n G 0 dX10_send_50 rfl ?_
      refine v_callVv G (As := []) (st := []) (c_M_perform l hJ hX S hk) (by decide) (by decide) (ci := 10) rfl rfl w5_39 w5_41 w0_39 w1_9 w5_42 qyX10_perform rfl (Nat.le_of_ble_eq_true rfl) dX10_send_51 ?_
      refine v_bnv (fun S_3 eS_3 => ?_)
      refine v_aload_n G 0 dX10_send_54 rfl ?_
      refine v_dup G dX10_send_55 rfl ?_
      refine v_geti G (ci := 10) (T := TX10) (j := 23) inX10 rfl rfl rfl (by decide) w4_118 dX10_send_56 ?_
      refine v_iconst G (v := (1 : Int32)) dX10_send_59 (by decide) ?_
      refine v_iadd G dX10_send_60 ?_
      refine v_puti G (ci := 10) (T := TX10) (j := 23) inX10 rfl rfl tyX10_ok nmX10 rfl (by decide) rfl rfl rfl w4_118 dX10_send_61 (fun S_4 eS_4 => ?_)
      exact v_vret G rfl rfl dX10_send_64
    · replace hk := ok_t c_2 hk
      refine v_aload_n G 0 dX10_send_33 rfl ?_
      refine v_iconst G (v := (2 : Int32)) dX10_send_34 (by decide) ?_
      refine v_aload_n G 0 dX10_send_35 rfl ?_
      refine v_getr G (ci := 10) (T := TX10) (j := 14) inX10 rfl rfl rfl (by decide) w4_109 dX10_send_36 ?_
      refine v_geti G (ci := 9) (T := TX9) (j := 3) inX9 rfl rfl rfl (by decide) w3_235 dX10_send_39 ?_
      refine v_iconst G (v := (1 : Int32)) dX10_send_42 (by decide) ?_
      refine v_iadd G dX10_send_43 ?_
      refine v_callVv G (As := [.int (2 : Int32), .int ((S 4 3) + (1 : Int32))]) (st := []) (c_M_write l hJ hX S (2 : Int32) ((S 4 3) + (1 : Int32)) hk) (by decide) (by decide) (ci := 10) rfl rfl w5_23 w5_25 w0_35 w1_9 w5_26 qyX10_write rfl (Nat.le_of_ble_eq_true rfl) dX10_send_44 ?_
      refine v_bnv (fun S_5 eS_5 => ?_)
      refine v_goto G (tgt := 54) dX10_send_47 (by decide) ?_
      refine v_aload_n G 0 dX10_send_54 rfl ?_
      refine v_dup G dX10_send_55 rfl ?_
      refine v_geti G (ci := 10) (T := TX10) (j := 23) inX10 rfl rfl rfl (by decide) w4_118 dX10_send_56 ?_
      refine v_iconst G (v := (1 : Int32)) dX10_send_59 (by decide) ?_
      refine v_iadd G dX10_send_60 ?_
      refine v_puti G (ci := 10) (T := TX10) (j := 23) inX10 rfl rfl tyX10_ok nmX10 rfl (by decide) rfl rfl rfl w4_118 dX10_send_61 (fun S_6 eS_6 => ?_)
      exact v_vret G rfl rfl dX10_send_64
  · replace hk := ok_t c_1 hk
    refine v_aload_n G 0 dX10_send_7 rfl ?_
    refine v_getr G (ci := 10) (T := TX10) (j := 14) inX10 rfl rfl rfl (by decide) w4_109 dX10_send_8 ?_
    refine v_aload_n G 0 dX10_send_11 rfl ?_
    refine v_getr G (ci := 10) (T := TX10) (j := 18) inX10 rfl rfl rfl (by decide) w4_113 dX10_send_12 ?_
    refine v_aload_n G 0 dX10_send_15 rfl ?_
    refine v_geti G (ci := 10) (T := TX10) (j := 30) inX10 rfl rfl rfl (by decide) w4_125 dX10_send_16 ?_
    refine v_callVv G (As := [.ref (adr X 11), .int (S 0 30)]) (st := []) (c_H_sendTo l hJ hX 4 5 6 1 6219 11 12 13 14 15 ⟨rfl, rfl, rfl, rfl⟩ ⟨rfl, rfl, rfl, rfl, rfl⟩ S (S 0 30) hk) (by decide) (by decide) (ci := 9) rfl rfl w5_64 w5_65 w5_66 w1_10 w5_67 qyX9_sendTo rfl (Nat.le_of_ble_eq_true rfl) dX10_send_19 ?_
    refine v_bnv (fun S_7 eS_7 => ?_)
    refine v_goto G (tgt := 54) dX10_send_22 (by decide) ?_
    refine v_aload_n G 0 dX10_send_54 rfl ?_
    refine v_dup G dX10_send_55 rfl ?_
    refine v_geti G (ci := 10) (T := TX10) (j := 23) inX10 rfl rfl rfl (by decide) w4_118 dX10_send_56 ?_
    refine v_iconst G (v := (1 : Int32)) dX10_send_59 (by decide) ?_
    refine v_iadd G dX10_send_60 ?_
    refine v_puti G (ci := 10) (T := TX10) (j := 23) inX10 rfl rfl tyX10_ok nmX10 rfl (by decide) rfl rfl rfl w4_118 dX10_send_61 (fun S_8 eS_8 => ?_)
    exact v_vret G rfl rfl dX10_send_64
/-! SensorNodeModel.boot -/
theorem qyX10_boot : yX10_boot.cls ≠ "java/lang/invoke/MethodHandle" ∧ yX10_boot.cls ≠ "java/lang/invoke/VarHandle" ∧ (parseMethodDescriptor yX10_boot.desc).map (fun d => d.parameters.length) = some 0 := by decide +kernel
noncomputable def f_M_boot (S : St) : St := (if 0 < (S 0 23) then bnv (st_up S 0 23 ((S 0 23) - (1 : Int32))) (fun S_4 => bnx ((S_4 0 9) + ((2 : Int32) * (S_4 0 23))) (fun x_5 => bnv (f_M_write S_4 (S_4 1 x_5.toNatClampNeg) (S_4 1 (x_5 + (1 : Int32)).toNatClampNeg)) (fun S_6 => bnv (st_up S_6 0 31 ((S_6 0 31) + (1 : Int32))) (fun S_7 => (if (S_7 0 23) = 0 then bnv (st_up S_7 0 23 (-1 : Int32)) (fun S_9 => S_9) else S_7))))) else bnv (f_M_write S (1 : Int32) ((f_M_generation S) <<< ((16 : Int32) &&& 31))) (fun S_2 => bnv (st_up S_2 0 22 (0 : Int32)) (fun S_3 => S_3)))
def k_M_boot (S : St) : Prop := (if 0 < (S 0 23) then bnv (st_up S 0 23 ((S 0 23) - (1 : Int32))) (fun S_4 => bnx ((S_4 0 9) + ((2 : Int32) * (S_4 0 23))) (fun x_5 => (vp_in x_5 6219 ∧ (vp_in (x_5 + (1 : Int32)) 6219 ∧ k_M_write S_4 (S_4 1 x_5.toNatClampNeg) (S_4 1 (x_5 + (1 : Int32)).toNatClampNeg))))) else k_M_write S (1 : Int32) ((f_M_generation S) <<< ((16 : Int32) &&& 31)))
set_option linter.unusedVariables false in
set_option maxHeartbeats 4000000 in
set_option maxRecDepth 100000 in
theorem c_M_boot (l : Launch) {X : vD} (hJ : sh_J X) (hX : shp X = shM)  (S : St) (hk : k_M_boot S) : Con l X yX10_boot cX10_boot 2 none 1 [.ref (adr X 0)] S (none, f_M_boot S) := by
  refine con_of (ρ := (fun S : St => ((none, S) : Option Value × St))) (K := f_M_boot S) hJ hX (by decide) (Nat.le_of_ble_eq_true rfl) (lv := [(0, .ref (adr X 0))]) rfl ?_
  intro p e s m below meth c G
  have G : vG p s m _ meth c X shM "SensorNodeModel" cX10_boot 2 none := G
  unfold f_M_boot
  unfold k_M_boot at hk
  refine v_aload_n G 0 dX10_boot_0 rfl ?_
  refine v_geti G (ci := 10) (T := TX10) (j := 23) inX10 rfl rfl rfl (by decide) w4_118 dX10_boot_1 ?_
  refine v_if_le G (tgt := 70) dX10_boot_4 (by decide) (fun c_1 => ?_) (fun c_1 => ?_)
  · replace hk := ok_f c_1 hk
    refine v_aload_n G 0 dX10_boot_70 rfl ?_
    refine v_iconst G (v := (1 : Int32)) dX10_boot_71 (by decide) ?_
    refine v_aload_n G 0 dX10_boot_72 rfl ?_
    refine v_callVi G (As := []) (st := [.int (1 : Int32), .ref (adr X 0)]) (c_M_generation l hJ hX S) (by decide) (by decide) (ci := 10) rfl rfl w4_230 w4_232 w0_29 w1_9 w4_233 qyX10_generation rfl (Nat.le_of_ble_eq_true rfl) dX10_boot_73 ?_
    refine v_bipush G (v := (16 : Int32)) dX10_boot_76 (by decide) ?_
    refine v_ishl G dX10_boot_78 ?_
    refine v_callVv G (As := [.int (1 : Int32), .int ((f_M_generation S) <<< ((16 : Int32) &&& 31))]) (st := []) (c_M_write l hJ hX S (1 : Int32) ((f_M_generation S) <<< ((16 : Int32) &&& 31)) hk) (by decide) (by decide) (ci := 10) rfl rfl w5_23 w5_25 w0_35 w1_9 w5_26 qyX10_write rfl (Nat.le_of_ble_eq_true rfl) dX10_boot_79 ?_
    refine v_bnv (fun S_2 eS_2 => ?_)
    refine v_aload_n G 0 dX10_boot_82 rfl ?_
    refine v_iconst G (v := (0 : Int32)) dX10_boot_83 (by decide) ?_
    refine v_puti G (ci := 10) (T := TX10) (j := 22) inX10 rfl rfl tyX10_ok nmX10 rfl (by decide) rfl rfl rfl w4_117 dX10_boot_84 (fun S_3 eS_3 => ?_)
    exact v_vret G rfl rfl dX10_boot_87
  · replace hk := ok_t c_1 hk
    refine v_aload_n G 0 dX10_boot_7 rfl ?_
    refine v_dup G dX10_boot_8 rfl ?_
    refine v_geti G (ci := 10) (T := TX10) (j := 23) inX10 rfl rfl rfl (by decide) w4_118 dX10_boot_9 ?_
    refine v_iconst G (v := (1 : Int32)) dX10_boot_12 (by decide) ?_
    refine v_isub G dX10_boot_13 ?_
    refine v_puti G (ci := 10) (T := TX10) (j := 23) inX10 rfl rfl tyX10_ok nmX10 rfl (by decide) rfl rfl rfl w4_118 dX10_boot_14 (fun S_4 eS_4 => ?_)
    replace hk := ok_v eS_4 hk
    refine v_aload_n G 0 dX10_boot_17 rfl ?_
    refine v_geti G (ci := 10) (T := TX10) (j := 9) inX10 rfl rfl rfl (by decide) w4_104 dX10_boot_18 ?_
    refine v_iconst G (v := (2 : Int32)) dX10_boot_21 (by decide) ?_
    refine v_aload_n G 0 dX10_boot_22 rfl ?_
    refine v_geti G (ci := 10) (T := TX10) (j := 23) inX10 rfl rfl rfl (by decide) w4_118 dX10_boot_23 ?_
    refine v_imul G dX10_boot_26 ?_
    refine v_iadd G dX10_boot_27 ?_
    refine v_namei (fun x_5 ex_5 => ?_)
    replace hk := ok_x ex_5 hk
    refine v_istore_n G [(1, .int x_5), (0, .ref (adr X 0))] dX10_boot_28 (by decide) rfl ?_
    refine v_aload_n G 1 dX10_boot_29 rfl ?_
    refine v_aload_n G 1 dX10_boot_30 rfl ?_
    refine v_getr G (ci := 10) (T := TX10) (j := 11) inX10 rfl rfl rfl (by decide) w4_106 dX10_boot_31 ?_
    refine v_iload_n G 0 dX10_boot_34 rfl ?_
    refine v_iald G rfl hk.1 dX10_boot_35 ?_
    replace hk := hk.2
    refine v_aload_n G 1 dX10_boot_36 rfl ?_
    refine v_getr G (ci := 10) (T := TX10) (j := 11) inX10 rfl rfl rfl (by decide) w4_106 dX10_boot_37 ?_
    refine v_iload_n G 0 dX10_boot_40 rfl ?_
    refine v_iconst G (v := (1 : Int32)) dX10_boot_41 (by decide) ?_
    refine v_iadd G dX10_boot_42 ?_
    refine v_iald G rfl hk.1 dX10_boot_43 ?_
    replace hk := hk.2
    refine v_callVv G (As := [.int (S_4 1 x_5.toNatClampNeg), .int (S_4 1 (x_5 + (1 : Int32)).toNatClampNeg)]) (st := []) (c_M_write l hJ hX S_4 (S_4 1 x_5.toNatClampNeg) (S_4 1 (x_5 + (1 : Int32)).toNatClampNeg) hk) (by decide) (by decide) (ci := 10) rfl rfl w5_23 w5_25 w0_35 w1_9 w5_26 qyX10_write rfl (Nat.le_of_ble_eq_true rfl) dX10_boot_44 ?_
    refine v_bnv (fun S_6 eS_6 => ?_)
    refine v_aload_n G 1 dX10_boot_47 rfl ?_
    refine v_dup G dX10_boot_48 rfl ?_
    refine v_geti G (ci := 10) (T := TX10) (j := 31) inX10 rfl rfl rfl (by decide) w4_126 dX10_boot_49 ?_
    refine v_iconst G (v := (1 : Int32)) dX10_boot_52 (by decide) ?_
    refine v_iadd G dX10_boot_53 ?_
    refine v_puti G (ci := 10) (T := TX10) (j := 31) inX10 rfl rfl tyX10_ok nmX10 rfl (by decide) rfl rfl rfl w4_126 dX10_boot_54 (fun S_7 eS_7 => ?_)
    refine v_aload_n G 1 dX10_boot_57 rfl ?_
    refine v_geti G (ci := 10) (T := TX10) (j := 23) inX10 rfl rfl rfl (by decide) w4_118 dX10_boot_58 ?_
    refine v_if_ne G (tgt := 69) dX10_boot_61 (by decide) (fun c_8 => ?_) (fun c_8 => ?_)
    · exact v_vret G rfl rfl dX10_boot_69
    · refine v_aload_n G 1 dX10_boot_64 rfl ?_
      refine v_iconst G (v := (-1 : Int32)) dX10_boot_65 (by decide) ?_
      refine v_puti G (ci := 10) (T := TX10) (j := 23) inX10 rfl rfl tyX10_ok nmX10 rfl (by decide) rfl rfl rfl w4_118 dX10_boot_66 (fun S_9 eS_9 => ?_)
      exact v_vret G rfl rfl dX10_boot_69
/-! SensorNodeModel.decide -/
theorem qyX10_decide : yX10_decide.cls ≠ "java/lang/invoke/MethodHandle" ∧ yX10_decide.cls ≠ "java/lang/invoke/VarHandle" ∧ (parseMethodDescriptor yX10_decide.desc).map (fun d => d.parameters.length) = some 0 := by decide +kernel
noncomputable def f_M_decide_119 (S : St) (v1 v2 v3 : Int32) : St := bnv (st_up S 0 23 (0 : Int32)) (fun S_1120 => (if v3 = 0 then (if (S_1120 4 12) = 0 then (if v2 = 0 then (if v1 = 0 then bnv (f_M_perform S_1120) (fun S_1125 => S_1125) else (if (S_1120 1 (2 : Int32).toNatClampNeg) = ((S_1120 4 3) + (1 : Int32)) then bnv (f_M_perform S_1120) (fun S_1127 => S_1127) else bnv (st_up S_1120 0 22 (4 : Int32)) (fun S_1128 => bnv (f_M_send S_1128) (fun S_1129 => S_1129)))) else bnv (st_up S_1120 0 22 (3 : Int32)) (fun S_1130 => bnv (f_M_log S_1130) (fun S_1131 => S_1131))) else bnv (st_up S_1120 0 21 (S_1120 4 12)) (fun S_1132 => S_1132)) else bnv (st_up S_1120 0 22 (2 : Int32)) (fun S_1133 => bnv (f_M_check S_1133) (fun S_1134 => S_1134))))
def k_M_decide_119 (S : St) (v1 v2 v3 : Int32) : Prop := bnv (st_up S 0 23 (0 : Int32)) (fun S_1120 => (if v3 = 0 then (if (S_1120 4 12) = 0 then (if v2 = 0 then (if v1 = 0 then k_M_perform S_1120 else (if (S_1120 1 (2 : Int32).toNatClampNeg) = ((S_1120 4 3) + (1 : Int32)) then k_M_perform S_1120 else bnv (st_up S_1120 0 22 (4 : Int32)) (fun S_1128 => k_M_send S_1128))) else bnv (st_up S_1120 0 22 (3 : Int32)) (fun S_1130 => k_M_log S_1130)) else True) else bnv (st_up S_1120 0 22 (2 : Int32)) (fun S_1133 => k_M_check S_1133)))
set_option linter.unusedVariables false in
set_option maxHeartbeats 4000000 in
set_option maxRecDepth 100000 in
theorem v_M_decide_119 {p : Program} {l : Launch} {e : Env} {s : State} {m : MethodId} {args : Array Value} {below : List Frame} {meth : Method} {c : Code} {X : vD}  (hJ : sh_J X) (hX : shp X = shM) (G : vG p s m args meth c X shM "SensorNodeModel" cX10_decide 4 none)  (S : St) (v1 v2 v3 : Int32)  (hk : k_M_decide_119 S v1 v2 v3) : V p l e 5 s m args below meth c X 4 (fun S : St => ((none, S) : Option Value × St)) S 119 [(0, .ref (adr X 0)), (1, .int v1), (2, .int v2), (3, .int v3)] [] (f_M_decide_119 S v1 v2 v3) := by
  unfold f_M_decide_119
  unfold k_M_decide_119 at hk
  refine v_aload_n G 0 dX10_decide_119 rfl ?_
  refine v_iconst G (v := (0 : Int32)) dX10_decide_120 (by decide) ?_
  refine v_puti G (ci := 10) (T := TX10) (j := 23) inX10 rfl rfl tyX10_ok nmX10 rfl (by decide) rfl rfl rfl w4_118 dX10_decide_121 (fun S_1120 eS_1120 => ?_)
  replace hk := ok_v eS_1120 hk
  refine v_iload_n G 3 dX10_decide_124 rfl ?_
  refine v_if_eq G (tgt := 140) dX10_decide_125 (by decide) (fun c_1121 => ?_) (fun c_1121 => ?_)
  · replace hk := ok_t c_1121 hk
    refine v_aload_n G 0 dX10_decide_140 rfl ?_
    refine v_getr G (ci := 10) (T := TX10) (j := 14) inX10 rfl rfl rfl (by decide) w4_109 dX10_decide_141 ?_
    refine v_geti G (ci := 9) (T := TX9) (j := 12) inX9 rfl rfl rfl (by decide) w4_12 dX10_decide_144 ?_
    refine v_if_eq G (tgt := 164) dX10_decide_147 (by decide) (fun c_1122 => ?_) (fun c_1122 => ?_)
    · replace hk := ok_t c_1122 hk
      refine v_iload_n G 2 dX10_decide_164 rfl ?_
      refine v_if_eq G (tgt := 180) dX10_decide_165 (by decide) (fun c_1123 => ?_) (fun c_1123 => ?_)
      · replace hk := ok_t c_1123 hk
        refine v_iload_n G 1 dX10_decide_180 rfl ?_
        refine v_if_eq G (tgt := 214) dX10_decide_181 (by decide) (fun c_1124 => ?_) (fun c_1124 => ?_)
        · replace hk := ok_t c_1124 hk
          refine v_aload_n G 0 dX10_decide_214 rfl ?_
          refine v_callVv G (As := []) (st := []) (c_M_perform l hJ hX S_1120 hk) (by decide) (by decide) (ci := 10) rfl rfl w5_39 w5_41 w0_39 w1_9 w5_42 qyX10_perform rfl (Nat.le_of_ble_eq_true rfl) dX10_decide_215 ?_
          refine v_bnv (fun S_1125 eS_1125 => ?_)
          exact v_vret G rfl rfl dX10_decide_218
        · replace hk := ok_f c_1124 hk
          refine v_aload_n G 0 dX10_decide_184 rfl ?_
          refine v_getr G (ci := 10) (T := TX10) (j := 11) inX10 rfl rfl rfl (by decide) w4_106 dX10_decide_185 ?_
          refine v_iconst G (v := (2 : Int32)) dX10_decide_188 (by decide) ?_
          refine v_iald G rfl (by unfold vp_in; decide) dX10_decide_189 ?_
          refine v_aload_n G 0 dX10_decide_190 rfl ?_
          refine v_getr G (ci := 10) (T := TX10) (j := 14) inX10 rfl rfl rfl (by decide) w4_109 dX10_decide_191 ?_
          refine v_geti G (ci := 9) (T := TX9) (j := 3) inX9 rfl rfl rfl (by decide) w3_235 dX10_decide_194 ?_
          refine v_iconst G (v := (1 : Int32)) dX10_decide_197 (by decide) ?_
          refine v_iadd G dX10_decide_198 ?_
          refine v_icmp_eq G (tgt := 214) dX10_decide_199 (by decide) (fun c_1126 => ?_) (fun c_1126 => ?_)
          · replace hk := ok_t c_1126 hk
            refine v_aload_n G 0 dX10_decide_214 rfl ?_
            refine v_callVv G (As := []) (st := []) (c_M_perform l hJ hX S_1120 hk) (by decide) (by decide) (ci := 10) rfl rfl w5_39 w5_41 w0_39 w1_9 w5_42 qyX10_perform rfl (Nat.le_of_ble_eq_true rfl) dX10_decide_215 ?_
            refine v_bnv (fun S_1127 eS_1127 => ?_)
            exact v_vret G rfl rfl dX10_decide_218
          · replace hk := ok_f c_1126 hk
            refine v_aload_n G 0 dX10_decide_202 rfl ?_
            refine v_iconst G (v := (4 : Int32)) dX10_decide_203 (by decide) ?_
            refine v_puti G (ci := 10) (T := TX10) (j := 22) inX10 rfl rfl tyX10_ok nmX10 rfl (by decide) rfl rfl rfl w4_117 dX10_decide_204 (fun S_1128 eS_1128 => ?_)
            replace hk := ok_v eS_1128 hk
            refine v_aload_n G 0 dX10_decide_207 rfl ?_
            refine v_callVv G (As := []) (st := []) (c_M_send l hJ hX S_1128 hk) (by decide) (by decide) (ci := 10) rfl rfl w5_60 w5_62 w0_41 w1_9 w5_63 qyX10_send rfl (Nat.le_of_ble_eq_true rfl) dX10_decide_208 ?_
            refine v_bnv (fun S_1129 eS_1129 => ?_)
            refine v_goto G (tgt := 218) dX10_decide_211 (by decide) ?_
            exact v_vret G rfl rfl dX10_decide_218
      · replace hk := ok_f c_1123 hk
        refine v_aload_n G 0 dX10_decide_168 rfl ?_
        refine v_iconst G (v := (3 : Int32)) dX10_decide_169 (by decide) ?_
        refine v_puti G (ci := 10) (T := TX10) (j := 22) inX10 rfl rfl tyX10_ok nmX10 rfl (by decide) rfl rfl rfl w4_117 dX10_decide_170 (fun S_1130 eS_1130 => ?_)
        replace hk := ok_v eS_1130 hk
        refine v_aload_n G 0 dX10_decide_173 rfl ?_
        refine v_callVv G (As := []) (st := []) (c_M_log l hJ hX S_1130 hk) (by decide) (by decide) (ci := 10) rfl rfl w5_35 w5_37 w0_38 w1_9 w5_38 qyX10_log rfl (Nat.le_of_ble_eq_true rfl) dX10_decide_174 ?_
        refine v_bnv (fun S_1131 eS_1131 => ?_)
        refine v_goto G (tgt := 218) dX10_decide_177 (by decide) ?_
        exact v_vret G rfl rfl dX10_decide_218
    · refine v_aload_n G 0 dX10_decide_150 rfl ?_
      refine v_aload_n G 0 dX10_decide_151 rfl ?_
      refine v_getr G (ci := 10) (T := TX10) (j := 14) inX10 rfl rfl rfl (by decide) w4_109 dX10_decide_152 ?_
      refine v_geti G (ci := 9) (T := TX9) (j := 12) inX9 rfl rfl rfl (by decide) w4_12 dX10_decide_155 ?_
      refine v_puti G (ci := 10) (T := TX10) (j := 21) inX10 rfl rfl tyX10_ok nmX10 rfl (by decide) rfl rfl rfl w4_116 dX10_decide_158 (fun S_1132 eS_1132 => ?_)
      refine v_goto G (tgt := 218) dX10_decide_161 (by decide) ?_
      exact v_vret G rfl rfl dX10_decide_218
  · replace hk := ok_f c_1121 hk
    refine v_aload_n G 0 dX10_decide_128 rfl ?_
    refine v_iconst G (v := (2 : Int32)) dX10_decide_129 (by decide) ?_
    refine v_puti G (ci := 10) (T := TX10) (j := 22) inX10 rfl rfl tyX10_ok nmX10 rfl (by decide) rfl rfl rfl w4_117 dX10_decide_130 (fun S_1133 eS_1133 => ?_)
    replace hk := ok_v eS_1133 hk
    refine v_aload_n G 0 dX10_decide_133 rfl ?_
    refine v_callVv G (As := []) (st := []) (c_M_check l hJ hX S_1133 hk) (by decide) (by decide) (ci := 10) rfl rfl w5_27 w5_29 w0_36 w1_9 w5_30 qyX10_check rfl (Nat.le_of_ble_eq_true rfl) dX10_decide_134 ?_
    refine v_bnv (fun S_1134 eS_1134 => ?_)
    refine v_goto G (tgt := 218) dX10_decide_137 (by decide) ?_
    exact v_vret G rfl rfl dX10_decide_218
noncomputable def f_M_decide_66 (S : St) (v1 v2 : Int32) : St := (if (S 0 20) = (S 0 6) then (f_M_decide_119 S v1 v2 (1 : Int32)) else (if (S 4 12) = 0 then (if v1 = 0 then (if v2 = 0 then (f_M_decide_119 S v1 v2 (0 : Int32)) else (if (f_M_counting S) = (S 0 5) then (f_M_decide_119 S v1 v2 (1 : Int32)) else (f_M_decide_119 S v1 v2 (0 : Int32)))) else (if 0 < (S 0 20) then (f_M_decide_119 S v1 v2 (1 : Int32)) else (if v2 = 0 then (f_M_decide_119 S v1 v2 (0 : Int32)) else (if (f_M_counting S) = (S 0 5) then (f_M_decide_119 S v1 v2 (1 : Int32)) else (f_M_decide_119 S v1 v2 (0 : Int32)))))) else (if v2 = 0 then (f_M_decide_119 S v1 v2 (0 : Int32)) else (if (f_M_counting S) = (S 0 5) then (f_M_decide_119 S v1 v2 (1 : Int32)) else (f_M_decide_119 S v1 v2 (0 : Int32))))))
def k_M_decide_66 (S : St) (v1 v2 : Int32) : Prop := (if (S 0 20) = (S 0 6) then (k_M_decide_119 S v1 v2 (1 : Int32)) else (if (S 4 12) = 0 then (if v1 = 0 then (if v2 = 0 then (k_M_decide_119 S v1 v2 (0 : Int32)) else (if (f_M_counting S) = (S 0 5) then (k_M_decide_119 S v1 v2 (1 : Int32)) else (k_M_decide_119 S v1 v2 (0 : Int32)))) else (if 0 < (S 0 20) then (k_M_decide_119 S v1 v2 (1 : Int32)) else (if v2 = 0 then (k_M_decide_119 S v1 v2 (0 : Int32)) else (if (f_M_counting S) = (S 0 5) then (k_M_decide_119 S v1 v2 (1 : Int32)) else (k_M_decide_119 S v1 v2 (0 : Int32)))))) else (if v2 = 0 then (k_M_decide_119 S v1 v2 (0 : Int32)) else (if (f_M_counting S) = (S 0 5) then (k_M_decide_119 S v1 v2 (1 : Int32)) else (k_M_decide_119 S v1 v2 (0 : Int32))))))
set_option linter.unusedVariables false in
set_option maxHeartbeats 4000000 in
set_option maxRecDepth 100000 in
theorem v_M_decide_66 {p : Program} {l : Launch} {e : Env} {s : State} {m : MethodId} {args : Array Value} {below : List Frame} {meth : Method} {c : Code} {X : vD}  (hJ : sh_J X) (hX : shp X = shM) (G : vG p s m args meth c X shM "SensorNodeModel" cX10_decide 4 none)  (S : St) (v1 v2 : Int32)  (hk : k_M_decide_66 S v1 v2) : V p l e 5 s m args below meth c X 4 (fun S : St => ((none, S) : Option Value × St)) S 66 [(0, .ref (adr X 0)), (1, .int v1), (2, .int v2)] [] (f_M_decide_66 S v1 v2) := by
  unfold f_M_decide_66
  unfold k_M_decide_66 at hk
  refine v_aload_n G 0 dX10_decide_66 rfl ?_
  refine v_geti G (ci := 10) (T := TX10) (j := 20) inX10 rfl rfl rfl (by decide) w4_115 dX10_decide_67 ?_
  refine v_aload_n G 0 dX10_decide_70 rfl ?_
  refine v_geti G (ci := 10) (T := TX10) (j := 6) inX10 rfl rfl rfl (by decide) w4_101 dX10_decide_71 ?_
  refine v_icmp_eq G (tgt := 113) dX10_decide_74 (by decide) (fun c_1067 => ?_) (fun c_1067 => ?_)
  · replace hk := ok_t c_1067 hk
    refine v_iconst G (v := (1 : Int32)) dX10_decide_113 (by decide) ?_
    refine v_goto G (tgt := 118) dX10_decide_114 (by decide) ?_
    refine v_istore_n G [(3, .int (1 : Int32)), (0, .ref (adr X 0)), (1, .int v1), (2, .int v2)] dX10_decide_118 (by decide) rfl ?_
    exact v_sub (lv' := [(0, .ref (adr X 0)), (1, .int v1), (2, .int v2), (3, .int (1 : Int32))]) [1, 2, 3, 0] rfl (v_M_decide_119 hJ hX G S v1 v2 (1 : Int32) hk)
  · replace hk := ok_f c_1067 hk
    refine v_aload_n G 0 dX10_decide_77 rfl ?_
    refine v_getr G (ci := 10) (T := TX10) (j := 14) inX10 rfl rfl rfl (by decide) w4_109 dX10_decide_78 ?_
    refine v_geti G (ci := 9) (T := TX9) (j := 12) inX9 rfl rfl rfl (by decide) w4_12 dX10_decide_81 ?_
    refine v_if_ne G (tgt := 98) dX10_decide_84 (by decide) (fun c_1068 => ?_) (fun c_1068 => ?_)
    · replace hk := ok_f c_1068 hk
      refine v_iload_n G 2 dX10_decide_98 rfl ?_
      refine v_if_eq G (tgt := 117) dX10_decide_99 (by decide) (fun c_1069 => ?_) (fun c_1069 => ?_)
      · replace hk := ok_t c_1069 hk
        refine v_iconst G (v := (0 : Int32)) dX10_decide_117 (by decide) ?_
        refine v_istore_n G [(3, .int (0 : Int32)), (0, .ref (adr X 0)), (1, .int v1), (2, .int v2)] dX10_decide_118 (by decide) rfl ?_
        exact v_sub (lv' := [(0, .ref (adr X 0)), (1, .int v1), (2, .int v2), (3, .int (0 : Int32))]) [1, 2, 3, 0] rfl (v_M_decide_119 hJ hX G S v1 v2 (0 : Int32) hk)
      · replace hk := ok_f c_1069 hk
        refine v_aload_n G 0 dX10_decide_102 rfl ?_
        refine v_callVi G (As := []) (st := []) (c_M_counting l hJ hX S) (by decide) (by decide) (ci := 10) rfl rfl w5_3 w5_5 w0_32 w1_9 w5_6 qyX10_counting rfl (Nat.le_of_ble_eq_true rfl) dX10_decide_103 ?_
        refine v_aload_n G 0 dX10_decide_106 rfl ?_
        refine v_geti G (ci := 10) (T := TX10) (j := 5) inX10 rfl rfl rfl (by decide) w4_100 dX10_decide_107 ?_
        refine v_icmp_ne G (tgt := 117) dX10_decide_110 (by decide) (fun c_1070 => ?_) (fun c_1070 => ?_)
        · replace hk := ok_f c_1070 hk
          refine v_iconst G (v := (0 : Int32)) dX10_decide_117 (by decide) ?_
          refine v_istore_n G [(3, .int (0 : Int32)), (0, .ref (adr X 0)), (1, .int v1), (2, .int v2)] dX10_decide_118 (by decide) rfl ?_
          exact v_sub (lv' := [(0, .ref (adr X 0)), (1, .int v1), (2, .int v2), (3, .int (0 : Int32))]) [1, 2, 3, 0] rfl (v_M_decide_119 hJ hX G S v1 v2 (0 : Int32) hk)
        · replace hk := ok_t c_1070 hk
          refine v_iconst G (v := (1 : Int32)) dX10_decide_113 (by decide) ?_
          refine v_goto G (tgt := 118) dX10_decide_114 (by decide) ?_
          refine v_istore_n G [(3, .int (1 : Int32)), (0, .ref (adr X 0)), (1, .int v1), (2, .int v2)] dX10_decide_118 (by decide) rfl ?_
          exact v_sub (lv' := [(0, .ref (adr X 0)), (1, .int v1), (2, .int v2), (3, .int (1 : Int32))]) [1, 2, 3, 0] rfl (v_M_decide_119 hJ hX G S v1 v2 (1 : Int32) hk)
    · replace hk := ok_t c_1068 hk
      refine v_iload_n G 1 dX10_decide_87 rfl ?_
      refine v_if_eq G (tgt := 98) dX10_decide_88 (by decide) (fun c_1071 => ?_) (fun c_1071 => ?_)
      · replace hk := ok_t c_1071 hk
        refine v_iload_n G 2 dX10_decide_98 rfl ?_
        refine v_if_eq G (tgt := 117) dX10_decide_99 (by decide) (fun c_1072 => ?_) (fun c_1072 => ?_)
        · replace hk := ok_t c_1072 hk
          refine v_iconst G (v := (0 : Int32)) dX10_decide_117 (by decide) ?_
          refine v_istore_n G [(3, .int (0 : Int32)), (0, .ref (adr X 0)), (1, .int v1), (2, .int v2)] dX10_decide_118 (by decide) rfl ?_
          exact v_sub (lv' := [(0, .ref (adr X 0)), (1, .int v1), (2, .int v2), (3, .int (0 : Int32))]) [1, 2, 3, 0] rfl (v_M_decide_119 hJ hX G S v1 v2 (0 : Int32) hk)
        · replace hk := ok_f c_1072 hk
          refine v_aload_n G 0 dX10_decide_102 rfl ?_
          refine v_callVi G (As := []) (st := []) (c_M_counting l hJ hX S) (by decide) (by decide) (ci := 10) rfl rfl w5_3 w5_5 w0_32 w1_9 w5_6 qyX10_counting rfl (Nat.le_of_ble_eq_true rfl) dX10_decide_103 ?_
          refine v_aload_n G 0 dX10_decide_106 rfl ?_
          refine v_geti G (ci := 10) (T := TX10) (j := 5) inX10 rfl rfl rfl (by decide) w4_100 dX10_decide_107 ?_
          refine v_icmp_ne G (tgt := 117) dX10_decide_110 (by decide) (fun c_1073 => ?_) (fun c_1073 => ?_)
          · replace hk := ok_f c_1073 hk
            refine v_iconst G (v := (0 : Int32)) dX10_decide_117 (by decide) ?_
            refine v_istore_n G [(3, .int (0 : Int32)), (0, .ref (adr X 0)), (1, .int v1), (2, .int v2)] dX10_decide_118 (by decide) rfl ?_
            exact v_sub (lv' := [(0, .ref (adr X 0)), (1, .int v1), (2, .int v2), (3, .int (0 : Int32))]) [1, 2, 3, 0] rfl (v_M_decide_119 hJ hX G S v1 v2 (0 : Int32) hk)
          · replace hk := ok_t c_1073 hk
            refine v_iconst G (v := (1 : Int32)) dX10_decide_113 (by decide) ?_
            refine v_goto G (tgt := 118) dX10_decide_114 (by decide) ?_
            refine v_istore_n G [(3, .int (1 : Int32)), (0, .ref (adr X 0)), (1, .int v1), (2, .int v2)] dX10_decide_118 (by decide) rfl ?_
            exact v_sub (lv' := [(0, .ref (adr X 0)), (1, .int v1), (2, .int v2), (3, .int (1 : Int32))]) [1, 2, 3, 0] rfl (v_M_decide_119 hJ hX G S v1 v2 (1 : Int32) hk)
      · replace hk := ok_f c_1071 hk
        refine v_aload_n G 0 dX10_decide_91 rfl ?_
        refine v_geti G (ci := 10) (T := TX10) (j := 20) inX10 rfl rfl rfl (by decide) w4_115 dX10_decide_92 ?_
        refine v_if_gt G (tgt := 113) dX10_decide_95 (by decide) (fun c_1074 => ?_) (fun c_1074 => ?_)
        · replace hk := ok_t c_1074 hk
          refine v_iconst G (v := (1 : Int32)) dX10_decide_113 (by decide) ?_
          refine v_goto G (tgt := 118) dX10_decide_114 (by decide) ?_
          refine v_istore_n G [(3, .int (1 : Int32)), (0, .ref (adr X 0)), (1, .int v1), (2, .int v2)] dX10_decide_118 (by decide) rfl ?_
          exact v_sub (lv' := [(0, .ref (adr X 0)), (1, .int v1), (2, .int v2), (3, .int (1 : Int32))]) [1, 2, 3, 0] rfl (v_M_decide_119 hJ hX G S v1 v2 (1 : Int32) hk)
        · replace hk := ok_f c_1074 hk
          refine v_iload_n G 2 dX10_decide_98 rfl ?_
          refine v_if_eq G (tgt := 117) dX10_decide_99 (by decide) (fun c_1075 => ?_) (fun c_1075 => ?_)
          · replace hk := ok_t c_1075 hk
            refine v_iconst G (v := (0 : Int32)) dX10_decide_117 (by decide) ?_
            refine v_istore_n G [(3, .int (0 : Int32)), (0, .ref (adr X 0)), (1, .int v1), (2, .int v2)] dX10_decide_118 (by decide) rfl ?_
            exact v_sub (lv' := [(0, .ref (adr X 0)), (1, .int v1), (2, .int v2), (3, .int (0 : Int32))]) [1, 2, 3, 0] rfl (v_M_decide_119 hJ hX G S v1 v2 (0 : Int32) hk)
          · replace hk := ok_f c_1075 hk
            refine v_aload_n G 0 dX10_decide_102 rfl ?_
            refine v_callVi G (As := []) (st := []) (c_M_counting l hJ hX S) (by decide) (by decide) (ci := 10) rfl rfl w5_3 w5_5 w0_32 w1_9 w5_6 qyX10_counting rfl (Nat.le_of_ble_eq_true rfl) dX10_decide_103 ?_
            refine v_aload_n G 0 dX10_decide_106 rfl ?_
            refine v_geti G (ci := 10) (T := TX10) (j := 5) inX10 rfl rfl rfl (by decide) w4_100 dX10_decide_107 ?_
            refine v_icmp_ne G (tgt := 117) dX10_decide_110 (by decide) (fun c_1076 => ?_) (fun c_1076 => ?_)
            · replace hk := ok_f c_1076 hk
              refine v_iconst G (v := (0 : Int32)) dX10_decide_117 (by decide) ?_
              refine v_istore_n G [(3, .int (0 : Int32)), (0, .ref (adr X 0)), (1, .int v1), (2, .int v2)] dX10_decide_118 (by decide) rfl ?_
              exact v_sub (lv' := [(0, .ref (adr X 0)), (1, .int v1), (2, .int v2), (3, .int (0 : Int32))]) [1, 2, 3, 0] rfl (v_M_decide_119 hJ hX G S v1 v2 (0 : Int32) hk)
            · replace hk := ok_t c_1076 hk
              refine v_iconst G (v := (1 : Int32)) dX10_decide_113 (by decide) ?_
              refine v_goto G (tgt := 118) dX10_decide_114 (by decide) ?_
              refine v_istore_n G [(3, .int (1 : Int32)), (0, .ref (adr X 0)), (1, .int v1), (2, .int v2)] dX10_decide_118 (by decide) rfl ?_
              exact v_sub (lv' := [(0, .ref (adr X 0)), (1, .int v1), (2, .int v2), (3, .int (1 : Int32))]) [1, 2, 3, 0] rfl (v_M_decide_119 hJ hX G S v1 v2 (1 : Int32) hk)
noncomputable def f_M_decide_24 (S : St) (v1 : Int32) : St := (if (S 4 13) = (1 : Int32) then (if (S 4 12) = 0 then (if (S 21 (S 4 16).toNatClampNeg) = 0 then (f_M_decide_66 S v1 (1 : Int32)) else (f_M_decide_66 S v1 (0 : Int32))) else (f_M_decide_66 S v1 (0 : Int32))) else (f_M_decide_66 S v1 (0 : Int32)))
def k_M_decide_24 (S : St) (v1 : Int32) : Prop := (if (S 4 13) = (1 : Int32) then (if (S 4 12) = 0 then (vp_in (S 4 16) 2048 ∧ (if (S 21 (S 4 16).toNatClampNeg) = 0 then (k_M_decide_66 S v1 (1 : Int32)) else (k_M_decide_66 S v1 (0 : Int32)))) else (k_M_decide_66 S v1 (0 : Int32))) else (k_M_decide_66 S v1 (0 : Int32)))
set_option linter.unusedVariables false in
set_option maxHeartbeats 4000000 in
set_option maxRecDepth 100000 in
theorem v_M_decide_24 {p : Program} {l : Launch} {e : Env} {s : State} {m : MethodId} {args : Array Value} {below : List Frame} {meth : Method} {c : Code} {X : vD}  (hJ : sh_J X) (hX : shp X = shM) (G : vG p s m args meth c X shM "SensorNodeModel" cX10_decide 4 none)  (S : St) (v1 : Int32)  (hk : k_M_decide_24 S v1) : V p l e 5 s m args below meth c X 4 (fun S : St => ((none, S) : Option Value × St)) S 24 [(0, .ref (adr X 0)), (1, .int v1)] [] (f_M_decide_24 S v1) := by
  unfold f_M_decide_24
  unfold k_M_decide_24 at hk
  refine v_aload_n G 0 dX10_decide_24 rfl ?_
  refine v_getr G (ci := 10) (T := TX10) (j := 14) inX10 rfl rfl rfl (by decide) w4_109 dX10_decide_25 ?_
  refine v_geti G (ci := 9) (T := TX9) (j := 13) inX9 rfl rfl rfl (by decide) w4_14 dX10_decide_28 ?_
  refine v_iconst G (v := (1 : Int32)) dX10_decide_31 (by decide) ?_
  refine v_icmp_ne G (tgt := 64) dX10_decide_32 (by decide) (fun c_1025 => ?_) (fun c_1025 => ?_)
  · replace hk := ok_f c_1025 hk
    refine v_iconst G (v := (0 : Int32)) dX10_decide_64 (by decide) ?_
    refine v_istore_n G [(2, .int (0 : Int32)), (0, .ref (adr X 0)), (1, .int v1)] dX10_decide_65 (by decide) rfl ?_
    exact v_sub (lv' := [(0, .ref (adr X 0)), (1, .int v1), (2, .int (0 : Int32))]) [1, 2, 0] rfl (v_M_decide_66 hJ hX G S v1 (0 : Int32) hk)
  · replace hk := ok_t c_1025 hk
    refine v_aload_n G 0 dX10_decide_35 rfl ?_
    refine v_getr G (ci := 10) (T := TX10) (j := 14) inX10 rfl rfl rfl (by decide) w4_109 dX10_decide_36 ?_
    refine v_geti G (ci := 9) (T := TX9) (j := 12) inX9 rfl rfl rfl (by decide) w4_12 dX10_decide_39 ?_
    refine v_if_ne G (tgt := 64) dX10_decide_42 (by decide) (fun c_1026 => ?_) (fun c_1026 => ?_)
    · replace hk := ok_f c_1026 hk
      refine v_iconst G (v := (0 : Int32)) dX10_decide_64 (by decide) ?_
      refine v_istore_n G [(2, .int (0 : Int32)), (0, .ref (adr X 0)), (1, .int v1)] dX10_decide_65 (by decide) rfl ?_
      exact v_sub (lv' := [(0, .ref (adr X 0)), (1, .int v1), (2, .int (0 : Int32))]) [1, 2, 0] rfl (v_M_decide_66 hJ hX G S v1 (0 : Int32) hk)
    · replace hk := ok_t c_1026 hk
      refine v_aload_n G 0 dX10_decide_45 rfl ?_
      refine v_getr G (ci := 10) (T := TX10) (j := 24) inX10 rfl rfl rfl (by decide) w4_119 dX10_decide_46 ?_
      refine v_aload_n G 0 dX10_decide_49 rfl ?_
      refine v_getr G (ci := 10) (T := TX10) (j := 14) inX10 rfl rfl rfl (by decide) w4_109 dX10_decide_50 ?_
      refine v_geti G (ci := 9) (T := TX9) (j := 16) inX9 rfl rfl rfl (by decide) w4_17 dX10_decide_53 ?_
      refine v_zald G rfl hk.1 dX10_decide_56 ?_
      replace hk := hk.2
      refine v_if_ne G (tgt := 64) dX10_decide_57 (by decide) (fun c_1027 => ?_) (fun c_1027 => ?_)
      · replace hk := ok_f c_1027 hk
        refine v_iconst G (v := (0 : Int32)) dX10_decide_64 (by decide) ?_
        refine v_istore_n G [(2, .int (0 : Int32)), (0, .ref (adr X 0)), (1, .int v1)] dX10_decide_65 (by decide) rfl ?_
        exact v_sub (lv' := [(0, .ref (adr X 0)), (1, .int v1), (2, .int (0 : Int32))]) [1, 2, 0] rfl (v_M_decide_66 hJ hX G S v1 (0 : Int32) hk)
      · replace hk := ok_t c_1027 hk
        refine v_iconst G (v := (1 : Int32)) dX10_decide_60 (by decide) ?_
        refine v_goto G (tgt := 65) dX10_decide_61 (by decide) ?_
        refine v_istore_n G [(2, .int (1 : Int32)), (0, .ref (adr X 0)), (1, .int v1)] dX10_decide_65 (by decide) rfl ?_
        exact v_sub (lv' := [(0, .ref (adr X 0)), (1, .int v1), (2, .int (1 : Int32))]) [1, 2, 0] rfl (v_M_decide_66 hJ hX G S v1 (1 : Int32) hk)
noncomputable def f_M_decide (S : St) : St := bnv (f_H_look S 4 5 6 1 6219) (fun S_1 => (if (S_1 4 13) = (2 : Int32) then (f_M_decide_24 S_1 (1 : Int32)) else (f_M_decide_24 S_1 (0 : Int32))))
def k_M_decide (S : St) : Prop := (k_H_look S 4 5 6 1 6219 ∧ bnv (f_H_look S 4 5 6 1 6219) (fun S_1 => (if (S_1 4 13) = (2 : Int32) then (k_M_decide_24 S_1 (1 : Int32)) else (k_M_decide_24 S_1 (0 : Int32)))))
set_option linter.unusedVariables false in
set_option maxHeartbeats 4000000 in
set_option maxRecDepth 100000 in
theorem c_M_decide (l : Launch) {X : vD} (hJ : sh_J X) (hX : shp X = shM)  (S : St) (hk : k_M_decide S) : Con l X yX10_decide cX10_decide 4 none 5 [.ref (adr X 0)] S (none, f_M_decide S) := by
  refine con_of (ρ := (fun S : St => ((none, S) : Option Value × St))) (K := f_M_decide S) hJ hX (by decide) (Nat.le_of_ble_eq_true rfl) (lv := [(0, .ref (adr X 0))]) rfl ?_
  intro p e s m below meth c G
  have G : vG p s m _ meth c X shM "SensorNodeModel" cX10_decide 4 none := G
  unfold f_M_decide
  unfold k_M_decide at hk
  refine v_aload_n G 0 dX10_decide_0 rfl ?_
  refine v_getr G (ci := 10) (T := TX10) (j := 14) inX10 rfl rfl rfl (by decide) w4_109 dX10_decide_1 ?_
  refine v_callVv G (As := []) (st := []) (c_H_look l hJ hX 4 5 6 1 6219 ⟨rfl, rfl, rfl, rfl⟩ S hk.1) (by decide) (by decide) (ci := 9) rfl rfl w5_76 w5_77 w5_78 w1_10 w5_79 qyX9_look rfl (Nat.le_of_ble_eq_true rfl) dX10_decide_4 ?_
  replace hk := hk.2
  refine v_bnv (fun S_1 eS_1 => ?_)
  replace hk := ok_v eS_1 hk
  refine v_aload_n G 0 dX10_decide_7 rfl ?_
  refine v_getr G (ci := 10) (T := TX10) (j := 14) inX10 rfl rfl rfl (by decide) w4_109 dX10_decide_8 ?_
  refine v_geti G (ci := 9) (T := TX9) (j := 13) inX9 rfl rfl rfl (by decide) w4_14 dX10_decide_11 ?_
  refine v_iconst G (v := (2 : Int32)) dX10_decide_14 (by decide) ?_
  refine v_icmp_ne G (tgt := 22) dX10_decide_15 (by decide) (fun c_2 => ?_) (fun c_2 => ?_)
  · replace hk := ok_f c_2 hk
    refine v_iconst G (v := (0 : Int32)) dX10_decide_22 (by decide) ?_
    refine v_istore_n G [(1, .int (0 : Int32)), (0, .ref (adr X 0))] dX10_decide_23 (by decide) rfl ?_
    exact v_sub (lv' := [(0, .ref (adr X 0)), (1, .int (0 : Int32))]) [1, 0] rfl (v_M_decide_24 hJ hX G S_1 (0 : Int32) hk)
  · replace hk := ok_t c_2 hk
    refine v_iconst G (v := (1 : Int32)) dX10_decide_18 (by decide) ?_
    refine v_goto G (tgt := 23) dX10_decide_19 (by decide) ?_
    refine v_istore_n G [(1, .int (1 : Int32)), (0, .ref (adr X 0))] dX10_decide_23 (by decide) rfl ?_
    exact v_sub (lv' := [(0, .ref (adr X 0)), (1, .int (1 : Int32))]) [1, 0] rfl (v_M_decide_24 hJ hX G S_1 (1 : Int32) hk)
/-! SensorNodeModel.act -/
theorem qyX10_act : yX10_act.cls ≠ "java/lang/invoke/MethodHandle" ∧ yX10_act.cls ≠ "java/lang/invoke/VarHandle" ∧ (parseMethodDescriptor yX10_act.desc).map (fun d => d.parameters.length) = some 0 := by decide +kernel
noncomputable def f_M_act (S : St) : St := bnx (S 0 22) (fun x_1 => (if x_1 = (1 : Int32) then bnv (f_M_boot S) (fun S_3 => S_3)
 else (if x_1 = (2 : Int32) then bnv (f_M_check S) (fun S_5 => S_5)
 else (if x_1 = (3 : Int32) then bnv (f_M_log S) (fun S_7 => S_7)
 else (if x_1 = (4 : Int32) then bnv (f_M_send S) (fun S_9 => S_9)
 else bnv (f_M_decide S) (fun S_10 => S_10))))))
def k_M_act (S : St) : Prop := bnx (S 0 22) (fun x_1 => (if x_1 = (1 : Int32) then k_M_boot S
 else (if x_1 = (2 : Int32) then k_M_check S
 else (if x_1 = (3 : Int32) then k_M_log S
 else (if x_1 = (4 : Int32) then k_M_send S
 else k_M_decide S)))))
set_option linter.unusedVariables false in
set_option maxHeartbeats 4000000 in
set_option maxRecDepth 100000 in
theorem c_M_act (l : Launch) {X : vD} (hJ : sh_J X) (hX : shp X = shM)  (S : St) (hk : k_M_act S) : Con l X yX10_act cX10_act 1 none 6 [.ref (adr X 0)] S (none, f_M_act S) := by
  refine con_of (ρ := (fun S : St => ((none, S) : Option Value × St))) (K := f_M_act S) hJ hX (by decide) (Nat.le_of_ble_eq_true rfl) (lv := [(0, .ref (adr X 0))]) rfl ?_
  intro p e s m below meth c G
  have G : vG p s m _ meth c X shM "SensorNodeModel" cX10_act 1 none := G
  unfold f_M_act
  unfold k_M_act at hk
  refine v_aload_n G 0 dX10_act_0 rfl ?_
  refine v_geti G (ci := 10) (T := TX10) (j := 22) inX10 rfl rfl rfl (by decide) w4_117 dX10_act_1 ?_
  refine v_namei (fun x_1 ex_1 => ?_)
  replace hk := ok_x ex_1 hk
  refine v_sw (1 : Int32) (fun h_2 => ?_) (fun h_2 => ?_)
  · replace hk := ok_t h_2 hk
    refine v_tableIn G (tgt := 36) (off := 32) dX10_act_4 (by decide) (by decide) (by decide) (by decide) ?_
    refine v_aload_n G 0 dX10_act_36 rfl ?_
    refine v_callVv G (As := []) (st := []) (c_M_boot l hJ hX S hk) (by decide) (by decide) (ci := 10) rfl rfl w5_19 w5_21 w0_34 w1_9 w5_22 qyX10_boot rfl (Nat.le_of_ble_eq_true rfl) dX10_act_37 ?_
    refine v_bnv (fun S_3 eS_3 => ?_)
    refine v_goto G (tgt := 68) dX10_act_40 (by decide) ?_
    exact v_vret G rfl rfl dX10_act_68
  replace hk := ok_f h_2 hk
  refine v_sw (2 : Int32) (fun h_4 => ?_) (fun h_4 => ?_)
  · replace hk := ok_t h_4 hk
    refine v_tableIn G (tgt := 43) (off := 39) dX10_act_4 (by decide) (by decide) (by decide) (by decide) ?_
    refine v_aload_n G 0 dX10_act_43 rfl ?_
    refine v_callVv G (As := []) (st := []) (c_M_check l hJ hX S hk) (by decide) (by decide) (ci := 10) rfl rfl w5_27 w5_29 w0_36 w1_9 w5_30 qyX10_check rfl (Nat.le_of_ble_eq_true rfl) dX10_act_44 ?_
    refine v_bnv (fun S_5 eS_5 => ?_)
    refine v_goto G (tgt := 68) dX10_act_47 (by decide) ?_
    exact v_vret G rfl rfl dX10_act_68
  replace hk := ok_f h_4 hk
  refine v_sw (3 : Int32) (fun h_6 => ?_) (fun h_6 => ?_)
  · replace hk := ok_t h_6 hk
    refine v_tableIn G (tgt := 50) (off := 46) dX10_act_4 (by decide) (by decide) (by decide) (by decide) ?_
    refine v_aload_n G 0 dX10_act_50 rfl ?_
    refine v_callVv G (As := []) (st := []) (c_M_log l hJ hX S hk) (by decide) (by decide) (ci := 10) rfl rfl w5_35 w5_37 w0_38 w1_9 w5_38 qyX10_log rfl (Nat.le_of_ble_eq_true rfl) dX10_act_51 ?_
    refine v_bnv (fun S_7 eS_7 => ?_)
    refine v_goto G (tgt := 68) dX10_act_54 (by decide) ?_
    exact v_vret G rfl rfl dX10_act_68
  replace hk := ok_f h_6 hk
  refine v_sw (4 : Int32) (fun h_8 => ?_) (fun h_8 => ?_)
  · replace hk := ok_t h_8 hk
    refine v_tableIn G (tgt := 57) (off := 53) dX10_act_4 (by decide) (by decide) (by decide) (by decide) ?_
    refine v_aload_n G 0 dX10_act_57 rfl ?_
    refine v_callVv G (As := []) (st := []) (c_M_send l hJ hX S hk) (by decide) (by decide) (ci := 10) rfl rfl w5_60 w5_62 w0_41 w1_9 w5_63 qyX10_send rfl (Nat.le_of_ble_eq_true rfl) dX10_act_58 ?_
    refine v_bnv (fun S_9 eS_9 => ?_)
    refine v_goto G (tgt := 68) dX10_act_61 (by decide) ?_
    exact v_vret G rfl rfl dX10_act_68
  replace hk := ok_f h_8 hk
  have th_2 := lv_neT (a := 1) h_2 (by decide)
  have th_4 := lv_neT (a := 2) h_4 (by decide)
  have th_6 := lv_neT (a := 3) h_6 (by decide)
  have th_8 := lv_neT (a := 4) h_8 (by decide)
  refine v_tableOut G (tgt := 64) dX10_act_4 (by omega) (by decide) ?_
  refine v_aload_n G 0 dX10_act_64 rfl ?_
  refine v_callVv G (As := []) (st := []) (c_M_decide l hJ hX S hk) (by decide) (by decide) (ci := 10) rfl rfl w5_72 w5_74 w0_42 w1_9 w5_75 qyX10_decide rfl (Nat.le_of_ble_eq_true rfl) dX10_act_65 ?_
  refine v_bnv (fun S_10 eS_10 => ?_)
  exact v_vret G rfl rfl dX10_act_68
/-! SensorNodeModel.go -/
theorem qyX10_go : yX10_go.cls ≠ "java/lang/invoke/MethodHandle" ∧ yX10_go.cls ≠ "java/lang/invoke/VarHandle" ∧ (parseMethodDescriptor yX10_go.desc).map (fun d => d.parameters.length) = some 1 := by decide +kernel
noncomputable def f_M_go_15 : Nat → St → Int32 → Int32 → Int32 × St
  | 0, S, _, _ => (0, S)
  | fn + 1, S, v1, v2 => (if v2 < v1 then (if (S 0 2) = 0 then (v2, S) else (if (S 0 21) = 0 then bnv (f_M_act S) (fun S_1019 => bnv (st_up S_1019 0 25 ((S_1019 0 25) + (1 : Int32))) (fun S_1020 => (f_M_go_15 fn S_1020 v1 (v2 + (1 : Int32))))) else (v2, S))) else (v2, S))
def k_M_go_15 : Nat → St → Int32 → Int32 → Prop
  | 0, _, _, _ => True
  | fn + 1, S, v1, v2 => (if v2 < v1 then (if (S 0 2) = 0 then True else (if (S 0 21) = 0 then (k_M_act S ∧ bnv (f_M_act S) (fun S_1019 => bnv (st_up S_1019 0 25 ((S_1019 0 25) + (1 : Int32))) (fun S_1020 => (k_M_go_15 fn S_1020 v1 (v2 + (1 : Int32)))))) else True)) else True)
set_option linter.unusedVariables false in
set_option maxHeartbeats 4000000 in
set_option maxRecDepth 100000 in
theorem v_M_go_15 {p : Program} {l : Launch} {e : Env} {s : State} {m : MethodId} {args : Array Value} {below : List Frame} {meth : Method} {c : Code} {X : vD} {ρ : Int32 × St → Option Value × St} (hρ : ∀ q : Int32 × St, ρ q = ((some (.int q.1), q.2) : Option Value × St))  (hJ : sh_J X) (hX : shp X = shM) (G : vG p s m args meth c X shM "SensorNodeModel" cX10_go 3 (some .int))  : ∀ (fuel : Nat) (S : St) (v1 v2 : Int32) , ((v1).toInt - v2.toInt).toNat < fuel → k_M_go_15 fuel S v1 v2 → V p l e 7 s m args below meth c X 3 ρ S 15 [(0, .ref (adr X 0)), (1, .int v1), (2, .int v2)] [] (f_M_go_15 fuel S v1 v2) := by
  intro fuel
  induction fuel with
  | zero =>
    intro S v1 v2 hm hk
    exact absurd hm (Nat.not_lt_zero _)
  | succ fn ih =>
    intro S v1 v2 hm hk
    rw [f_M_go_15]
    rw [k_M_go_15] at hk
    refine v_iload_n G 2 dX10_go_15 rfl ?_
    refine v_iload_n G 1 dX10_go_16 rfl ?_
    refine v_icmp_ge G (tgt := 54) dX10_go_17 (by decide) (fun c_1016 => ?_) (fun c_1016 => ?_)
    · refine v_iload_n G 2 dX10_go_54 rfl ?_
      exact v_iret G rfl (hρ _) dX10_go_55
    · replace hk := ok_t c_1016 hk
      refine v_aload_n G 0 dX10_go_20 rfl ?_
      refine v_geti G (ci := 10) (T := TX10) (j := 2) inX10 rfl rfl rfl (by decide) w4_97 dX10_go_21 ?_
      refine v_if_eq G (tgt := 54) dX10_go_24 (by decide) (fun c_1017 => ?_) (fun c_1017 => ?_)
      · refine v_iload_n G 2 dX10_go_54 rfl ?_
        exact v_iret G rfl (hρ _) dX10_go_55
      · replace hk := ok_f c_1017 hk
        refine v_aload_n G 0 dX10_go_27 rfl ?_
        refine v_geti G (ci := 10) (T := TX10) (j := 21) inX10 rfl rfl rfl (by decide) w4_116 dX10_go_28 ?_
        refine v_if_ne G (tgt := 54) dX10_go_31 (by decide) (fun c_1018 => ?_) (fun c_1018 => ?_)
        · refine v_iload_n G 2 dX10_go_54 rfl ?_
          exact v_iret G rfl (hρ _) dX10_go_55
        · replace hk := ok_t c_1018 hk
          refine v_aload_n G 0 dX10_go_34 rfl ?_
          refine v_callVv G (As := []) (st := []) (c_M_act l hJ hX S hk.1) (by decide) (by decide) (ci := 10) rfl rfl w5_15 w5_17 w0_33 w1_9 w5_18 qyX10_act rfl (Nat.le_of_ble_eq_true rfl) dX10_go_35 ?_
          replace hk := hk.2
          refine v_bnv (fun S_1019 eS_1019 => ?_)
          replace hk := ok_v eS_1019 hk
          refine v_aload_n G 0 dX10_go_38 rfl ?_
          refine v_dup G dX10_go_39 rfl ?_
          refine v_geti G (ci := 10) (T := TX10) (j := 25) inX10 rfl rfl rfl (by decide) w4_120 dX10_go_40 ?_
          refine v_iconst G (v := (1 : Int32)) dX10_go_43 (by decide) ?_
          refine v_iadd G dX10_go_44 ?_
          refine v_puti G (ci := 10) (T := TX10) (j := 25) inX10 rfl rfl tyX10_ok nmX10 rfl (by decide) rfl rfl rfl w4_120 dX10_go_45 (fun S_1020 eS_1020 => ?_)
          replace hk := ok_v eS_1020 hk
          refine v_iinc G (v := v2 + (1 : Int32)) 2 [(2, .int (v2 + (1 : Int32))), (0, .ref (adr X 0)), (1, .int v1)] dX10_go_48 rfl rfl (by decide) rfl ?_
          refine v_goto G (tgt := 15) dX10_go_51 (by decide) ?_
          exact v_sub (lv' := [(0, .ref (adr X 0)), (1, .int v1), (2, .int (v2 + (1 : Int32)))]) [1, 2, 0] rfl (ih S_1020 v1 (v2 + (1 : Int32)) (lp_m (by assumption) hm) hk)
noncomputable def f_M_go (S : St) (a1 : Int32) : Int32 × St := (if a1 < 0 then ((-1 : Int32), S) else (if (20000 : Int32) < a1 then ((-1 : Int32), S) else (f_M_go_15 fuz S a1 (0 : Int32))))
def k_M_go (S : St) (a1 : Int32) : Prop := (if a1 < 0 then True else (if (20000 : Int32) < a1 then True else (k_M_go_15 fuz S a1 (0 : Int32))))
set_option linter.unusedVariables false in
set_option maxHeartbeats 4000000 in
set_option maxRecDepth 100000 in
theorem c_M_go (l : Launch) {X : vD} (hJ : sh_J X) (hX : shp X = shM)  (S : St) (a1 : Int32) (hk : k_M_go S a1) : Con l X yX10_go cX10_go 3 (some .int) 7 [.ref (adr X 0), .int a1] S (some (.int (f_M_go S a1).1), (f_M_go S a1).2) := by
  refine con_of (ρ := (fun q : Int32 × St => ((some (.int q.1), q.2) : Option Value × St))) (K := f_M_go S a1) hJ hX (by decide) (Nat.le_of_ble_eq_true rfl) (lv := [(0, .ref (adr X 0)), (1, .int a1)]) rfl ?_
  intro p e s m below meth c G
  generalize hρ0 : (fun q : Int32 × St => ((some (.int q.1), q.2) : Option Value × St)) = ρ
  have hρ : ∀ q : Int32 × St, ρ q = ((some (.int q.1), q.2) : Option Value × St) := fun q => by rw [← hρ0]
  have G : vG p s m _ meth c X shM "SensorNodeModel" cX10_go 3 (some .int) := G
  unfold f_M_go
  unfold k_M_go at hk
  refine v_iload_n G 1 dX10_go_0 rfl ?_
  refine v_if_lt G (tgt := 11) dX10_go_1 (by decide) (fun c_1 => ?_) (fun c_1 => ?_)
  · refine v_iconst G (v := (-1 : Int32)) dX10_go_11 (by decide) ?_
    exact v_iret G rfl (hρ _) dX10_go_12
  · replace hk := ok_f c_1 hk
    refine v_iload_n G 1 dX10_go_4 rfl ?_
    refine v_sipush G (v := (20000 : Int32)) dX10_go_5 (by decide) ?_
    refine v_icmp_le G (tgt := 13) dX10_go_8 (by decide) (fun c_2 => ?_) (fun c_2 => ?_)
    · replace hk := ok_f c_2 hk
      refine v_iconst G (v := (0 : Int32)) dX10_go_13 (by decide) ?_
      refine v_istore_n G [(2, .int (0 : Int32)), (0, .ref (adr X 0)), (1, .int a1)] dX10_go_14 (by decide) rfl ?_
      exact v_sub (lv' := [(0, .ref (adr X 0)), (1, .int a1), (2, .int (0 : Int32))]) [1, 2, 0] rfl (v_M_go_15 hρ hJ hX G fuz S a1 (0 : Int32) (lp_z _ _) hk)
    · refine v_iconst G (v := (-1 : Int32)) dX10_go_11 (by decide) ?_
      exact v_iret G rfl (hρ _) dX10_go_12

/-! SensorNode$Guest.callToSend -/
theorem qyX1_callToSend : yX1_callToSend.cls ≠ "java/lang/invoke/MethodHandle" ∧ yX1_callToSend.cls ≠ "java/lang/invoke/VarHandle" ∧ (parseMethodDescriptor yX1_callToSend.desc).map (fun d => d.parameters.length) = some 0 := by decide +kernel
noncomputable def f_G_callToSend (S : St) (kg ko km ks n : Nat) : Int32 × St := bnx (S ko (11 : Int32).toNatClampNeg) (fun x_1 => (if (f_G_below S (64 : Int32) x_1) = 0 then (if x_1 = 0 then bnv (st_up S kg 5 (2 : Int32)) (fun S_4 => bnd (f_G_give S_4 kg ko km ks n ((S_4 ko (34 : Int32).toNatClampNeg) + (1 : Int32))) (fun r_6 S_5 => (r_6, S_5))) else (if (f_G_holds S kg ko km ks n (S ko (10 : Int32).toNatClampNeg) x_1) = 0 then ((13 : Int32), S) else bnv (st_up S kg 5 (2 : Int32)) (fun S_8 => bnd (f_G_give S_8 kg ko km ks n ((S_8 ko (34 : Int32).toNatClampNeg) + (1 : Int32))) (fun r_10 S_9 => (r_10, S_9))))) else ((14 : Int32), S)))
set_option linter.unusedVariables false in
set_option maxHeartbeats 4000000 in
set_option maxRecDepth 100000 in
theorem c_G_callToSend (l : Launch) {X : vD} (hJ : sh_J X) (hX : shp X = shX) (kg ko km ks n : Nat) (hG : isG kg ko km ks n) (S : St)  : Con l X yX1_callToSend cX1_callToSend 2 (some .int) 1 [.ref (adr X kg)] S (some (.int (f_G_callToSend S kg ko km ks n).1), (f_G_callToSend S kg ko km ks n).2) := by
  refine con_of (ρ := (fun q : Int32 × St => ((some (.int q.1), q.2) : Option Value × St))) (K := f_G_callToSend S kg ko km ks n) hJ hX (by decide) (Nat.le_of_ble_eq_true rfl) (lv := [(0, .ref (adr X kg))]) rfl ?_
  intro p e s m below meth c G
  generalize hρ0 : (fun q : Int32 × St => ((some (.int q.1), q.2) : Option Value × St)) = ρ
  have hρ : ∀ q : Int32 × St, ρ q = ((some (.int q.1), q.2) : Option Value × St) := fun q => by rw [← hρ0]
  have G : vG p s m _ meth c X shX "SensorNode$Guest" cX1_callToSend 2 (some .int) := G
  unfold f_G_callToSend
  refine v_aload_n G 0 dX1_callToSend_0 rfl ?_
  refine v_getr G (ci := 1) (T := TX1) (j := 1) inX1 rfl hG.1 rfl (by decide) w1_129 dX1_callToSend_1 ?_
  refine v_bipush G (v := (11 : Int32)) dX1_callToSend_4 (by decide) ?_
  refine v_iald G hG.2.1 (by unfold vp_in; decide) dX1_callToSend_6 ?_
  refine v_namei (fun x_1 ex_1 => ?_)
  refine v_istore_n G [(1, .int x_1), (0, .ref (adr X kg))] dX1_callToSend_7 (by decide) rfl ?_
  refine v_bipush G (v := (64 : Int32)) dX1_callToSend_8 (by decide) ?_
  refine v_iload_n G 0 dX1_callToSend_10 rfl ?_
  refine v_callSi G (As := [.int (64 : Int32), .int x_1]) (st := []) (c_G_below l hJ hX S (64 : Int32) x_1) (by decide) (by decide) w2_194 w2_195 w1_7 w2_196 qyX1_below rfl (Nat.le_of_ble_eq_true rfl) dX1_callToSend_11 ?_
  refine v_if_eq G (tgt := 20) dX1_callToSend_14 (by decide) (fun c_2 => ?_) (fun c_2 => ?_)
  · refine v_iload_n G 0 dX1_callToSend_20 rfl ?_
    refine v_if_eq G (tgt := 42) dX1_callToSend_21 (by decide) (fun c_3 => ?_) (fun c_3 => ?_)
    · refine v_aload_n G 1 dX1_callToSend_42 rfl ?_
      refine v_iconst G (v := (2 : Int32)) dX1_callToSend_43 (by decide) ?_
      refine v_puti G (ci := 1) (T := TX1) (j := 5) inX1 rfl hG.1 tyX1_ok nmX1 rfl (by decide) rfl rfl rfl w1_133 dX1_callToSend_44 (fun S_4 eS_4 => ?_)
      refine v_aload_n G 1 dX1_callToSend_47 rfl ?_
      refine v_aload_n G 1 dX1_callToSend_48 rfl ?_
      refine v_getr G (ci := 1) (T := TX1) (j := 1) inX1 rfl hG.1 rfl (by decide) w1_129 dX1_callToSend_49 ?_
      refine v_bipush G (v := (34 : Int32)) dX1_callToSend_52 (by decide) ?_
      refine v_iald G hG.2.1 (by unfold vp_in; decide) dX1_callToSend_54 ?_
      refine v_iconst G (v := (1 : Int32)) dX1_callToSend_55 (by decide) ?_
      refine v_iadd G dX1_callToSend_56 ?_
      refine v_callVi G (As := [.int ((S_4 ko (34 : Int32).toNatClampNeg) + (1 : Int32))]) (st := []) (c_G_give l hJ hX kg ko km ks n hG S_4 ((S_4 ko (34 : Int32).toNatClampNeg) + (1 : Int32))) (by decide) (by decide) (ci := 1) rfl hG.1 w2_175 w2_177 w0_8 w1_7 w2_178 qyX1_give rfl (Nat.le_of_ble_eq_true rfl) dX1_callToSend_57 ?_
      refine v_bnd (fun r_6 S_5 eS_5 => ?_)
      exact v_iret G rfl (hρ _) dX1_callToSend_60
    · refine v_aload_n G 1 dX1_callToSend_24 rfl ?_
      refine v_aload_n G 1 dX1_callToSend_25 rfl ?_
      refine v_getr G (ci := 1) (T := TX1) (j := 1) inX1 rfl hG.1 rfl (by decide) w1_129 dX1_callToSend_26 ?_
      refine v_bipush G (v := (10 : Int32)) dX1_callToSend_29 (by decide) ?_
      refine v_iald G hG.2.1 (by unfold vp_in; decide) dX1_callToSend_31 ?_
      refine v_iload_n G 0 dX1_callToSend_32 rfl ?_
      refine v_callVi G (As := [.int (S ko (10 : Int32).toNatClampNeg), .int x_1]) (st := []) (c_G_holds l hJ hX kg ko km ks n hG S (S ko (10 : Int32).toNatClampNeg) x_1) (by decide) (by decide) (ci := 1) rfl hG.1 w2_162 w2_163 w2_164 w1_7 w2_165 qyX1_holds rfl (Nat.le_of_ble_eq_true rfl) dX1_callToSend_33 ?_
      refine v_if_ne G (tgt := 42) dX1_callToSend_36 (by decide) (fun c_7 => ?_) (fun c_7 => ?_)
      · refine v_aload_n G 1 dX1_callToSend_42 rfl ?_
        refine v_iconst G (v := (2 : Int32)) dX1_callToSend_43 (by decide) ?_
        refine v_puti G (ci := 1) (T := TX1) (j := 5) inX1 rfl hG.1 tyX1_ok nmX1 rfl (by decide) rfl rfl rfl w1_133 dX1_callToSend_44 (fun S_8 eS_8 => ?_)
        refine v_aload_n G 1 dX1_callToSend_47 rfl ?_
        refine v_aload_n G 1 dX1_callToSend_48 rfl ?_
        refine v_getr G (ci := 1) (T := TX1) (j := 1) inX1 rfl hG.1 rfl (by decide) w1_129 dX1_callToSend_49 ?_
        refine v_bipush G (v := (34 : Int32)) dX1_callToSend_52 (by decide) ?_
        refine v_iald G hG.2.1 (by unfold vp_in; decide) dX1_callToSend_54 ?_
        refine v_iconst G (v := (1 : Int32)) dX1_callToSend_55 (by decide) ?_
        refine v_iadd G dX1_callToSend_56 ?_
        refine v_callVi G (As := [.int ((S_8 ko (34 : Int32).toNatClampNeg) + (1 : Int32))]) (st := []) (c_G_give l hJ hX kg ko km ks n hG S_8 ((S_8 ko (34 : Int32).toNatClampNeg) + (1 : Int32))) (by decide) (by decide) (ci := 1) rfl hG.1 w2_175 w2_177 w0_8 w1_7 w2_178 qyX1_give rfl (Nat.le_of_ble_eq_true rfl) dX1_callToSend_57 ?_
        refine v_bnd (fun r_10 S_9 eS_9 => ?_)
        exact v_iret G rfl (hρ _) dX1_callToSend_60
      · refine v_bipush G (v := (13 : Int32)) dX1_callToSend_39 (by decide) ?_
        exact v_iret G rfl (hρ _) dX1_callToSend_41
  · refine v_bipush G (v := (14 : Int32)) dX1_callToSend_17 (by decide) ?_
    exact v_iret G rfl (hρ _) dX1_callToSend_19
/-! SensorNode$Guest.call -/
theorem qyX1_call : yX1_call.cls ≠ "java/lang/invoke/MethodHandle" ∧ yX1_call.cls ≠ "java/lang/invoke/VarHandle" ∧ (parseMethodDescriptor yX1_call.desc).map (fun d => d.parameters.length) = some 0 := by decide +kernel
noncomputable def f_G_call (S : St) (kg ko km ks n : Nat) : Int32 × St := bnv (st_up S kg 6 (10 : Int32)) (fun S_1 => bnx (S_1 ko (17 : Int32).toNatClampNeg) (fun x_2 => (if x_2 = (1 : Int32) then bnv (st_up S_1 kg 5 (1 : Int32)) (fun S_4 => bnd (f_G_give S_4 kg ko km ks n (f_L_sampleAt S_4 (S_4 ko (33 : Int32).toNatClampNeg))) (fun r_6 S_5 => (r_6, S_5)))
 else (if x_2 = (2 : Int32) then bnd (f_G_callToSend S_1 kg ko km ks n) (fun r_9 S_8 => (r_9, S_8))
 else (if x_2 = (3 : Int32) then ((6 : Int32), S_1)
 else ((11 : Int32), S_1))))))
set_option linter.unusedVariables false in
set_option maxHeartbeats 4000000 in
set_option maxRecDepth 100000 in
theorem c_G_call (l : Launch) {X : vD} (hJ : sh_J X) (hX : shp X = shX) (kg ko km ks n : Nat) (hG : isG kg ko km ks n) (S : St)  : Con l X yX1_call cX1_call 1 (some .int) 2 [.ref (adr X kg)] S (some (.int (f_G_call S kg ko km ks n).1), (f_G_call S kg ko km ks n).2) := by
  refine con_of (ρ := (fun q : Int32 × St => ((some (.int q.1), q.2) : Option Value × St))) (K := f_G_call S kg ko km ks n) hJ hX (by decide) (Nat.le_of_ble_eq_true rfl) (lv := [(0, .ref (adr X kg))]) rfl ?_
  intro p e s m below meth c G
  generalize hρ0 : (fun q : Int32 × St => ((some (.int q.1), q.2) : Option Value × St)) = ρ
  have hρ : ∀ q : Int32 × St, ρ q = ((some (.int q.1), q.2) : Option Value × St) := fun q => by rw [← hρ0]
  have G : vG p s m _ meth c X shX "SensorNode$Guest" cX1_call 1 (some .int) := G
  unfold f_G_call
  refine v_aload_n G 0 dX1_call_0 rfl ?_
  refine v_bipush G (v := (10 : Int32)) dX1_call_1 (by decide) ?_
  refine v_puti G (ci := 1) (T := TX1) (j := 6) inX1 rfl hG.1 tyX1_ok nmX1 rfl (by decide) rfl rfl rfl w1_134 dX1_call_3 (fun S_1 eS_1 => ?_)
  refine v_aload_n G 0 dX1_call_6 rfl ?_
  refine v_getr G (ci := 1) (T := TX1) (j := 1) inX1 rfl hG.1 rfl (by decide) w1_129 dX1_call_7 ?_
  refine v_bipush G (v := (17 : Int32)) dX1_call_10 (by decide) ?_
  refine v_iald G hG.2.1 (by unfold vp_in; decide) dX1_call_12 ?_
  refine v_namei (fun x_2 ex_2 => ?_)
  refine v_sw (1 : Int32) (fun h_3 => ?_) (fun h_3 => ?_)
  · refine v_tableIn G (tgt := 40) (off := 27) dX1_call_13 (by decide) (by decide) (by decide) (by decide) ?_
    refine v_aload_n G 0 dX1_call_40 rfl ?_
    refine v_iconst G (v := (1 : Int32)) dX1_call_41 (by decide) ?_
    refine v_puti G (ci := 1) (T := TX1) (j := 5) inX1 rfl hG.1 tyX1_ok nmX1 rfl (by decide) rfl rfl rfl w1_133 dX1_call_42 (fun S_4 eS_4 => ?_)
    refine v_aload_n G 0 dX1_call_45 rfl ?_
    refine v_aload_n G 0 dX1_call_46 rfl ?_
    refine v_getr G (ci := 1) (T := TX1) (j := 0) inX1 rfl hG.1 rfl (by decide) w1_128 dX1_call_47 ?_
    refine v_aload_n G 0 dX1_call_50 rfl ?_
    refine v_getr G (ci := 1) (T := TX1) (j := 1) inX1 rfl hG.1 rfl (by decide) w1_129 dX1_call_51 ?_
    refine v_bipush G (v := (33 : Int32)) dX1_call_54 (by decide) ?_
    refine v_iald G hG.2.1 (by unfold vp_in; decide) dX1_call_56 ?_
    refine v_callVi G (As := [.int (S_4 ko (33 : Int32).toNatClampNeg)]) (st := [.ref (adr X kg)]) (c_L_sampleAt l hJ hX S_4 (S_4 ko (33 : Int32).toNatClampNeg)) (by decide) (by decide) (ci := 4) rfl rfl w2_222 w2_223 w2_224 w1_2 w2_225 qyX4_sampleAt rfl (Nat.le_of_ble_eq_true rfl) dX1_call_57 ?_
    refine v_callVi G (As := [.int (f_L_sampleAt S_4 (S_4 ko (33 : Int32).toNatClampNeg))]) (st := []) (c_G_give l hJ hX kg ko km ks n hG S_4 (f_L_sampleAt S_4 (S_4 ko (33 : Int32).toNatClampNeg))) (by decide) (by decide) (ci := 1) rfl hG.1 w2_175 w2_177 w0_8 w1_7 w2_178 qyX1_give rfl (Nat.le_of_ble_eq_true rfl) dX1_call_60 ?_
    refine v_bnd (fun r_6 S_5 eS_5 => ?_)
    exact v_iret G rfl (hρ _) dX1_call_63
  refine v_sw (2 : Int32) (fun h_7 => ?_) (fun h_7 => ?_)
  · refine v_tableIn G (tgt := 64) (off := 51) dX1_call_13 (by decide) (by decide) (by decide) (by decide) ?_
    refine v_aload_n G 0 dX1_call_64 rfl ?_
    refine v_callVi G (As := []) (st := []) (c_G_callToSend l hJ hX kg ko km ks n hG S_1) (by decide) (by decide) (ci := 1) rfl hG.1 w2_226 w2_228 w0_16 w1_7 w2_229 qyX1_callToSend rfl (Nat.le_of_ble_eq_true rfl) dX1_call_65 ?_
    refine v_bnd (fun r_9 S_8 eS_8 => ?_)
    exact v_iret G rfl (hρ _) dX1_call_68
  refine v_sw (3 : Int32) (fun h_10 => ?_) (fun h_10 => ?_)
  · refine v_tableIn G (tgt := 69) (off := 56) dX1_call_13 (by decide) (by decide) (by decide) (by decide) ?_
    refine v_bipush G (v := (6 : Int32)) dX1_call_69 (by decide) ?_
    exact v_iret G rfl (hρ _) dX1_call_71
  have th_3 := lv_neT (a := 1) h_3 (by decide)
  have th_7 := lv_neT (a := 2) h_7 (by decide)
  have th_10 := lv_neT (a := 3) h_10 (by decide)
  refine v_tableOut G (tgt := 72) dX1_call_13 (by omega) (by decide) ?_
  refine v_bipush G (v := (11 : Int32)) dX1_call_72 (by decide) ?_
  exact v_iret G rfl (hρ _) dX1_call_74
/-! SensorNode$Guest.look -/
theorem qyX1_look : yX1_look.cls ≠ "java/lang/invoke/MethodHandle" ∧ yX1_look.cls ≠ "java/lang/invoke/VarHandle" ∧ (parseMethodDescriptor yX1_look.desc).map (fun d => d.parameters.length) = some 0 := by decide +kernel
noncomputable def f_G_look (S : St) (kg ko km ks n : Nat) : Int32 × St := bnx (S ko (32 : Int32).toNatClampNeg) (fun x_1 => bnv (st_up S kg 5 (0 : Int32)) (fun S_2 => bnv (st_up S_2 kg 6 (0 : Int32)) (fun S_3 => bnv (st_up S_3 kg 7 (0 : Int32)) (fun S_4 => bnv (st_up S_4 kg 8 (x_1 + (4 : Int32))) (fun S_5 => bnx (f_G_trapOfPlace S_5 kg ko km ks n x_1 (4 : Int32)) (fun x_6 => (if x_6 = 0 then bnx (f_G_wordAt S_5 kg ko km ks n x_1) (fun x_8 => bnx (S_5 ko ((ush x_8 (15 : Int32)) &&& (31 : Int32)).toNatClampNeg) (fun x_9 => bnx (S_5 ko ((ush x_8 (20 : Int32)) &&& (31 : Int32)).toNatClampNeg) (fun x_10 => bnx ((ush x_8 (12 : Int32)) &&& (7 : Int32)) (fun x_11 => bnx (x_8 >>> ((20 : Int32) &&& 31)) (fun x_12 => bnv (st_up S_5 kg 6 ((ush x_8 (7 : Int32)) &&& (31 : Int32))) (fun S_13 => bnx (x_8 &&& (127 : Int32)) (fun x_14 => (if x_14 = (3 : Int32) then bnd (f_G_load S_13 kg ko km ks n x_11 (x_9 + x_12)) (fun r_17 S_16 => (r_17, S_16))
 else (if x_14 = (15 : Int32) then bnv (st_up S_13 kg 6 (0 : Int32)) (fun S_19 => (if x_11 = 0 then ((0 : Int32), S_19) else ((11 : Int32), S_19)))
 else (if x_14 = (19 : Int32) then bnd (f_G_withNumber S_13 kg ko km ks n x_11 (ush x_8 (25 : Int32)) x_9 x_12) (fun r_23 S_22 => (r_23, S_22))
 else (if x_14 = (23 : Int32) then bnd (f_G_give S_13 kg ko km ks n (x_1 + (x_8 &&& (-4096 : Int32)))) (fun r_26 S_25 => (r_26, S_25))
 else (if x_14 = (35 : Int32) then bnv (st_up S_13 kg 6 (0 : Int32)) (fun S_28 => bnd (f_G_storeAt S_28 kg ko km ks n x_11 (x_9 + (((x_8 >>> ((25 : Int32) &&& 31)) <<< ((5 : Int32) &&& 31)) ||| ((ush x_8 (7 : Int32)) &&& (31 : Int32)))) x_10) (fun r_30 S_29 => (r_30, S_29)))
 else (if x_14 = (51 : Int32) then bnd (f_G_withRegister S_13 kg ko km ks n x_11 (ush x_8 (25 : Int32)) x_9 x_10) (fun r_33 S_32 => (r_33, S_32))
 else (if x_14 = (55 : Int32) then bnd (f_G_give S_13 kg ko km ks n (x_8 &&& (-4096 : Int32))) (fun r_36 S_35 => (r_36, S_35))
 else (if x_14 = (99 : Int32) then bnv (st_up S_13 kg 6 (0 : Int32)) (fun S_38 => bnd (f_G_branch S_38 kg ko km ks n x_11 x_9 x_10 (x_1 + (f_G_branchOffset S_38 x_8))) (fun r_40 S_39 => (r_40, S_39)))
 else (if x_14 = (103 : Int32) then (if x_11 = 0 then bnd (f_G_jump S_13 kg ko km ks n ((x_9 + x_12) &&& (-2 : Int32)) (x_1 + (4 : Int32))) (fun r_44 S_43 => (r_44, S_43)) else ((11 : Int32), S_13))
 else (if x_14 = (111 : Int32) then bnd (f_G_jump S_13 kg ko km ks n (x_1 + (f_G_jumpOffset S_13 x_8)) (x_1 + (4 : Int32))) (fun r_47 S_46 => (r_47, S_46))
 else (if x_14 = (115 : Int32) then (if x_8 = (115 : Int32) then bnd (f_G_call S_13 kg ko km ks n) (fun r_51 S_50 => (r_51, S_50)) else ((11 : Int32), S_13))
 else ((11 : Int32), S_13))))))))))))))))))) else (x_6, S_5))))))))
set_option linter.unusedVariables false in
set_option maxHeartbeats 4000000 in
set_option maxRecDepth 100000 in
theorem c_G_look (l : Launch) {X : vD} (hJ : sh_J X) (hX : shp X = shX) (kg ko km ks n : Nat) (hG : isG kg ko km ks n) (S : St)  : Con l X yX1_look cX1_look 8 (some .int) 3 [.ref (adr X kg)] S (some (.int (f_G_look S kg ko km ks n).1), (f_G_look S kg ko km ks n).2) := by
  refine con_of (ρ := (fun q : Int32 × St => ((some (.int q.1), q.2) : Option Value × St))) (K := f_G_look S kg ko km ks n) hJ hX (by decide) (Nat.le_of_ble_eq_true rfl) (lv := [(0, .ref (adr X kg))]) rfl ?_
  intro p e s m below meth c G
  generalize hρ0 : (fun q : Int32 × St => ((some (.int q.1), q.2) : Option Value × St)) = ρ
  have hρ : ∀ q : Int32 × St, ρ q = ((some (.int q.1), q.2) : Option Value × St) := fun q => by rw [← hρ0]
  have G : vG p s m _ meth c X shX "SensorNode$Guest" cX1_look 8 (some .int) := G
  unfold f_G_look
  refine v_aload_n G 0 dX1_look_0 rfl ?_
  refine v_getr G (ci := 1) (T := TX1) (j := 1) inX1 rfl hG.1 rfl (by decide) w1_129 dX1_look_1 ?_
  refine v_bipush G (v := (32 : Int32)) dX1_look_4 (by decide) ?_
  refine v_iald G hG.2.1 (by unfold vp_in; decide) dX1_look_6 ?_
  refine v_namei (fun x_1 ex_1 => ?_)
  refine v_istore_n G [(1, .int x_1), (0, .ref (adr X kg))] dX1_look_7 (by decide) rfl ?_
  refine v_aload_n G 1 dX1_look_8 rfl ?_
  refine v_iconst G (v := (0 : Int32)) dX1_look_9 (by decide) ?_
  refine v_puti G (ci := 1) (T := TX1) (j := 5) inX1 rfl hG.1 tyX1_ok nmX1 rfl (by decide) rfl rfl rfl w1_133 dX1_look_10 (fun S_2 eS_2 => ?_)
  refine v_aload_n G 1 dX1_look_13 rfl ?_
  refine v_iconst G (v := (0 : Int32)) dX1_look_14 (by decide) ?_
  refine v_puti G (ci := 1) (T := TX1) (j := 6) inX1 rfl hG.1 tyX1_ok nmX1 rfl (by decide) rfl rfl rfl w1_134 dX1_look_15 (fun S_3 eS_3 => ?_)
  refine v_aload_n G 1 dX1_look_18 rfl ?_
  refine v_iconst G (v := (0 : Int32)) dX1_look_19 (by decide) ?_
  refine v_puti G (ci := 1) (T := TX1) (j := 7) inX1 rfl hG.1 tyX1_ok nmX1 rfl (by decide) rfl rfl rfl w1_135 dX1_look_20 (fun S_4 eS_4 => ?_)
  refine v_aload_n G 1 dX1_look_23 rfl ?_
  refine v_iload_n G 0 dX1_look_24 rfl ?_
  refine v_iconst G (v := (4 : Int32)) dX1_look_25 (by decide) ?_
  refine v_iadd G dX1_look_26 ?_
  refine v_puti G (ci := 1) (T := TX1) (j := 8) inX1 rfl hG.1 tyX1_ok nmX1 rfl (by decide) rfl rfl rfl w1_136 dX1_look_27 (fun S_5 eS_5 => ?_)
  refine v_aload_n G 1 dX1_look_30 rfl ?_
  refine v_iload_n G 0 dX1_look_31 rfl ?_
  refine v_iconst G (v := (4 : Int32)) dX1_look_32 (by decide) ?_
  refine v_callVi G (As := [.int x_1, .int (4 : Int32)]) (st := []) (c_G_trapOfPlace l hJ hX kg ko km ks n hG S_5 x_1 (4 : Int32)) (by decide) (by decide) (ci := 1) rfl hG.1 w2_158 w2_160 w0_6 w1_7 w2_161 qyX1_trapOfPlace rfl (Nat.le_of_ble_eq_true rfl) dX1_look_33 ?_
  refine v_namei (fun x_6 ex_6 => ?_)
  refine v_istore_n G [(2, .int x_6), (1, .int x_1), (0, .ref (adr X kg))] dX1_look_36 (by decide) rfl ?_
  refine v_iload_n G 0 dX1_look_37 rfl ?_
  refine v_if_eq G (tgt := 43) dX1_look_38 (by decide) (fun c_7 => ?_) (fun c_7 => ?_)
  · refine v_aload_n G 2 dX1_look_43 rfl ?_
    refine v_iload_n G 1 dX1_look_44 rfl ?_
    refine v_callVi G (As := [.int x_1]) (st := []) (c_G_wordAt l hJ hX kg ko km ks n hG S_5 x_1) (by decide) (by decide) (ci := 1) rfl hG.1 w2_167 w2_169 w0_7 w1_7 w2_170 qyX1_wordAt rfl (Nat.le_of_ble_eq_true rfl) dX1_look_45 ?_
    refine v_namei (fun x_8 ex_8 => ?_)
    refine v_istore_n G [(3, .int x_8), (2, .int x_6), (1, .int x_1), (0, .ref (adr X kg))] dX1_look_48 (by decide) rfl ?_
    refine v_aload_n G 3 dX1_look_49 rfl ?_
    refine v_getr G (ci := 1) (T := TX1) (j := 1) inX1 rfl hG.1 rfl (by decide) w1_129 dX1_look_50 ?_
    refine v_iload_n G 0 dX1_look_53 rfl ?_
    refine v_bipush G (v := (15 : Int32)) dX1_look_54 (by decide) ?_
    refine v_iushr G dX1_look_56 ?_
    refine v_bipush G (v := (31 : Int32)) dX1_look_57 (by decide) ?_
    refine v_iand G dX1_look_59 ?_
    refine v_iald G hG.2.1 (vi_mask 5 (by decide) (by decide) (by decide)) dX1_look_60 ?_
    refine v_namei (fun x_9 ex_9 => ?_)
    refine v_istore G [(4, .int x_9), (3, .int x_8), (2, .int x_6), (1, .int x_1), (0, .ref (adr X kg))] dX1_look_61 (by decide) rfl ?_
    refine v_aload_n G 4 dX1_look_63 rfl ?_
    refine v_getr G (ci := 1) (T := TX1) (j := 1) inX1 rfl hG.1 rfl (by decide) w1_129 dX1_look_64 ?_
    refine v_iload_n G 1 dX1_look_67 rfl ?_
    refine v_bipush G (v := (20 : Int32)) dX1_look_68 (by decide) ?_
    refine v_iushr G dX1_look_70 ?_
    refine v_bipush G (v := (31 : Int32)) dX1_look_71 (by decide) ?_
    refine v_iand G dX1_look_73 ?_
    refine v_iald G hG.2.1 (vi_mask 5 (by decide) (by decide) (by decide)) dX1_look_74 ?_
    refine v_namei (fun x_10 ex_10 => ?_)
    refine v_istore G [(5, .int x_10), (4, .int x_9), (3, .int x_8), (2, .int x_6), (1, .int x_1), (0, .ref (adr X kg))] dX1_look_75 (by decide) rfl ?_
    refine v_iload_n G 2 dX1_look_77 rfl ?_
    refine v_bipush G (v := (12 : Int32)) dX1_look_78 (by decide) ?_
    refine v_iushr G dX1_look_80 ?_
    refine v_bipush G (v := (7 : Int32)) dX1_look_81 (by decide) ?_
    refine v_iand G dX1_look_83 ?_
    refine v_namei (fun x_11 ex_11 => ?_)
    refine v_istore G [(6, .int x_11), (5, .int x_10), (4, .int x_9), (3, .int x_8), (2, .int x_6), (1, .int x_1), (0, .ref (adr X kg))] dX1_look_84 (by decide) rfl ?_
    refine v_iload_n G 3 dX1_look_86 rfl ?_
    refine v_bipush G (v := (20 : Int32)) dX1_look_87 (by decide) ?_
    refine v_ishr G dX1_look_89 ?_
    refine v_namei (fun x_12 ex_12 => ?_)
    refine v_istore G [(7, .int x_12), (6, .int x_11), (5, .int x_10), (4, .int x_9), (3, .int x_8), (2, .int x_6), (1, .int x_1), (0, .ref (adr X kg))] dX1_look_90 (by decide) rfl ?_
    refine v_aload_n G 7 dX1_look_92 rfl ?_
    refine v_iload_n G 4 dX1_look_93 rfl ?_
    refine v_bipush G (v := (7 : Int32)) dX1_look_94 (by decide) ?_
    refine v_iushr G dX1_look_96 ?_
    refine v_bipush G (v := (31 : Int32)) dX1_look_97 (by decide) ?_
    refine v_iand G dX1_look_99 ?_
    refine v_puti G (ci := 1) (T := TX1) (j := 6) inX1 rfl hG.1 tyX1_ok nmX1 rfl (by decide) rfl rfl rfl w1_134 dX1_look_100 (fun S_13 eS_13 => ?_)
    refine v_iload_n G 4 dX1_look_103 rfl ?_
    refine v_bipush G (v := (127 : Int32)) dX1_look_104 (by decide) ?_
    refine v_iand G dX1_look_106 ?_
    refine v_namei (fun x_14 ex_14 => ?_)
    refine v_sw (3 : Int32) (fun h_15 => ?_) (fun h_15 => ?_)
    · refine v_lookup G (tgt := 288) (off := 181) dX1_look_107 (by decide) (by decide) (by decide) ?_
      refine v_aload_n G 7 dX1_look_288 rfl ?_
      refine v_iload G 1 dX1_look_289 rfl ?_
      refine v_iload G 3 dX1_look_291 rfl ?_
      refine v_iload G 0 dX1_look_293 rfl ?_
      refine v_iadd G dX1_look_295 ?_
      refine v_callVi G (As := [.int x_11, .int (x_9 + x_12)]) (st := []) (c_G_load l hJ hX kg ko km ks n hG S_13 x_11 (x_9 + x_12)) (by decide) (by decide) (ci := 1) rfl hG.1 w2_198 w2_200 w0_11 w1_7 w2_201 qyX1_load rfl (Nat.le_of_ble_eq_true rfl) dX1_look_296 ?_
      refine v_bnd (fun r_17 S_16 eS_16 => ?_)
      exact v_iret G rfl (hρ _) dX1_look_299
    refine v_sw (15 : Int32) (fun h_18 => ?_) (fun h_18 => ?_)
    · refine v_lookup G (tgt := 361) (off := 254) dX1_look_107 (by decide) (by decide) (by decide) ?_
      refine v_aload_n G 7 dX1_look_361 rfl ?_
      refine v_iconst G (v := (0 : Int32)) dX1_look_362 (by decide) ?_
      refine v_puti G (ci := 1) (T := TX1) (j := 6) inX1 rfl hG.1 tyX1_ok nmX1 rfl (by decide) rfl rfl rfl w1_134 dX1_look_363 (fun S_19 eS_19 => ?_)
      refine v_iload G 1 dX1_look_366 rfl ?_
      refine v_if_ne G (tgt := 375) dX1_look_368 (by decide) (fun c_20 => ?_) (fun c_20 => ?_)
      · refine v_bipush G (v := (11 : Int32)) dX1_look_375 (by decide) ?_
        exact v_iret G rfl (hρ _) dX1_look_377
      · refine v_iconst G (v := (0 : Int32)) dX1_look_371 (by decide) ?_
        refine v_goto G (tgt := 377) dX1_look_372 (by decide) ?_
        exact v_iret G rfl (hρ _) dX1_look_377
    refine v_sw (19 : Int32) (fun h_21 => ?_) (fun h_21 => ?_)
    · refine v_lookup G (tgt := 331) (off := 224) dX1_look_107 (by decide) (by decide) (by decide) ?_
      refine v_aload_n G 7 dX1_look_331 rfl ?_
      refine v_iload G 1 dX1_look_332 rfl ?_
      refine v_iload_n G 4 dX1_look_334 rfl ?_
      refine v_bipush G (v := (25 : Int32)) dX1_look_335 (by decide) ?_
      refine v_iushr G dX1_look_337 ?_
      refine v_iload G 3 dX1_look_338 rfl ?_
      refine v_iload G 0 dX1_look_340 rfl ?_
      refine v_callVi G (As := [.int x_11, .int (ush x_8 (25 : Int32)), .int x_9, .int x_12]) (st := []) (c_G_withNumber l hJ hX kg ko km ks n hG S_13 x_11 (ush x_8 (25 : Int32)) x_9 x_12) (by decide) (by decide) (ci := 1) rfl hG.1 w2_207 w2_209 w0_13 w1_7 w2_210 qyX1_withNumber rfl (Nat.le_of_ble_eq_true rfl) dX1_look_342 ?_
      refine v_bnd (fun r_23 S_22 eS_22 => ?_)
      exact v_iret G rfl (hρ _) dX1_look_345
    refine v_sw (23 : Int32) (fun h_24 => ?_) (fun h_24 => ?_)
    · refine v_lookup G (tgt := 214) (off := 107) dX1_look_107 (by decide) (by decide) (by decide) ?_
      refine v_aload_n G 7 dX1_look_214 rfl ?_
      refine v_iload_n G 6 dX1_look_215 rfl ?_
      refine v_iload_n G 4 dX1_look_216 rfl ?_
      refine v_sipush G (v := (-4096 : Int32)) dX1_look_217 (by decide) ?_
      refine v_iand G dX1_look_220 ?_
      refine v_iadd G dX1_look_221 ?_
      refine v_callVi G (As := [.int (x_1 + (x_8 &&& (-4096 : Int32)))]) (st := []) (c_G_give l hJ hX kg ko km ks n hG S_13 (x_1 + (x_8 &&& (-4096 : Int32)))) (by decide) (by decide) (ci := 1) rfl hG.1 w2_175 w2_177 w0_8 w1_7 w2_178 qyX1_give rfl (Nat.le_of_ble_eq_true rfl) dX1_look_222 ?_
      refine v_bnd (fun r_26 S_25 eS_25 => ?_)
      exact v_iret G rfl (hρ _) dX1_look_225
    refine v_sw (35 : Int32) (fun h_27 => ?_) (fun h_27 => ?_)
    · refine v_lookup G (tgt := 300) (off := 193) dX1_look_107 (by decide) (by decide) (by decide) ?_
      refine v_aload_n G 7 dX1_look_300 rfl ?_
      refine v_iconst G (v := (0 : Int32)) dX1_look_301 (by decide) ?_
      refine v_puti G (ci := 1) (T := TX1) (j := 6) inX1 rfl hG.1 tyX1_ok nmX1 rfl (by decide) rfl rfl rfl w1_134 dX1_look_302 (fun S_28 eS_28 => ?_)
      refine v_aload_n G 7 dX1_look_305 rfl ?_
      refine v_iload G 1 dX1_look_306 rfl ?_
      refine v_iload G 3 dX1_look_308 rfl ?_
      refine v_iload_n G 4 dX1_look_310 rfl ?_
      refine v_bipush G (v := (25 : Int32)) dX1_look_311 (by decide) ?_
      refine v_ishr G dX1_look_313 ?_
      refine v_iconst G (v := (5 : Int32)) dX1_look_314 (by decide) ?_
      refine v_ishl G dX1_look_315 ?_
      refine v_iload_n G 4 dX1_look_316 rfl ?_
      refine v_bipush G (v := (7 : Int32)) dX1_look_317 (by decide) ?_
      refine v_iushr G dX1_look_319 ?_
      refine v_bipush G (v := (31 : Int32)) dX1_look_320 (by decide) ?_
      refine v_iand G dX1_look_322 ?_
      refine v_ior G dX1_look_323 ?_
      refine v_iadd G dX1_look_324 ?_
      refine v_iload G 2 dX1_look_325 rfl ?_
      refine v_callVi G (As := [.int x_11, .int (x_9 + (((x_8 >>> ((25 : Int32) &&& 31)) <<< ((5 : Int32) &&& 31)) ||| ((ush x_8 (7 : Int32)) &&& (31 : Int32)))), .int x_10]) (st := []) (c_G_storeAt l hJ hX kg ko km ks n hG S_28 x_11 (x_9 + (((x_8 >>> ((25 : Int32) &&& 31)) <<< ((5 : Int32) &&& 31)) ||| ((ush x_8 (7 : Int32)) &&& (31 : Int32)))) x_10) (by decide) (by decide) (ci := 1) rfl hG.1 w2_203 w2_205 w0_12 w1_7 w2_206 qyX1_storeAt rfl (Nat.le_of_ble_eq_true rfl) dX1_look_327 ?_
      refine v_bnd (fun r_30 S_29 eS_29 => ?_)
      exact v_iret G rfl (hρ _) dX1_look_330
    refine v_sw (51 : Int32) (fun h_31 => ?_) (fun h_31 => ?_)
    · refine v_lookup G (tgt := 346) (off := 239) dX1_look_107 (by decide) (by decide) (by decide) ?_
      refine v_aload_n G 7 dX1_look_346 rfl ?_
      refine v_iload G 1 dX1_look_347 rfl ?_
      refine v_iload_n G 4 dX1_look_349 rfl ?_
      refine v_bipush G (v := (25 : Int32)) dX1_look_350 (by decide) ?_
      refine v_iushr G dX1_look_352 ?_
      refine v_iload G 3 dX1_look_353 rfl ?_
      refine v_iload G 2 dX1_look_355 rfl ?_
      refine v_callVi G (As := [.int x_11, .int (ush x_8 (25 : Int32)), .int x_9, .int x_10]) (st := []) (c_G_withRegister l hJ hX kg ko km ks n hG S_13 x_11 (ush x_8 (25 : Int32)) x_9 x_10) (by decide) (by decide) (ci := 1) rfl hG.1 w2_214 w2_216 w0_14 w1_7 w2_217 qyX1_withRegister rfl (Nat.le_of_ble_eq_true rfl) dX1_look_357 ?_
      refine v_bnd (fun r_33 S_32 eS_32 => ?_)
      exact v_iret G rfl (hρ _) dX1_look_360
    refine v_sw (55 : Int32) (fun h_34 => ?_) (fun h_34 => ?_)
    · refine v_lookup G (tgt := 204) (off := 97) dX1_look_107 (by decide) (by decide) (by decide) ?_
      refine v_aload_n G 7 dX1_look_204 rfl ?_
      refine v_iload_n G 4 dX1_look_205 rfl ?_
      refine v_sipush G (v := (-4096 : Int32)) dX1_look_206 (by decide) ?_
      refine v_iand G dX1_look_209 ?_
      refine v_callVi G (As := [.int (x_8 &&& (-4096 : Int32))]) (st := []) (c_G_give l hJ hX kg ko km ks n hG S_13 (x_8 &&& (-4096 : Int32))) (by decide) (by decide) (ci := 1) rfl hG.1 w2_175 w2_177 w0_8 w1_7 w2_178 qyX1_give rfl (Nat.le_of_ble_eq_true rfl) dX1_look_210 ?_
      refine v_bnd (fun r_36 S_35 eS_35 => ?_)
      exact v_iret G rfl (hρ _) dX1_look_213
    refine v_sw (99 : Int32) (fun h_37 => ?_) (fun h_37 => ?_)
    · refine v_lookup G (tgt := 266) (off := 159) dX1_look_107 (by decide) (by decide) (by decide) ?_
      refine v_aload_n G 7 dX1_look_266 rfl ?_
      refine v_iconst G (v := (0 : Int32)) dX1_look_267 (by decide) ?_
      refine v_puti G (ci := 1) (T := TX1) (j := 6) inX1 rfl hG.1 tyX1_ok nmX1 rfl (by decide) rfl rfl rfl w1_134 dX1_look_268 (fun S_38 eS_38 => ?_)
      refine v_aload_n G 7 dX1_look_271 rfl ?_
      refine v_iload G 1 dX1_look_272 rfl ?_
      refine v_iload G 3 dX1_look_274 rfl ?_
      refine v_iload G 2 dX1_look_276 rfl ?_
      refine v_iload_n G 6 dX1_look_278 rfl ?_
      refine v_iload_n G 4 dX1_look_279 rfl ?_
      refine v_callSi G (As := [.int x_8]) (st := [.int x_1, .int x_10, .int x_9, .int x_11, .ref (adr X kg)]) (c_G_branchOffset l hJ hX S_38 x_8) (by decide) (by decide) w2_187 w2_188 w1_7 w2_189 qyX1_branchOffset rfl (Nat.le_of_ble_eq_true rfl) dX1_look_280 ?_
      refine v_iadd G dX1_look_283 ?_
      refine v_callVi G (As := [.int x_11, .int x_9, .int x_10, .int (x_1 + (f_G_branchOffset S_38 x_8))]) (st := []) (c_G_branch l hJ hX kg ko km ks n hG S_38 x_11 x_9 x_10 (x_1 + (f_G_branchOffset S_38 x_8))) (by decide) (by decide) (ci := 1) rfl hG.1 w2_190 w2_192 w0_10 w1_7 w2_193 qyX1_branch rfl (Nat.le_of_ble_eq_true rfl) dX1_look_284 ?_
      refine v_bnd (fun r_40 S_39 eS_39 => ?_)
      exact v_iret G rfl (hρ _) dX1_look_287
    refine v_sw (103 : Int32) (fun h_41 => ?_) (fun h_41 => ?_)
    · refine v_lookup G (tgt := 240) (off := 133) dX1_look_107 (by decide) (by decide) (by decide) ?_
      refine v_iload G 1 dX1_look_240 rfl ?_
      refine v_if_ne G (tgt := 263) dX1_look_242 (by decide) (fun c_42 => ?_) (fun c_42 => ?_)
      · refine v_bipush G (v := (11 : Int32)) dX1_look_263 (by decide) ?_
        exact v_iret G rfl (hρ _) dX1_look_265
      · refine v_aload_n G 7 dX1_look_245 rfl ?_
        refine v_iload G 3 dX1_look_246 rfl ?_
        refine v_iload G 0 dX1_look_248 rfl ?_
        refine v_iadd G dX1_look_250 ?_
        refine v_bipush G (v := (-2 : Int32)) dX1_look_251 (by decide) ?_
        refine v_iand G dX1_look_253 ?_
        refine v_iload_n G 6 dX1_look_254 rfl ?_
        refine v_iconst G (v := (4 : Int32)) dX1_look_255 (by decide) ?_
        refine v_iadd G dX1_look_256 ?_
        refine v_callVi G (As := [.int ((x_9 + x_12) &&& (-2 : Int32)), .int (x_1 + (4 : Int32))]) (st := []) (c_G_jump l hJ hX kg ko km ks n hG S_13 ((x_9 + x_12) &&& (-2 : Int32)) (x_1 + (4 : Int32))) (by decide) (by decide) (ci := 1) rfl hG.1 w2_183 w2_185 w0_9 w1_7 w2_186 qyX1_jump rfl (Nat.le_of_ble_eq_true rfl) dX1_look_257 ?_
        refine v_bnd (fun r_44 S_43 eS_43 => ?_)
        refine v_goto G (tgt := 265) dX1_look_260 (by decide) ?_
        exact v_iret G rfl (hρ _) dX1_look_265
    refine v_sw (111 : Int32) (fun h_45 => ?_) (fun h_45 => ?_)
    · refine v_lookup G (tgt := 226) (off := 119) dX1_look_107 (by decide) (by decide) (by decide) ?_
      refine v_aload_n G 7 dX1_look_226 rfl ?_
      refine v_iload_n G 6 dX1_look_227 rfl ?_
      refine v_iload_n G 4 dX1_look_228 rfl ?_
      refine v_callSi G (As := [.int x_8]) (st := [.int x_1, .ref (adr X kg)]) (c_G_jumpOffset l hJ hX S_13 x_8) (by decide) (by decide) w2_179 w2_180 w1_7 w2_181 qyX1_jumpOffset rfl (Nat.le_of_ble_eq_true rfl) dX1_look_229 ?_
      refine v_iadd G dX1_look_232 ?_
      refine v_iload_n G 6 dX1_look_233 rfl ?_
      refine v_iconst G (v := (4 : Int32)) dX1_look_234 (by decide) ?_
      refine v_iadd G dX1_look_235 ?_
      refine v_callVi G (As := [.int (x_1 + (f_G_jumpOffset S_13 x_8)), .int (x_1 + (4 : Int32))]) (st := []) (c_G_jump l hJ hX kg ko km ks n hG S_13 (x_1 + (f_G_jumpOffset S_13 x_8)) (x_1 + (4 : Int32))) (by decide) (by decide) (ci := 1) rfl hG.1 w2_183 w2_185 w0_9 w1_7 w2_186 qyX1_jump rfl (Nat.le_of_ble_eq_true rfl) dX1_look_236 ?_
      refine v_bnd (fun r_47 S_46 eS_46 => ?_)
      exact v_iret G rfl (hρ _) dX1_look_239
    refine v_sw (115 : Int32) (fun h_48 => ?_) (fun h_48 => ?_)
    · refine v_lookup G (tgt := 378) (off := 271) dX1_look_107 (by decide) (by decide) (by decide) ?_
      refine v_iload_n G 4 dX1_look_378 rfl ?_
      refine v_bipush G (v := (115 : Int32)) dX1_look_379 (by decide) ?_
      refine v_icmp_ne G (tgt := 391) dX1_look_381 (by decide) (fun c_49 => ?_) (fun c_49 => ?_)
      · refine v_bipush G (v := (11 : Int32)) dX1_look_391 (by decide) ?_
        exact v_iret G rfl (hρ _) dX1_look_393
      · refine v_aload_n G 7 dX1_look_384 rfl ?_
        refine v_callVi G (As := []) (st := []) (c_G_call l hJ hX kg ko km ks n hG S_13) (by decide) (by decide) (ci := 1) rfl hG.1 w2_218 w2_220 w0_15 w1_7 w2_221 qyX1_call rfl (Nat.le_of_ble_eq_true rfl) dX1_look_385 ?_
        refine v_bnd (fun r_51 S_50 eS_50 => ?_)
        refine v_goto G (tgt := 393) dX1_look_388 (by decide) ?_
        exact v_iret G rfl (hρ _) dX1_look_393
    refine v_lookup G (tgt := 394) (off := 287) dX1_look_107 (by decide) (by show Op.lookupswitch.offset [(3, 181), (15, 254), (19, 224), (23, 107), (35, 193), (51, 239), (55, 97), (99, 159), (103, 133), (111, 119), (115, 271)] _ _ = _; rw [lv_osw h_15 (by decide), lv_osw h_18 (by decide), lv_osw h_21 (by decide), lv_osw h_24 (by decide), lv_osw h_27 (by decide), lv_osw h_31 (by decide), lv_osw h_34 (by decide), lv_osw h_37 (by decide), lv_osw h_41 (by decide), lv_osw h_45 (by decide), lv_osw h_48 (by decide)]; rfl) (by decide) ?_
    refine v_bipush G (v := (11 : Int32)) dX1_look_394 (by decide) ?_
    exact v_iret G rfl (hρ _) dX1_look_396
  · refine v_iload_n G 0 dX1_look_41 rfl ?_
    exact v_iret G rfl (hρ _) dX1_look_42
/-! SensorNode$Guest.finish -/
theorem qyX1_finish : yX1_finish.cls ≠ "java/lang/invoke/MethodHandle" ∧ yX1_finish.cls ≠ "java/lang/invoke/VarHandle" ∧ (parseMethodDescriptor yX1_finish.desc).map (fun d => d.parameters.length) = some 0 := by decide +kernel
noncomputable def f_G_finish_98 (S : St) (kg ko km ks n : Nat) : St := bnv (st_up S ko (32 : Int32).toNatClampNeg (S kg 8)) (fun S_1099 => bnv (st_up S_1099 ko (35 : Int32).toNatClampNeg ((S_1099 ko (35 : Int32).toNatClampNeg) + (1 : Int32))) (fun S_1100 => S_1100))
set_option linter.unusedVariables false in
set_option maxHeartbeats 4000000 in
set_option maxRecDepth 100000 in
theorem v_G_finish_98 {p : Program} {l : Launch} {e : Env} {s : State} {m : MethodId} {args : Array Value} {below : List Frame} {meth : Method} {c : Code} {X : vD}  (hJ : sh_J X) (hX : shp X = shX) {kg ko km ks n : Nat} (G : vG p s m args meth c X shX "SensorNode$Guest" cX1_finish 1 none) (hG : isG kg ko km ks n) (S : St)   : V p l e 2 s m args below meth c X 1 (fun S : St => ((none, S) : Option Value × St)) S 98 [(0, .ref (adr X kg))] [] (f_G_finish_98 S kg ko km ks n) := by
  unfold f_G_finish_98
  refine v_aload_n G 0 dX1_finish_98 rfl ?_
  refine v_getr G (ci := 1) (T := TX1) (j := 1) inX1 rfl hG.1 rfl (by decide) w1_129 dX1_finish_99 ?_
  refine v_bipush G (v := (32 : Int32)) dX1_finish_102 (by decide) ?_
  refine v_aload_n G 0 dX1_finish_104 rfl ?_
  refine v_geti G (ci := 1) (T := TX1) (j := 8) inX1 rfl hG.1 rfl (by decide) w1_136 dX1_finish_105 ?_
  refine v_iast G hG.2.1 (by unfold vp_in; decide) dX1_finish_108 (fun S_1099 eS_1099 => ?_)
  refine v_aload_n G 0 dX1_finish_109 rfl ?_
  refine v_getr G (ci := 1) (T := TX1) (j := 1) inX1 rfl hG.1 rfl (by decide) w1_129 dX1_finish_110 ?_
  refine v_bipush G (v := (35 : Int32)) dX1_finish_113 (by decide) ?_
  refine v_dup2 G dX1_finish_115 rfl rfl ?_
  refine v_iald G hG.2.1 (by unfold vp_in; decide) dX1_finish_116 ?_
  refine v_iconst G (v := (1 : Int32)) dX1_finish_117 (by decide) ?_
  refine v_iadd G dX1_finish_118 ?_
  refine v_iast G hG.2.1 (by unfold vp_in; decide) dX1_finish_119 (fun S_1100 eS_1100 => ?_)
  exact v_vret G rfl rfl dX1_finish_120
noncomputable def f_G_finish_79 (S : St) (kg ko km ks n : Nat) : St := (if (S kg 5) = (2 : Int32) then bnv (st_up S ko (34 : Int32).toNatClampNeg ((S ko (34 : Int32).toNatClampNeg) + (1 : Int32))) (fun S_1081 => (f_G_finish_98 S_1081 kg ko km ks n)) else (f_G_finish_98 S kg ko km ks n))
set_option linter.unusedVariables false in
set_option maxHeartbeats 4000000 in
set_option maxRecDepth 100000 in
theorem v_G_finish_79 {p : Program} {l : Launch} {e : Env} {s : State} {m : MethodId} {args : Array Value} {below : List Frame} {meth : Method} {c : Code} {X : vD}  (hJ : sh_J X) (hX : shp X = shX) {kg ko km ks n : Nat} (G : vG p s m args meth c X shX "SensorNode$Guest" cX1_finish 1 none) (hG : isG kg ko km ks n) (S : St)   : V p l e 2 s m args below meth c X 1 (fun S : St => ((none, S) : Option Value × St)) S 79 [(0, .ref (adr X kg))] [] (f_G_finish_79 S kg ko km ks n) := by
  unfold f_G_finish_79
  refine v_aload_n G 0 dX1_finish_79 rfl ?_
  refine v_geti G (ci := 1) (T := TX1) (j := 5) inX1 rfl hG.1 rfl (by decide) w1_133 dX1_finish_80 ?_
  refine v_iconst G (v := (2 : Int32)) dX1_finish_83 (by decide) ?_
  refine v_icmp_ne G (tgt := 98) dX1_finish_84 (by decide) (fun c_1080 => ?_) (fun c_1080 => ?_)
  · exact v_sub (lv' := [(0, .ref (adr X kg))]) [0] rfl (v_G_finish_98 hJ hX G hG S)
  · refine v_aload_n G 0 dX1_finish_87 rfl ?_
    refine v_getr G (ci := 1) (T := TX1) (j := 1) inX1 rfl hG.1 rfl (by decide) w1_129 dX1_finish_88 ?_
    refine v_bipush G (v := (34 : Int32)) dX1_finish_91 (by decide) ?_
    refine v_dup2 G dX1_finish_93 rfl rfl ?_
    refine v_iald G hG.2.1 (by unfold vp_in; decide) dX1_finish_94 ?_
    refine v_iconst G (v := (1 : Int32)) dX1_finish_95 (by decide) ?_
    refine v_iadd G dX1_finish_96 ?_
    refine v_iast G hG.2.1 (by unfold vp_in; decide) dX1_finish_97 (fun S_1081 eS_1081 => ?_)
    exact v_sub (lv' := [(0, .ref (adr X kg))]) [0] rfl (v_G_finish_98 hJ hX G hG S_1081)
noncomputable def f_G_finish_60 (S : St) (kg ko km ks n : Nat) : St := (if (S kg 5) = (1 : Int32) then bnv (st_up S ko (33 : Int32).toNatClampNeg ((S ko (33 : Int32).toNatClampNeg) + (1 : Int32))) (fun S_1062 => (f_G_finish_79 S_1062 kg ko km ks n)) else (f_G_finish_79 S kg ko km ks n))
set_option linter.unusedVariables false in
set_option maxHeartbeats 4000000 in
set_option maxRecDepth 100000 in
theorem v_G_finish_60 {p : Program} {l : Launch} {e : Env} {s : State} {m : MethodId} {args : Array Value} {below : List Frame} {meth : Method} {c : Code} {X : vD}  (hJ : sh_J X) (hX : shp X = shX) {kg ko km ks n : Nat} (G : vG p s m args meth c X shX "SensorNode$Guest" cX1_finish 1 none) (hG : isG kg ko km ks n) (S : St)   : V p l e 2 s m args below meth c X 1 (fun S : St => ((none, S) : Option Value × St)) S 60 [(0, .ref (adr X kg))] [] (f_G_finish_60 S kg ko km ks n) := by
  unfold f_G_finish_60
  refine v_aload_n G 0 dX1_finish_60 rfl ?_
  refine v_geti G (ci := 1) (T := TX1) (j := 5) inX1 rfl hG.1 rfl (by decide) w1_133 dX1_finish_61 ?_
  refine v_iconst G (v := (1 : Int32)) dX1_finish_64 (by decide) ?_
  refine v_icmp_ne G (tgt := 79) dX1_finish_65 (by decide) (fun c_1061 => ?_) (fun c_1061 => ?_)
  · exact v_sub (lv' := [(0, .ref (adr X kg))]) [0] rfl (v_G_finish_79 hJ hX G hG S)
  · refine v_aload_n G 0 dX1_finish_68 rfl ?_
    refine v_getr G (ci := 1) (T := TX1) (j := 1) inX1 rfl hG.1 rfl (by decide) w1_129 dX1_finish_69 ?_
    refine v_bipush G (v := (33 : Int32)) dX1_finish_72 (by decide) ?_
    refine v_dup2 G dX1_finish_74 rfl rfl ?_
    refine v_iald G hG.2.1 (by unfold vp_in; decide) dX1_finish_75 ?_
    refine v_iconst G (v := (1 : Int32)) dX1_finish_76 (by decide) ?_
    refine v_iadd G dX1_finish_77 ?_
    refine v_iast G hG.2.1 (by unfold vp_in; decide) dX1_finish_78 (fun S_1062 eS_1062 => ?_)
    exact v_sub (lv' := [(0, .ref (adr X kg))]) [0] rfl (v_G_finish_79 hJ hX G hG S_1062)
noncomputable def f_G_finish (S : St) (kg ko km ks n : Nat) : St := (if (S kg 5) = (3 : Int32) then bnv (f_G_putWord S kg ko km ks n (S kg 9) (S kg 7)) (fun S_2 => (f_G_finish_60 S_2 kg ko km ks n)) else (if (S kg 5) = (4 : Int32) then bnv (f_G_putWord S kg ko km ks n (S kg 9) (S kg 7)) (fun S_7 => (f_G_finish_60 S_7 kg ko km ks n)) else (if 0 < (S kg 6) then (if (S kg 6) < (32 : Int32) then bnv (st_up S ko (S kg 6).toNatClampNeg (S kg 7)) (fun S_6 => (f_G_finish_60 S_6 kg ko km ks n)) else (f_G_finish_60 S kg ko km ks n)) else (f_G_finish_60 S kg ko km ks n))))
set_option linter.unusedVariables false in
set_option maxHeartbeats 4000000 in
set_option maxRecDepth 100000 in
theorem c_G_finish (l : Launch) {X : vD} (hJ : sh_J X) (hX : shp X = shX) (kg ko km ks n : Nat) (hG : isG kg ko km ks n) (S : St)  : Con l X yX1_finish cX1_finish 1 none 2 [.ref (adr X kg)] S (none, f_G_finish S kg ko km ks n) := by
  refine con_of (ρ := (fun S : St => ((none, S) : Option Value × St))) (K := f_G_finish S kg ko km ks n) hJ hX (by decide) (Nat.le_of_ble_eq_true rfl) (lv := [(0, .ref (adr X kg))]) rfl ?_
  intro p e s m below meth c G
  have G : vG p s m _ meth c X shX "SensorNode$Guest" cX1_finish 1 none := G
  unfold f_G_finish
  refine v_aload_n G 0 dX1_finish_0 rfl ?_
  refine v_geti G (ci := 1) (T := TX1) (j := 5) inX1 rfl hG.1 rfl (by decide) w1_133 dX1_finish_1 ?_
  refine v_iconst G (v := (3 : Int32)) dX1_finish_4 (by decide) ?_
  refine v_icmp_eq G (tgt := 16) dX1_finish_5 (by decide) (fun c_1 => ?_) (fun c_1 => ?_)
  · refine v_aload_n G 0 dX1_finish_16 rfl ?_
    refine v_aload_n G 0 dX1_finish_17 rfl ?_
    refine v_geti G (ci := 1) (T := TX1) (j := 9) inX1 rfl hG.1 rfl (by decide) w1_137 dX1_finish_18 ?_
    refine v_aload_n G 0 dX1_finish_21 rfl ?_
    refine v_geti G (ci := 1) (T := TX1) (j := 7) inX1 rfl hG.1 rfl (by decide) w1_135 dX1_finish_22 ?_
    refine v_callVv G (As := [.int (S kg 9), .int (S kg 7)]) (st := []) (c_G_putWord l hJ hX kg ko km ks n hG S (S kg 9) (S kg 7)) (by decide) (by decide) (ci := 1) rfl hG.1 w3_64 w3_66 w0_25 w1_7 w3_67 qyX1_putWord rfl (Nat.le_of_ble_eq_true rfl) dX1_finish_25 ?_
    refine v_bnv (fun S_2 eS_2 => ?_)
    refine v_goto G (tgt := 60) dX1_finish_28 (by decide) ?_
    exact v_sub (lv' := [(0, .ref (adr X kg))]) [0] rfl (v_G_finish_60 hJ hX G hG S_2)
  · refine v_aload_n G 0 dX1_finish_8 rfl ?_
    refine v_geti G (ci := 1) (T := TX1) (j := 5) inX1 rfl hG.1 rfl (by decide) w1_133 dX1_finish_9 ?_
    refine v_iconst G (v := (4 : Int32)) dX1_finish_12 (by decide) ?_
    refine v_icmp_ne G (tgt := 31) dX1_finish_13 (by decide) (fun c_3 => ?_) (fun c_3 => ?_)
    · refine v_aload_n G 0 dX1_finish_31 rfl ?_
      refine v_geti G (ci := 1) (T := TX1) (j := 6) inX1 rfl hG.1 rfl (by decide) w1_134 dX1_finish_32 ?_
      refine v_if_le G (tgt := 60) dX1_finish_35 (by decide) (fun c_4 => ?_) (fun c_4 => ?_)
      · exact v_sub (lv' := [(0, .ref (adr X kg))]) [0] rfl (v_G_finish_60 hJ hX G hG S)
      · refine v_aload_n G 0 dX1_finish_38 rfl ?_
        refine v_geti G (ci := 1) (T := TX1) (j := 6) inX1 rfl hG.1 rfl (by decide) w1_134 dX1_finish_39 ?_
        refine v_bipush G (v := (32 : Int32)) dX1_finish_42 (by decide) ?_
        refine v_icmp_ge G (tgt := 60) dX1_finish_44 (by decide) (fun c_5 => ?_) (fun c_5 => ?_)
        · exact v_sub (lv' := [(0, .ref (adr X kg))]) [0] rfl (v_G_finish_60 hJ hX G hG S)
        · refine v_aload_n G 0 dX1_finish_47 rfl ?_
          refine v_getr G (ci := 1) (T := TX1) (j := 1) inX1 rfl hG.1 rfl (by decide) w1_129 dX1_finish_48 ?_
          refine v_aload_n G 0 dX1_finish_51 rfl ?_
          refine v_geti G (ci := 1) (T := TX1) (j := 6) inX1 rfl hG.1 rfl (by decide) w1_134 dX1_finish_52 ?_
          refine v_aload_n G 0 dX1_finish_55 rfl ?_
          refine v_geti G (ci := 1) (T := TX1) (j := 7) inX1 rfl hG.1 rfl (by decide) w1_135 dX1_finish_56 ?_
          refine v_iast G hG.2.1 (vi_tgt (by assumption) (by assumption)) dX1_finish_59 (fun S_6 eS_6 => ?_)
          exact v_sub (lv' := [(0, .ref (adr X kg))]) [0] rfl (v_G_finish_60 hJ hX G hG S_6)
    · refine v_aload_n G 0 dX1_finish_16 rfl ?_
      refine v_aload_n G 0 dX1_finish_17 rfl ?_
      refine v_geti G (ci := 1) (T := TX1) (j := 9) inX1 rfl hG.1 rfl (by decide) w1_137 dX1_finish_18 ?_
      refine v_aload_n G 0 dX1_finish_21 rfl ?_
      refine v_geti G (ci := 1) (T := TX1) (j := 7) inX1 rfl hG.1 rfl (by decide) w1_135 dX1_finish_22 ?_
      refine v_callVv G (As := [.int (S kg 9), .int (S kg 7)]) (st := []) (c_G_putWord l hJ hX kg ko km ks n hG S (S kg 9) (S kg 7)) (by decide) (by decide) (ci := 1) rfl hG.1 w3_64 w3_66 w0_25 w1_7 w3_67 qyX1_putWord rfl (Nat.le_of_ble_eq_true rfl) dX1_finish_25 ?_
      refine v_bnv (fun S_7 eS_7 => ?_)
      refine v_goto G (tgt := 60) dX1_finish_28 (by decide) ?_
      exact v_sub (lv' := [(0, .ref (adr X kg))]) [0] rfl (v_G_finish_60 hJ hX G hG S_7)

/-! SensorNodeModel.sample -/
theorem qyX10_sample : yX10_sample.cls ≠ "java/lang/invoke/MethodHandle" ∧ yX10_sample.cls ≠ "java/lang/invoke/VarHandle" ∧ (parseMethodDescriptor yX10_sample.desc).map (fun d => d.parameters.length) = some 1 := by decide +kernel
noncomputable def f_M_sample (S : St) (a1 : Int32) : Int32 × St := (if (S 0 0) = 0 then ((-1 : Int32), S) else (if (S 0 1) = 0 then (if (S 4 11) = (1000 : Int32) then ((-1 : Int32), S) else bnv (st_up S 3 (S 4 11).toNatClampNeg a1) (fun S_4 => bnv (st_up S_4 4 11 ((S_4 4 11) + (1 : Int32))) (fun S_5 => bnv (st_up S_5 7 11 (S_5 4 11)) (fun S_6 => (S_6 4 11, S_6))))) else ((-1 : Int32), S)))
def k_M_sample (S : St) (a1 : Int32) : Prop := (if (S 0 0) = 0 then True else (if (S 0 1) = 0 then (if (S 4 11) = (1000 : Int32) then True else vp_in (S 4 11) 1000) else True))
set_option linter.unusedVariables false in
set_option maxHeartbeats 4000000 in
set_option maxRecDepth 100000 in
theorem c_M_sample (l : Launch) {X : vD} (hJ : sh_J X) (hX : shp X = shM)  (S : St) (a1 : Int32) (hk : k_M_sample S a1) : Con l X yX10_sample cX10_sample 2 (some .int) 0 [.ref (adr X 0), .int a1] S (some (.int (f_M_sample S a1).1), (f_M_sample S a1).2) := by
  refine con_of (ρ := (fun q : Int32 × St => ((some (.int q.1), q.2) : Option Value × St))) (K := f_M_sample S a1) hJ hX (by decide) (Nat.le_of_ble_eq_true rfl) (lv := [(0, .ref (adr X 0)), (1, .int a1)]) rfl ?_
  intro p e s m below meth c G
  generalize hρ0 : (fun q : Int32 × St => ((some (.int q.1), q.2) : Option Value × St)) = ρ
  have hρ : ∀ q : Int32 × St, ρ q = ((some (.int q.1), q.2) : Option Value × St) := fun q => by rw [← hρ0]
  have G : vG p s m _ meth c X shM "SensorNodeModel" cX10_sample 2 (some .int) := G
  unfold f_M_sample
  unfold k_M_sample at hk
  refine v_aload_n G 0 dX10_sample_0 rfl ?_
  refine v_geti G (ci := 10) (T := TX10) (j := 0) inX10 rfl rfl rfl (by decide) w4_95 dX10_sample_1 ?_
  refine v_if_eq G (tgt := 27) dX10_sample_4 (by decide) (fun c_1 => ?_) (fun c_1 => ?_)
  · refine v_iconst G (v := (-1 : Int32)) dX10_sample_27 (by decide) ?_
    exact v_iret G rfl (hρ _) dX10_sample_28
  · replace hk := ok_f c_1 hk
    refine v_aload_n G 0 dX10_sample_7 rfl ?_
    refine v_geti G (ci := 10) (T := TX10) (j := 1) inX10 rfl rfl rfl (by decide) w4_96 dX10_sample_8 ?_
    refine v_if_ne G (tgt := 27) dX10_sample_11 (by decide) (fun c_2 => ?_) (fun c_2 => ?_)
    · refine v_iconst G (v := (-1 : Int32)) dX10_sample_27 (by decide) ?_
      exact v_iret G rfl (hρ _) dX10_sample_28
    · replace hk := ok_t c_2 hk
      refine v_aload_n G 0 dX10_sample_14 rfl ?_
      refine v_getr G (ci := 10) (T := TX10) (j := 14) inX10 rfl rfl rfl (by decide) w4_109 dX10_sample_15 ?_
      refine v_geti G (ci := 9) (T := TX9) (j := 11) inX9 rfl rfl rfl (by decide) w4_9 dX10_sample_18 ?_
      refine v_sipush G (v := (1000 : Int32)) dX10_sample_21 (by decide) ?_
      refine v_icmp_ne G (tgt := 29) dX10_sample_24 (by decide) (fun c_3 => ?_) (fun c_3 => ?_)
      · replace hk := ok_f c_3 hk
        refine v_aload_n G 0 dX10_sample_29 rfl ?_
        refine v_getr G (ci := 10) (T := TX10) (j := 13) inX10 rfl rfl rfl (by decide) w4_108 dX10_sample_30 ?_
        refine v_aload_n G 0 dX10_sample_33 rfl ?_
        refine v_getr G (ci := 10) (T := TX10) (j := 14) inX10 rfl rfl rfl (by decide) w4_109 dX10_sample_34 ?_
        refine v_geti G (ci := 9) (T := TX9) (j := 11) inX9 rfl rfl rfl (by decide) w4_9 dX10_sample_37 ?_
        refine v_iload_n G 1 dX10_sample_40 rfl ?_
        refine v_iast G rfl hk dX10_sample_41 (fun S_4 eS_4 => ?_)
        refine v_aload_n G 0 dX10_sample_42 rfl ?_
        refine v_getr G (ci := 10) (T := TX10) (j := 14) inX10 rfl rfl rfl (by decide) w4_109 dX10_sample_43 ?_
        refine v_dup G dX10_sample_46 rfl ?_
        refine v_geti G (ci := 9) (T := TX9) (j := 11) inX9 rfl rfl rfl (by decide) w4_9 dX10_sample_47 ?_
        refine v_iconst G (v := (1 : Int32)) dX10_sample_50 (by decide) ?_
        refine v_iadd G dX10_sample_51 ?_
        refine v_puti G (ci := 9) (T := TX9) (j := 11) inX9 rfl rfl tyX9_ok nmX9 rfl (by decide) rfl rfl rfl w4_9 dX10_sample_52 (fun S_5 eS_5 => ?_)
        refine v_aload_n G 0 dX10_sample_55 rfl ?_
        refine v_getr G (ci := 10) (T := TX10) (j := 15) inX10 rfl rfl rfl (by decide) w4_110 dX10_sample_56 ?_
        refine v_aload_n G 0 dX10_sample_59 rfl ?_
        refine v_getr G (ci := 10) (T := TX10) (j := 14) inX10 rfl rfl rfl (by decide) w4_109 dX10_sample_60 ?_
        refine v_geti G (ci := 9) (T := TX9) (j := 11) inX9 rfl rfl rfl (by decide) w4_9 dX10_sample_63 ?_
        refine v_puti G (ci := 9) (T := TX9) (j := 11) inX9 rfl rfl tyX9_ok nmX9 rfl (by decide) rfl rfl rfl w4_9 dX10_sample_66 (fun S_6 eS_6 => ?_)
        refine v_aload_n G 0 dX10_sample_69 rfl ?_
        refine v_getr G (ci := 10) (T := TX10) (j := 14) inX10 rfl rfl rfl (by decide) w4_109 dX10_sample_70 ?_
        refine v_geti G (ci := 9) (T := TX9) (j := 11) inX9 rfl rfl rfl (by decide) w4_9 dX10_sample_73 ?_
        exact v_iret G rfl (hρ _) dX10_sample_76
      · refine v_iconst G (v := (-1 : Int32)) dX10_sample_27 (by decide) ?_
        exact v_iret G rfl (hρ _) dX10_sample_28
/-! SensorNodeModel.generation -/
theorem qyX10_generation : yX10_generation.cls ≠ "java/lang/invoke/MethodHandle" ∧ yX10_generation.cls ≠ "java/lang/invoke/VarHandle" ∧ (parseMethodDescriptor yX10_generation.desc).map (fun d => d.parameters.length) = some 0 := by decide +kernel
noncomputable def f_M_generation (S : St) : Int32 := S 1 (0 : Int32).toNatClampNeg
set_option linter.unusedVariables false in
set_option maxHeartbeats 4000000 in
set_option maxRecDepth 100000 in
theorem c_M_generation (l : Launch) {X : vD} (hJ : sh_J X) (hX : shp X = shM)  (S : St)  : Con l X yX10_generation cX10_generation 1 (some .int) 0 [.ref (adr X 0)] S (some (.int (f_M_generation S)), S) := by
  refine con_of (ρ := (fun r : Int32 => ((some (.int r), S) : Option Value × St))) (K := f_M_generation S) hJ hX (by decide) (Nat.le_of_ble_eq_true rfl) (lv := [(0, .ref (adr X 0))]) rfl ?_
  intro p e s m below meth c G
  have G : vG p s m _ meth c X shM "SensorNodeModel" cX10_generation 1 (some .int) := G
  unfold f_M_generation
  refine v_aload_n G 0 dX10_generation_0 rfl ?_
  refine v_getr G (ci := 10) (T := TX10) (j := 11) inX10 rfl rfl rfl (by decide) w4_106 dX10_generation_1 ?_
  refine v_iconst G (v := (0 : Int32)) dX10_generation_4 (by decide) ?_
  refine v_iald G rfl (by unfold vp_in; decide) dX10_generation_5 ?_
  exact v_iret G rfl rfl dX10_generation_6
/-! SensorNodeModel.bufferAt -/
theorem qyX10_bufferAt : yX10_bufferAt.cls ≠ "java/lang/invoke/MethodHandle" ∧ yX10_bufferAt.cls ≠ "java/lang/invoke/VarHandle" ∧ (parseMethodDescriptor yX10_bufferAt.desc).map (fun d => d.parameters.length) = some 1 := by decide +kernel
noncomputable def f_M_bufferAt (S : St) (a1 : Int32) : Int32 := (3 : Int32) + ((a1 &&& (1 : Int32)) * ((36 : Int32) + ((S 0 3) / (4 : Int32))))
set_option linter.unusedVariables false in
set_option maxHeartbeats 4000000 in
set_option maxRecDepth 100000 in
theorem c_M_bufferAt (l : Launch) {X : vD} (hJ : sh_J X) (hX : shp X = shM)  (S : St) (a1 : Int32)  : Con l X yX10_bufferAt cX10_bufferAt 2 (some .int) 0 [.ref (adr X 0), .int a1] S (some (.int (f_M_bufferAt S a1)), S) := by
  refine con_of (ρ := (fun r : Int32 => ((some (.int r), S) : Option Value × St))) (K := f_M_bufferAt S a1) hJ hX (by decide) (Nat.le_of_ble_eq_true rfl) (lv := [(0, .ref (adr X 0)), (1, .int a1)]) rfl ?_
  intro p e s m below meth c G
  have G : vG p s m _ meth c X shM "SensorNodeModel" cX10_bufferAt 2 (some .int) := G
  unfold f_M_bufferAt
  refine v_iconst G (v := (3 : Int32)) dX10_bufferAt_0 (by decide) ?_
  refine v_iload_n G 1 dX10_bufferAt_1 rfl ?_
  refine v_iconst G (v := (1 : Int32)) dX10_bufferAt_2 (by decide) ?_
  refine v_iand G dX10_bufferAt_3 ?_
  refine v_bipush G (v := (36 : Int32)) dX10_bufferAt_4 (by decide) ?_
  refine v_aload_n G 0 dX10_bufferAt_6 rfl ?_
  refine v_geti G (ci := 10) (T := TX10) (j := 3) inX10 rfl rfl rfl (by decide) w4_98 dX10_bufferAt_7 ?_
  refine v_iconst G (v := (4 : Int32)) dX10_bufferAt_10 (by decide) ?_
  refine v_idiv G dX10_bufferAt_11 (by decide) ?_
  refine v_iadd G dX10_bufferAt_12 ?_
  refine v_imul G dX10_bufferAt_13 ?_
  refine v_iadd G dX10_bufferAt_14 ?_
  exact v_iret G rfl rfl dX10_bufferAt_15
/-! SensorNodeModel.counting -/
theorem qyX10_counting : yX10_counting.cls ≠ "java/lang/invoke/MethodHandle" ∧ yX10_counting.cls ≠ "java/lang/invoke/VarHandle" ∧ (parseMethodDescriptor yX10_counting.desc).map (fun d => d.parameters.length) = some 0 := by decide +kernel
noncomputable def f_M_counting (S : St) : Int32 := (S 1 (1 : Int32).toNatClampNeg) &&& (65535 : Int32)
set_option linter.unusedVariables false in
set_option maxHeartbeats 4000000 in
set_option maxRecDepth 100000 in
theorem c_M_counting (l : Launch) {X : vD} (hJ : sh_J X) (hX : shp X = shM)  (S : St)  : Con l X yX10_counting cX10_counting 1 (some .int) 0 [.ref (adr X 0)] S (some (.int (f_M_counting S)), S) := by
  refine con_of (ρ := (fun r : Int32 => ((some (.int r), S) : Option Value × St))) (K := f_M_counting S) hJ hX (by decide) (Nat.le_of_ble_eq_true rfl) (lv := [(0, .ref (adr X 0))]) rfl ?_
  intro p e s m below meth c G
  have G : vG p s m _ meth c X shM "SensorNodeModel" cX10_counting 1 (some .int) := G
  unfold f_M_counting
  refine v_aload_n G 0 dX10_counting_0 rfl ?_
  refine v_getr G (ci := 10) (T := TX10) (j := 11) inX10 rfl rfl rfl (by decide) w4_106 dX10_counting_1 ?_
  refine v_iconst G (v := (1 : Int32)) dX10_counting_4 (by decide) ?_
  refine v_iald G rfl (by unfold vp_in; decide) dX10_counting_5 ?_
  refine v_ldc G (v := (65535 : Int32)) dX10_counting_6 w5_2 ?_
  refine v_iand G dX10_counting_8 ?_
  exact v_iret G rfl rfl dX10_counting_9
/-! SensorNodeModel.forgetEntries -/
theorem qyX10_forgetEntries : yX10_forgetEntries.cls ≠ "java/lang/invoke/MethodHandle" ∧ yX10_forgetEntries.cls ≠ "java/lang/invoke/VarHandle" ∧ (parseMethodDescriptor yX10_forgetEntries.desc).map (fun d => d.parameters.length) = some 0 := by decide +kernel
noncomputable def f_M_forgetEntries_2 : Nat → St → Int32 → St
  | 0, S, _ => S
  | fn + 1, S, v1 => (if v1 < (2048 : Int32) then bnv (st_up S 21 v1.toNatClampNeg (vp_nar .boolean (0 : Int32))) (fun S_1004 => (f_M_forgetEntries_2 fn S_1004 (v1 + (1 : Int32)))) else S)
set_option linter.unusedVariables false in
set_option maxHeartbeats 4000000 in
set_option maxRecDepth 100000 in
theorem v_M_forgetEntries_2 {p : Program} {l : Launch} {e : Env} {s : State} {m : MethodId} {args : Array Value} {below : List Frame} {meth : Method} {c : Code} {X : vD}  (hJ : sh_J X) (hX : shp X = shM) (G : vG p s m args meth c X shM "SensorNodeModel" cX10_forgetEntries 2 none)  : ∀ (fuel : Nat) (S : St) (v1 : Int32) , (((2048 : Int32)).toInt - v1.toInt).toNat < fuel → ¬ v1 < 0 → V p l e 0 s m args below meth c X 2 (fun S : St => ((none, S) : Option Value × St)) S 2 [(0, .ref (adr X 0)), (1, .int v1)] [] (f_M_forgetEntries_2 fuel S v1) := by
  intro fuel
  induction fuel with
  | zero =>
    intro S v1 hm hi
    exact absurd hm (Nat.not_lt_zero _)
  | succ fn ih =>
    intro S v1 hm hi
    rw [f_M_forgetEntries_2]
    refine v_iload_n G 1 dX10_forgetEntries_2 rfl ?_
    refine v_sipush G (v := (2048 : Int32)) dX10_forgetEntries_3 (by decide) ?_
    refine v_icmp_ge G (tgt := 22) dX10_forgetEntries_6 (by decide) (fun c_1003 => ?_) (fun c_1003 => ?_)
    · exact v_vret G rfl rfl dX10_forgetEntries_22
    · refine v_aload_n G 0 dX10_forgetEntries_9 rfl ?_
      refine v_getr G (ci := 10) (T := TX10) (j := 24) inX10 rfl rfl rfl (by decide) w4_119 dX10_forgetEntries_10 ?_
      refine v_iload_n G 1 dX10_forgetEntries_13 rfl ?_
      refine v_iconst G (v := (0 : Int32)) dX10_forgetEntries_14 (by decide) ?_
      refine v_zast G rfl (vi_br hi (by assumption) (by decide)) dX10_forgetEntries_15 (fun S_1004 eS_1004 => ?_)
      refine v_iinc G (v := v1 + (1 : Int32)) 1 [(1, .int (v1 + (1 : Int32))), (0, .ref (adr X 0))] dX10_forgetEntries_16 rfl rfl (by decide) rfl ?_
      refine v_goto G (tgt := 2) dX10_forgetEntries_19 (by decide) ?_
      exact v_sub (lv' := [(0, .ref (adr X 0)), (1, .int (v1 + (1 : Int32)))]) [1, 0] rfl (ih S_1004 (v1 + (1 : Int32)) (lp_m (by assumption) hm) (lp_nn (by assumption) hi))
noncomputable def f_M_forgetEntries (S : St) : St := (f_M_forgetEntries_2 fuz S (0 : Int32))
set_option linter.unusedVariables false in
set_option maxHeartbeats 4000000 in
set_option maxRecDepth 100000 in
theorem c_M_forgetEntries (l : Launch) {X : vD} (hJ : sh_J X) (hX : shp X = shM)  (S : St)  : Con l X yX10_forgetEntries cX10_forgetEntries 2 none 0 [.ref (adr X 0)] S (none, f_M_forgetEntries S) := by
  refine con_of (ρ := (fun S : St => ((none, S) : Option Value × St))) (K := f_M_forgetEntries S) hJ hX (by decide) (Nat.le_of_ble_eq_true rfl) (lv := [(0, .ref (adr X 0))]) rfl ?_
  intro p e s m below meth c G
  have G : vG p s m _ meth c X shM "SensorNodeModel" cX10_forgetEntries 2 none := G
  unfold f_M_forgetEntries
  refine v_iconst G (v := (0 : Int32)) dX10_forgetEntries_0 (by decide) ?_
  refine v_istore_n G [(1, .int (0 : Int32)), (0, .ref (adr X 0))] dX10_forgetEntries_1 (by decide) rfl ?_
  exact v_sub (lv' := [(0, .ref (adr X 0)), (1, .int (0 : Int32))]) [1, 0] rfl (v_M_forgetEntries_2 hJ hX G fuz S (0 : Int32) (lp_z _ _) (by decide))
/-! SensorNodeModel.on -/
theorem qyX10_on : yX10_on.cls ≠ "java/lang/invoke/MethodHandle" ∧ yX10_on.cls ≠ "java/lang/invoke/VarHandle" ∧ (parseMethodDescriptor yX10_on.desc).map (fun d => d.parameters.length) = some 0 := by decide +kernel
noncomputable def f_M_on_224 (S : St) (v1 v2 : Int32) : Int32 × St := (if v2 = (f_M_generation S) then bnv (st_up S 0 23 (f_M_counting S)) (fun S_1230 => (if (S_1230 0 23) = 0 then bnv (st_up S_1230 0 22 (0 : Int32)) (fun S_1233 => ((1 : Int32), S_1233)) else bnv (st_up S_1230 0 22 (1 : Int32)) (fun S_1232 => ((1 : Int32), S_1232)))) else bnv (st_up S 0 23 (-1 : Int32)) (fun S_1226 => (if (S_1226 0 23) = 0 then bnv (st_up S_1226 0 22 (0 : Int32)) (fun S_1229 => ((1 : Int32), S_1229)) else bnv (st_up S_1226 0 22 (1 : Int32)) (fun S_1228 => ((1 : Int32), S_1228)))))
set_option linter.unusedVariables false in
set_option maxHeartbeats 4000000 in
set_option maxRecDepth 100000 in
theorem v_M_on_224 {p : Program} {l : Launch} {e : Env} {s : State} {m : MethodId} {args : Array Value} {below : List Frame} {meth : Method} {c : Code} {X : vD} {ρ : Int32 × St → Option Value × St} (hρ : ∀ q : Int32 × St, ρ q = ((some (.int q.1), q.2) : Option Value × St))  (hJ : sh_J X) (hX : shp X = shM) (G : vG p s m args meth c X shM "SensorNodeModel" cX10_on 3 (some .boolean))  (S : St) (v1 v2 : Int32)   : V p l e 1 s m args below meth c X 3 ρ S 224 [(0, .ref (adr X 0)), (1, .int v1), (2, .int v2)] [] (f_M_on_224 S v1 v2) := by
  unfold f_M_on_224
  refine v_aload_n G 0 dX10_on_224 rfl ?_
  refine v_iload_n G 2 dX10_on_225 rfl ?_
  refine v_aload_n G 0 dX10_on_226 rfl ?_
  refine v_callVi G (As := []) (st := [.int v2, .ref (adr X 0)]) (c_M_generation l hJ hX S) (by decide) (by decide) (ci := 10) rfl rfl w4_230 w4_232 w0_29 w1_9 w4_233 qyX10_generation rfl (Nat.le_of_ble_eq_true rfl) dX10_on_227 ?_
  refine v_icmp_ne G (tgt := 240) dX10_on_230 (by decide) (fun c_1225 => ?_) (fun c_1225 => ?_)
  · refine v_iconst G (v := (-1 : Int32)) dX10_on_240 (by decide) ?_
    refine v_puti G (ci := 10) (T := TX10) (j := 23) inX10 rfl rfl tyX10_ok nmX10 rfl (by decide) rfl rfl rfl w4_118 dX10_on_241 (fun S_1226 eS_1226 => ?_)
    refine v_aload_n G 0 dX10_on_244 rfl ?_
    refine v_aload_n G 0 dX10_on_245 rfl ?_
    refine v_geti G (ci := 10) (T := TX10) (j := 23) inX10 rfl rfl rfl (by decide) w4_118 dX10_on_246 ?_
    refine v_if_ne G (tgt := 256) dX10_on_249 (by decide) (fun c_1227 => ?_) (fun c_1227 => ?_)
    · refine v_iconst G (v := (1 : Int32)) dX10_on_256 (by decide) ?_
      refine v_puti G (ci := 10) (T := TX10) (j := 22) inX10 rfl rfl tyX10_ok nmX10 rfl (by decide) rfl rfl rfl w4_117 dX10_on_257 (fun S_1228 eS_1228 => ?_)
      refine v_iconst G (v := (1 : Int32)) dX10_on_260 (by decide) ?_
      exact v_zret G rfl rfl (hρ _) dX10_on_261
    · refine v_iconst G (v := (0 : Int32)) dX10_on_252 (by decide) ?_
      refine v_goto G (tgt := 257) dX10_on_253 (by decide) ?_
      refine v_puti G (ci := 10) (T := TX10) (j := 22) inX10 rfl rfl tyX10_ok nmX10 rfl (by decide) rfl rfl rfl w4_117 dX10_on_257 (fun S_1229 eS_1229 => ?_)
      refine v_iconst G (v := (1 : Int32)) dX10_on_260 (by decide) ?_
      exact v_zret G rfl rfl (hρ _) dX10_on_261
  · refine v_aload_n G 0 dX10_on_233 rfl ?_
    refine v_callVi G (As := []) (st := [.ref (adr X 0)]) (c_M_counting l hJ hX S) (by decide) (by decide) (ci := 10) rfl rfl w5_3 w5_5 w0_32 w1_9 w5_6 qyX10_counting rfl (Nat.le_of_ble_eq_true rfl) dX10_on_234 ?_
    refine v_goto G (tgt := 241) dX10_on_237 (by decide) ?_
    refine v_puti G (ci := 10) (T := TX10) (j := 23) inX10 rfl rfl tyX10_ok nmX10 rfl (by decide) rfl rfl rfl w4_118 dX10_on_241 (fun S_1230 eS_1230 => ?_)
    refine v_aload_n G 0 dX10_on_244 rfl ?_
    refine v_aload_n G 0 dX10_on_245 rfl ?_
    refine v_geti G (ci := 10) (T := TX10) (j := 23) inX10 rfl rfl rfl (by decide) w4_118 dX10_on_246 ?_
    refine v_if_ne G (tgt := 256) dX10_on_249 (by decide) (fun c_1231 => ?_) (fun c_1231 => ?_)
    · refine v_iconst G (v := (1 : Int32)) dX10_on_256 (by decide) ?_
      refine v_puti G (ci := 10) (T := TX10) (j := 22) inX10 rfl rfl tyX10_ok nmX10 rfl (by decide) rfl rfl rfl w4_117 dX10_on_257 (fun S_1232 eS_1232 => ?_)
      refine v_iconst G (v := (1 : Int32)) dX10_on_260 (by decide) ?_
      exact v_zret G rfl rfl (hρ _) dX10_on_261
    · refine v_iconst G (v := (0 : Int32)) dX10_on_252 (by decide) ?_
      refine v_goto G (tgt := 257) dX10_on_253 (by decide) ?_
      refine v_puti G (ci := 10) (T := TX10) (j := 22) inX10 rfl rfl tyX10_ok nmX10 rfl (by decide) rfl rfl rfl w4_117 dX10_on_257 (fun S_1233 eS_1233 => ?_)
      refine v_iconst G (v := (1 : Int32)) dX10_on_260 (by decide) ?_
      exact v_zret G rfl rfl (hρ _) dX10_on_261
noncomputable def f_M_on_142 : Nat → St → Int32 → Int32 → Int32 × St
  | 0, S, _, _ => (0, S)
  | fn + 1, S, v1, v2 => (if v2 < ((S 0 3) / (4 : Int32)) then bnv (st_up S 6 v2.toNatClampNeg (S 1 ((v1 + (36 : Int32)) + v2).toNatClampNeg)) (fun S_1149 => (f_M_on_142 fn S_1149 v1 (v2 + (1 : Int32)))) else bnv (f_M_forgetEntries S) (fun S_1144 => bnx (ush (S_1144 1 (1 : Int32).toNatClampNeg) (16 : Int32)) (fun x_1145 => (if x_1145 = (f_M_generation S_1144) then (f_M_on_224 S_1144 v1 x_1145) else (if x_1145 = (((f_M_generation S_1144) + (65535 : Int32)) &&& (65535 : Int32)) then (f_M_on_224 S_1144 v1 x_1145) else bnv (st_up S_1144 0 32 ((S_1144 0 32) + (1 : Int32))) (fun S_1148 => (f_M_on_224 S_1148 v1 x_1145)))))))
def k_M_on_142 : Nat → St → Int32 → Int32 → Prop
  | 0, _, _, _ => True
  | fn + 1, S, v1, v2 => (if v2 < ((S 0 3) / (4 : Int32)) then (vp_in ((v1 + (36 : Int32)) + v2) 6219 ∧ (vp_in v2 1024 ∧ bnv (st_up S 6 v2.toNatClampNeg (S 1 ((v1 + (36 : Int32)) + v2).toNatClampNeg)) (fun S_1149 => (k_M_on_142 fn S_1149 v1 (v2 + (1 : Int32)))))) else True)
set_option linter.unusedVariables false in
set_option maxHeartbeats 4000000 in
set_option maxRecDepth 100000 in
theorem v_M_on_142 {p : Program} {l : Launch} {e : Env} {s : State} {m : MethodId} {args : Array Value} {below : List Frame} {meth : Method} {c : Code} {X : vD} {ρ : Int32 × St → Option Value × St} (hρ : ∀ q : Int32 × St, ρ q = ((some (.int q.1), q.2) : Option Value × St))  (hJ : sh_J X) (hX : shp X = shM) (G : vG p s m args meth c X shM "SensorNodeModel" cX10_on 3 (some .boolean))  : ∀ (fuel : Nat) (S : St) (v1 v2 : Int32) , (2147483648 - v2.toInt).toNat < fuel → k_M_on_142 fuel S v1 v2 → V p l e 1 s m args below meth c X 3 ρ S 142 [(0, .ref (adr X 0)), (1, .int v1), (2, .int v2)] [] (f_M_on_142 fuel S v1 v2) := by
  intro fuel
  induction fuel with
  | zero =>
    intro S v1 v2 hm hk
    exact absurd hm (Nat.not_lt_zero _)
  | succ fn ih =>
    intro S v1 v2 hm hk
    rw [f_M_on_142]
    rw [k_M_on_142] at hk
    refine v_iload_n G 2 dX10_on_142 rfl ?_
    refine v_aload_n G 0 dX10_on_143 rfl ?_
    refine v_geti G (ci := 10) (T := TX10) (j := 3) inX10 rfl rfl rfl (by decide) w4_98 dX10_on_144 ?_
    refine v_iconst G (v := (4 : Int32)) dX10_on_147 (by decide) ?_
    refine v_idiv G dX10_on_148 (by decide) ?_
    refine v_icmp_ge G (tgt := 178) dX10_on_149 (by decide) (fun c_1143 => ?_) (fun c_1143 => ?_)
    · refine v_aload_n G 0 dX10_on_178 rfl ?_
      refine v_callVv G (As := []) (st := []) (c_M_forgetEntries l hJ hX S) (by decide) (by decide) (ci := 10) rfl rfl w4_238 w5_0 w0_31 w1_9 w5_1 qyX10_forgetEntries rfl (Nat.le_of_ble_eq_true rfl) dX10_on_179 ?_
      refine v_bnv (fun S_1144 eS_1144 => ?_)
      refine v_aload_n G 0 dX10_on_182 rfl ?_
      refine v_getr G (ci := 10) (T := TX10) (j := 11) inX10 rfl rfl rfl (by decide) w4_106 dX10_on_183 ?_
      refine v_iconst G (v := (1 : Int32)) dX10_on_186 (by decide) ?_
      refine v_iald G rfl (by unfold vp_in; decide) dX10_on_187 ?_
      refine v_bipush G (v := (16 : Int32)) dX10_on_188 (by decide) ?_
      refine v_iushr G dX10_on_190 ?_
      refine v_namei (fun x_1145 ex_1145 => ?_)
      refine v_istore_n G [(2, .int x_1145), (0, .ref (adr X 0)), (1, .int v1)] dX10_on_191 (by decide) rfl ?_
      refine v_iload_n G 0 dX10_on_192 rfl ?_
      refine v_aload_n G 1 dX10_on_193 rfl ?_
      refine v_callVi G (As := []) (st := [.int x_1145]) (c_M_generation l hJ hX S_1144) (by decide) (by decide) (ci := 10) rfl rfl w4_230 w4_232 w0_29 w1_9 w4_233 qyX10_generation rfl (Nat.le_of_ble_eq_true rfl) dX10_on_194 ?_
      refine v_icmp_eq G (tgt := 224) dX10_on_197 (by decide) (fun c_1146 => ?_) (fun c_1146 => ?_)
      · exact v_sub (lv' := [(0, .ref (adr X 0)), (1, .int v1), (2, .int x_1145)]) [1, 2, 0] rfl (v_M_on_224 hρ hJ hX G S_1144 v1 x_1145)
      · refine v_iload_n G 0 dX10_on_200 rfl ?_
        refine v_aload_n G 1 dX10_on_201 rfl ?_
        refine v_callVi G (As := []) (st := [.int x_1145]) (c_M_generation l hJ hX S_1144) (by decide) (by decide) (ci := 10) rfl rfl w4_230 w4_232 w0_29 w1_9 w4_233 qyX10_generation rfl (Nat.le_of_ble_eq_true rfl) dX10_on_202 ?_
        refine v_ldc G (v := (65535 : Int32)) dX10_on_205 w5_2 ?_
        refine v_iadd G dX10_on_207 ?_
        refine v_ldc G (v := (65535 : Int32)) dX10_on_208 w5_2 ?_
        refine v_iand G dX10_on_210 ?_
        refine v_icmp_eq G (tgt := 224) dX10_on_211 (by decide) (fun c_1147 => ?_) (fun c_1147 => ?_)
        · exact v_sub (lv' := [(0, .ref (adr X 0)), (1, .int v1), (2, .int x_1145)]) [1, 2, 0] rfl (v_M_on_224 hρ hJ hX G S_1144 v1 x_1145)
        · refine v_aload_n G 1 dX10_on_214 rfl ?_
          refine v_dup G dX10_on_215 rfl ?_
          refine v_geti G (ci := 10) (T := TX10) (j := 32) inX10 rfl rfl rfl (by decide) w4_127 dX10_on_216 ?_
          refine v_iconst G (v := (1 : Int32)) dX10_on_219 (by decide) ?_
          refine v_iadd G dX10_on_220 ?_
          refine v_puti G (ci := 10) (T := TX10) (j := 32) inX10 rfl rfl tyX10_ok nmX10 rfl (by decide) rfl rfl rfl w4_127 dX10_on_221 (fun S_1148 eS_1148 => ?_)
          exact v_sub (lv' := [(0, .ref (adr X 0)), (1, .int v1), (2, .int x_1145)]) [1, 2, 0] rfl (v_M_on_224 hρ hJ hX G S_1148 v1 x_1145)
    · replace hk := ok_t c_1143 hk
      refine v_aload_n G 0 dX10_on_152 rfl ?_
      refine v_getr G (ci := 10) (T := TX10) (j := 14) inX10 rfl rfl rfl (by decide) w4_109 dX10_on_153 ?_
      refine v_getr G (ci := 9) (T := TX9) (j := 5) inX9 rfl rfl rfl (by decide) w3_239 dX10_on_156 ?_
      refine v_iload_n G 2 dX10_on_159 rfl ?_
      refine v_aload_n G 0 dX10_on_160 rfl ?_
      refine v_getr G (ci := 10) (T := TX10) (j := 11) inX10 rfl rfl rfl (by decide) w4_106 dX10_on_161 ?_
      refine v_iload_n G 1 dX10_on_164 rfl ?_
      refine v_bipush G (v := (36 : Int32)) dX10_on_165 (by decide) ?_
      refine v_iadd G dX10_on_167 ?_
      refine v_iload_n G 2 dX10_on_168 rfl ?_
      refine v_iadd G dX10_on_169 ?_
      refine v_iald G rfl hk.1 dX10_on_170 ?_
      replace hk := hk.2
      refine v_iast G rfl hk.1 dX10_on_171 (fun S_1149 eS_1149 => ?_)
      replace hk := hk.2
      replace hk := ok_v eS_1149 hk
      refine v_iinc G (v := v2 + (1 : Int32)) 2 [(2, .int (v2 + (1 : Int32))), (0, .ref (adr X 0)), (1, .int v1)] dX10_on_172 rfl rfl (by decide) rfl ?_
      refine v_goto G (tgt := 142) dX10_on_175 (by decide) ?_
      exact v_sub (lv' := [(0, .ref (adr X 0)), (1, .int v1), (2, .int (v2 + (1 : Int32)))]) [1, 2, 0] rfl (ih S_1149 v1 (v2 + (1 : Int32)) (lp_m31 (by assumption) hm) hk)
noncomputable def f_M_on_47 : Nat → St → Int32 → Int32 → Int32 × St
  | 0, S, _, _ => (0, S)
  | fn + 1, S, v1, v2 => (if v2 < (32 : Int32) then bnv (st_up S 5 v2.toNatClampNeg (S 1 (v1 + v2).toNatClampNeg)) (fun S_1053 => (f_M_on_47 fn S_1053 v1 (v2 + (1 : Int32)))) else bnv (st_up S 4 1 (S 1 (v1 + (32 : Int32)).toNatClampNeg)) (fun S_1049 => bnv (st_up S_1049 4 2 (S_1049 1 (v1 + (33 : Int32)).toNatClampNeg)) (fun S_1050 => bnv (st_up S_1050 4 3 (S_1050 1 (v1 + (34 : Int32)).toNatClampNeg)) (fun S_1051 => bnv (st_up S_1051 4 4 (S_1051 1 (v1 + (35 : Int32)).toNatClampNeg)) (fun S_1052 => (f_M_on_142 fuz S_1052 v1 (0 : Int32)))))))
def k_M_on_47 : Nat → St → Int32 → Int32 → Prop
  | 0, _, _, _ => True
  | fn + 1, S, v1, v2 => (if v2 < (32 : Int32) then (vp_in (v1 + v2) 6219 ∧ bnv (st_up S 5 v2.toNatClampNeg (S 1 (v1 + v2).toNatClampNeg)) (fun S_1053 => (k_M_on_47 fn S_1053 v1 (v2 + (1 : Int32))))) else (vp_in (v1 + (32 : Int32)) 6219 ∧ bnv (st_up S 4 1 (S 1 (v1 + (32 : Int32)).toNatClampNeg)) (fun S_1049 => (vp_in (v1 + (33 : Int32)) 6219 ∧ bnv (st_up S_1049 4 2 (S_1049 1 (v1 + (33 : Int32)).toNatClampNeg)) (fun S_1050 => (vp_in (v1 + (34 : Int32)) 6219 ∧ bnv (st_up S_1050 4 3 (S_1050 1 (v1 + (34 : Int32)).toNatClampNeg)) (fun S_1051 => (vp_in (v1 + (35 : Int32)) 6219 ∧ bnv (st_up S_1051 4 4 (S_1051 1 (v1 + (35 : Int32)).toNatClampNeg)) (fun S_1052 => (k_M_on_142 fuz S_1052 v1 (0 : Int32)))))))))))
set_option linter.unusedVariables false in
set_option maxHeartbeats 4000000 in
set_option maxRecDepth 100000 in
theorem v_M_on_47 {p : Program} {l : Launch} {e : Env} {s : State} {m : MethodId} {args : Array Value} {below : List Frame} {meth : Method} {c : Code} {X : vD} {ρ : Int32 × St → Option Value × St} (hρ : ∀ q : Int32 × St, ρ q = ((some (.int q.1), q.2) : Option Value × St))  (hJ : sh_J X) (hX : shp X = shM) (G : vG p s m args meth c X shM "SensorNodeModel" cX10_on 3 (some .boolean))  : ∀ (fuel : Nat) (S : St) (v1 v2 : Int32) , (((32 : Int32)).toInt - v2.toInt).toNat < fuel → ¬ v2 < 0 → k_M_on_47 fuel S v1 v2 → V p l e 1 s m args below meth c X 3 ρ S 47 [(0, .ref (adr X 0)), (1, .int v1), (2, .int v2)] [] (f_M_on_47 fuel S v1 v2) := by
  intro fuel
  induction fuel with
  | zero =>
    intro S v1 v2 hm hi hk
    exact absurd hm (Nat.not_lt_zero _)
  | succ fn ih =>
    intro S v1 v2 hm hi hk
    rw [f_M_on_47]
    rw [k_M_on_47] at hk
    refine v_iload_n G 2 dX10_on_47 rfl ?_
    refine v_bipush G (v := (32 : Int32)) dX10_on_48 (by decide) ?_
    refine v_icmp_ge G (tgt := 76) dX10_on_50 (by decide) (fun c_1048 => ?_) (fun c_1048 => ?_)
    · replace hk := ok_f c_1048 hk
      refine v_aload_n G 0 dX10_on_76 rfl ?_
      refine v_getr G (ci := 10) (T := TX10) (j := 14) inX10 rfl rfl rfl (by decide) w4_109 dX10_on_77 ?_
      refine v_aload_n G 0 dX10_on_80 rfl ?_
      refine v_getr G (ci := 10) (T := TX10) (j := 11) inX10 rfl rfl rfl (by decide) w4_106 dX10_on_81 ?_
      refine v_iload_n G 1 dX10_on_84 rfl ?_
      refine v_bipush G (v := (32 : Int32)) dX10_on_85 (by decide) ?_
      refine v_iadd G dX10_on_87 ?_
      refine v_iald G rfl hk.1 dX10_on_88 ?_
      replace hk := hk.2
      refine v_puti G (ci := 9) (T := TX9) (j := 1) inX9 rfl rfl tyX9_ok nmX9 rfl (by decide) rfl rfl rfl w3_231 dX10_on_89 (fun S_1049 eS_1049 => ?_)
      replace hk := ok_v eS_1049 hk
      refine v_aload_n G 0 dX10_on_92 rfl ?_
      refine v_getr G (ci := 10) (T := TX10) (j := 14) inX10 rfl rfl rfl (by decide) w4_109 dX10_on_93 ?_
      refine v_aload_n G 0 dX10_on_96 rfl ?_
      refine v_getr G (ci := 10) (T := TX10) (j := 11) inX10 rfl rfl rfl (by decide) w4_106 dX10_on_97 ?_
      refine v_iload_n G 1 dX10_on_100 rfl ?_
      refine v_bipush G (v := (33 : Int32)) dX10_on_101 (by decide) ?_
      refine v_iadd G dX10_on_103 ?_
      refine v_iald G rfl hk.1 dX10_on_104 ?_
      replace hk := hk.2
      refine v_puti G (ci := 9) (T := TX9) (j := 2) inX9 rfl rfl tyX9_ok nmX9 rfl (by decide) rfl rfl rfl w3_233 dX10_on_105 (fun S_1050 eS_1050 => ?_)
      replace hk := ok_v eS_1050 hk
      refine v_aload_n G 0 dX10_on_108 rfl ?_
      refine v_getr G (ci := 10) (T := TX10) (j := 14) inX10 rfl rfl rfl (by decide) w4_109 dX10_on_109 ?_
      refine v_aload_n G 0 dX10_on_112 rfl ?_
      refine v_getr G (ci := 10) (T := TX10) (j := 11) inX10 rfl rfl rfl (by decide) w4_106 dX10_on_113 ?_
      refine v_iload_n G 1 dX10_on_116 rfl ?_
      refine v_bipush G (v := (34 : Int32)) dX10_on_117 (by decide) ?_
      refine v_iadd G dX10_on_119 ?_
      refine v_iald G rfl hk.1 dX10_on_120 ?_
      replace hk := hk.2
      refine v_puti G (ci := 9) (T := TX9) (j := 3) inX9 rfl rfl tyX9_ok nmX9 rfl (by decide) rfl rfl rfl w3_235 dX10_on_121 (fun S_1051 eS_1051 => ?_)
      replace hk := ok_v eS_1051 hk
      refine v_aload_n G 0 dX10_on_124 rfl ?_
      refine v_getr G (ci := 10) (T := TX10) (j := 14) inX10 rfl rfl rfl (by decide) w4_109 dX10_on_125 ?_
      refine v_aload_n G 0 dX10_on_128 rfl ?_
      refine v_getr G (ci := 10) (T := TX10) (j := 11) inX10 rfl rfl rfl (by decide) w4_106 dX10_on_129 ?_
      refine v_iload_n G 1 dX10_on_132 rfl ?_
      refine v_bipush G (v := (35 : Int32)) dX10_on_133 (by decide) ?_
      refine v_iadd G dX10_on_135 ?_
      refine v_iald G rfl hk.1 dX10_on_136 ?_
      replace hk := hk.2
      refine v_puti G (ci := 9) (T := TX9) (j := 4) inX9 rfl rfl tyX9_ok nmX9 rfl (by decide) rfl rfl rfl w3_237 dX10_on_137 (fun S_1052 eS_1052 => ?_)
      replace hk := ok_v eS_1052 hk
      refine v_iconst G (v := (0 : Int32)) dX10_on_140 (by decide) ?_
      refine v_istore_n G [(2, .int (0 : Int32)), (0, .ref (adr X 0)), (1, .int v1)] dX10_on_141 (by decide) rfl ?_
      exact v_sub (lv' := [(0, .ref (adr X 0)), (1, .int v1), (2, .int (0 : Int32))]) [1, 2, 0] rfl (v_M_on_142 hρ hJ hX G fuz S_1052 v1 (0 : Int32) (lp_z31 _) hk)
    · replace hk := ok_t c_1048 hk
      refine v_aload_n G 0 dX10_on_53 rfl ?_
      refine v_getr G (ci := 10) (T := TX10) (j := 14) inX10 rfl rfl rfl (by decide) w4_109 dX10_on_54 ?_
      refine v_getr G (ci := 9) (T := TX9) (j := 0) inX9 rfl rfl rfl (by decide) w3_229 dX10_on_57 ?_
      refine v_iload_n G 2 dX10_on_60 rfl ?_
      refine v_aload_n G 0 dX10_on_61 rfl ?_
      refine v_getr G (ci := 10) (T := TX10) (j := 11) inX10 rfl rfl rfl (by decide) w4_106 dX10_on_62 ?_
      refine v_iload_n G 1 dX10_on_65 rfl ?_
      refine v_iload_n G 2 dX10_on_66 rfl ?_
      refine v_iadd G dX10_on_67 ?_
      refine v_iald G rfl hk.1 dX10_on_68 ?_
      replace hk := hk.2
      refine v_iast G rfl (vi_br hi (by assumption) (by decide)) dX10_on_69 (fun S_1053 eS_1053 => ?_)
      replace hk := ok_v eS_1053 hk
      refine v_iinc G (v := v2 + (1 : Int32)) 2 [(2, .int (v2 + (1 : Int32))), (0, .ref (adr X 0)), (1, .int v1)] dX10_on_70 rfl rfl (by decide) rfl ?_
      refine v_goto G (tgt := 47) dX10_on_73 (by decide) ?_
      exact v_sub (lv' := [(0, .ref (adr X 0)), (1, .int v1), (2, .int (v2 + (1 : Int32)))]) [1, 2, 0] rfl (ih S_1053 v1 (v2 + (1 : Int32)) (lp_m (by assumption) hm) (lp_nn (by assumption) hi) hk)
noncomputable def f_M_on (S : St) : Int32 × St := (if (S 0 0) = 0 then ((0 : Int32), S) else (if (S 0 2) = 0 then bnv (st_up S 0 2 (1 : Int32)) (fun S_3 => bnv (st_up S_3 0 1 (1 : Int32)) (fun S_4 => bnv (st_up S_4 0 21 (0 : Int32)) (fun S_5 => bnv (st_up S_5 0 20 (0 : Int32)) (fun S_6 => bnx (f_M_bufferAt S_6 (f_M_generation S_6)) (fun x_7 => (f_M_on_47 fuz S_6 x_7 (0 : Int32))))))) else ((0 : Int32), S)))
def k_M_on (S : St) : Prop := (if (S 0 0) = 0 then True else (if (S 0 2) = 0 then bnv (st_up S 0 2 (1 : Int32)) (fun S_3 => bnv (st_up S_3 0 1 (1 : Int32)) (fun S_4 => bnv (st_up S_4 0 21 (0 : Int32)) (fun S_5 => bnv (st_up S_5 0 20 (0 : Int32)) (fun S_6 => bnx (f_M_bufferAt S_6 (f_M_generation S_6)) (fun x_7 => (k_M_on_47 fuz S_6 x_7 (0 : Int32))))))) else True))
set_option linter.unusedVariables false in
set_option maxHeartbeats 4000000 in
set_option maxRecDepth 100000 in
theorem c_M_on (l : Launch) {X : vD} (hJ : sh_J X) (hX : shp X = shM)  (S : St) (hk : k_M_on S) : Con l X yX10_on cX10_on 3 (some .boolean) 1 [.ref (adr X 0)] S (some (.int (f_M_on S).1), (f_M_on S).2) := by
  refine con_of (ρ := (fun q : Int32 × St => ((some (.int q.1), q.2) : Option Value × St))) (K := f_M_on S) hJ hX (by decide) (Nat.le_of_ble_eq_true rfl) (lv := [(0, .ref (adr X 0))]) rfl ?_
  intro p e s m below meth c G
  generalize hρ0 : (fun q : Int32 × St => ((some (.int q.1), q.2) : Option Value × St)) = ρ
  have hρ : ∀ q : Int32 × St, ρ q = ((some (.int q.1), q.2) : Option Value × St) := fun q => by rw [← hρ0]
  have G : vG p s m _ meth c X shM "SensorNodeModel" cX10_on 3 (some .boolean) := G
  unfold f_M_on
  unfold k_M_on at hk
  refine v_aload_n G 0 dX10_on_0 rfl ?_
  refine v_geti G (ci := 10) (T := TX10) (j := 0) inX10 rfl rfl rfl (by decide) w4_95 dX10_on_1 ?_
  refine v_if_eq G (tgt := 14) dX10_on_4 (by decide) (fun c_1 => ?_) (fun c_1 => ?_)
  · refine v_iconst G (v := (0 : Int32)) dX10_on_14 (by decide) ?_
    exact v_zret G rfl rfl (hρ _) dX10_on_15
  · replace hk := ok_f c_1 hk
    refine v_aload_n G 0 dX10_on_7 rfl ?_
    refine v_geti G (ci := 10) (T := TX10) (j := 2) inX10 rfl rfl rfl (by decide) w4_97 dX10_on_8 ?_
    refine v_if_eq G (tgt := 16) dX10_on_11 (by decide) (fun c_2 => ?_) (fun c_2 => ?_)
    · replace hk := ok_t c_2 hk
      refine v_aload_n G 0 dX10_on_16 rfl ?_
      refine v_iconst G (v := (1 : Int32)) dX10_on_17 (by decide) ?_
      refine v_puti G (ci := 10) (T := TX10) (j := 2) inX10 rfl rfl tyX10_ok nmX10 rfl (by decide) rfl rfl rfl w4_97 dX10_on_18 (fun S_3 eS_3 => ?_)
      replace hk := ok_v eS_3 hk
      refine v_aload_n G 0 dX10_on_21 rfl ?_
      refine v_iconst G (v := (1 : Int32)) dX10_on_22 (by decide) ?_
      refine v_puti G (ci := 10) (T := TX10) (j := 1) inX10 rfl rfl tyX10_ok nmX10 rfl (by decide) rfl rfl rfl w4_96 dX10_on_23 (fun S_4 eS_4 => ?_)
      replace hk := ok_v eS_4 hk
      refine v_aload_n G 0 dX10_on_26 rfl ?_
      refine v_iconst G (v := (0 : Int32)) dX10_on_27 (by decide) ?_
      refine v_puti G (ci := 10) (T := TX10) (j := 21) inX10 rfl rfl tyX10_ok nmX10 rfl (by decide) rfl rfl rfl w4_116 dX10_on_28 (fun S_5 eS_5 => ?_)
      replace hk := ok_v eS_5 hk
      refine v_aload_n G 0 dX10_on_31 rfl ?_
      refine v_iconst G (v := (0 : Int32)) dX10_on_32 (by decide) ?_
      refine v_puti G (ci := 10) (T := TX10) (j := 20) inX10 rfl rfl tyX10_ok nmX10 rfl (by decide) rfl rfl rfl w4_115 dX10_on_33 (fun S_6 eS_6 => ?_)
      replace hk := ok_v eS_6 hk
      refine v_aload_n G 0 dX10_on_36 rfl ?_
      refine v_aload_n G 0 dX10_on_37 rfl ?_
      refine v_callVi G (As := []) (st := [.ref (adr X 0)]) (c_M_generation l hJ hX S_6) (by decide) (by decide) (ci := 10) rfl rfl w4_230 w4_232 w0_29 w1_9 w4_233 qyX10_generation rfl (Nat.le_of_ble_eq_true rfl) dX10_on_38 ?_
      refine v_callVi G (As := [.int (f_M_generation S_6)]) (st := []) (c_M_bufferAt l hJ hX S_6 (f_M_generation S_6)) (by decide) (by decide) (ci := 10) rfl rfl w4_234 w4_236 w0_30 w1_9 w4_237 qyX10_bufferAt rfl (Nat.le_of_ble_eq_true rfl) dX10_on_41 ?_
      refine v_namei (fun x_7 ex_7 => ?_)
      replace hk := ok_x ex_7 hk
      refine v_istore_n G [(1, .int x_7), (0, .ref (adr X 0))] dX10_on_44 (by decide) rfl ?_
      refine v_iconst G (v := (0 : Int32)) dX10_on_45 (by decide) ?_
      refine v_istore_n G [(2, .int (0 : Int32)), (1, .int x_7), (0, .ref (adr X 0))] dX10_on_46 (by decide) rfl ?_
      exact v_sub (lv' := [(0, .ref (adr X 0)), (1, .int x_7), (2, .int (0 : Int32))]) [2, 1, 0] rfl (v_M_on_47 hρ hJ hX G fuz S_6 x_7 (0 : Int32) (lp_z _ _) (by decide) hk)
    · refine v_iconst G (v := (0 : Int32)) dX10_on_14 (by decide) ?_
      exact v_zret G rfl rfl (hρ _) dX10_on_15
/-! SensorNodeModel.cut -/
theorem qyX10_cut : yX10_cut.cls ≠ "java/lang/invoke/MethodHandle" ∧ yX10_cut.cls ≠ "java/lang/invoke/VarHandle" ∧ (parseMethodDescriptor yX10_cut.desc).map (fun d => d.parameters.length) = some 0 := by decide +kernel
noncomputable def f_M_cut (S : St) : Int32 × St := (if (S 0 2) = 0 then ((0 : Int32), S) else bnv (st_up S 0 2 (0 : Int32)) (fun S_2 => bnv (st_up S_2 0 30 ((S_2 0 30) + (1 : Int32))) (fun S_3 => bnv (st_up S_3 0 27 ((S_3 0 27) + (S_3 0 20))) (fun S_4 => bnv (st_up S_4 0 20 (0 : Int32)) (fun S_5 => bnv (st_up S_5 0 21 (0 : Int32)) (fun S_6 => bnv (st_up S_6 0 22 (0 : Int32)) (fun S_7 => ((1 : Int32), S_7))))))))
set_option linter.unusedVariables false in
set_option maxHeartbeats 4000000 in
set_option maxRecDepth 100000 in
theorem c_M_cut (l : Launch) {X : vD} (hJ : sh_J X) (hX : shp X = shM)  (S : St)  : Con l X yX10_cut cX10_cut 1 (some .boolean) 0 [.ref (adr X 0)] S (some (.int (f_M_cut S).1), (f_M_cut S).2) := by
  refine con_of (ρ := (fun q : Int32 × St => ((some (.int q.1), q.2) : Option Value × St))) (K := f_M_cut S) hJ hX (by decide) (Nat.le_of_ble_eq_true rfl) (lv := [(0, .ref (adr X 0))]) rfl ?_
  intro p e s m below meth c G
  generalize hρ0 : (fun q : Int32 × St => ((some (.int q.1), q.2) : Option Value × St)) = ρ
  have hρ : ∀ q : Int32 × St, ρ q = ((some (.int q.1), q.2) : Option Value × St) := fun q => by rw [← hρ0]
  have G : vG p s m _ meth c X shM "SensorNodeModel" cX10_cut 1 (some .boolean) := G
  unfold f_M_cut
  refine v_aload_n G 0 dX10_cut_0 rfl ?_
  refine v_geti G (ci := 10) (T := TX10) (j := 2) inX10 rfl rfl rfl (by decide) w4_97 dX10_cut_1 ?_
  refine v_if_ne G (tgt := 9) dX10_cut_4 (by decide) (fun c_1 => ?_) (fun c_1 => ?_)
  · refine v_aload_n G 0 dX10_cut_9 rfl ?_
    refine v_iconst G (v := (0 : Int32)) dX10_cut_10 (by decide) ?_
    refine v_puti G (ci := 10) (T := TX10) (j := 2) inX10 rfl rfl tyX10_ok nmX10 rfl (by decide) rfl rfl rfl w4_97 dX10_cut_11 (fun S_2 eS_2 => ?_)
    refine v_aload_n G 0 dX10_cut_14 rfl ?_
    refine v_dup G dX10_cut_15 rfl ?_
    refine v_geti G (ci := 10) (T := TX10) (j := 30) inX10 rfl rfl rfl (by decide) w4_125 dX10_cut_16 ?_
    refine v_iconst G (v := (1 : Int32)) dX10_cut_19 (by decide) ?_
    refine v_iadd G dX10_cut_20 ?_
    refine v_puti G (ci := 10) (T := TX10) (j := 30) inX10 rfl rfl tyX10_ok nmX10 rfl (by decide) rfl rfl rfl w4_125 dX10_cut_21 (fun S_3 eS_3 => ?_)
    refine v_aload_n G 0 dX10_cut_24 rfl ?_
    refine v_dup G dX10_cut_25 rfl ?_
    refine v_geti G (ci := 10) (T := TX10) (j := 27) inX10 rfl rfl rfl (by decide) w4_122 dX10_cut_26 ?_
    refine v_aload_n G 0 dX10_cut_29 rfl ?_
    refine v_geti G (ci := 10) (T := TX10) (j := 20) inX10 rfl rfl rfl (by decide) w4_115 dX10_cut_30 ?_
    refine v_iadd G dX10_cut_33 ?_
    refine v_puti G (ci := 10) (T := TX10) (j := 27) inX10 rfl rfl tyX10_ok nmX10 rfl (by decide) rfl rfl rfl w4_122 dX10_cut_34 (fun S_4 eS_4 => ?_)
    refine v_aload_n G 0 dX10_cut_37 rfl ?_
    refine v_iconst G (v := (0 : Int32)) dX10_cut_38 (by decide) ?_
    refine v_puti G (ci := 10) (T := TX10) (j := 20) inX10 rfl rfl tyX10_ok nmX10 rfl (by decide) rfl rfl rfl w4_115 dX10_cut_39 (fun S_5 eS_5 => ?_)
    refine v_aload_n G 0 dX10_cut_42 rfl ?_
    refine v_iconst G (v := (0 : Int32)) dX10_cut_43 (by decide) ?_
    refine v_puti G (ci := 10) (T := TX10) (j := 21) inX10 rfl rfl tyX10_ok nmX10 rfl (by decide) rfl rfl rfl w4_116 dX10_cut_44 (fun S_6 eS_6 => ?_)
    refine v_aload_n G 0 dX10_cut_47 rfl ?_
    refine v_iconst G (v := (0 : Int32)) dX10_cut_48 (by decide) ?_
    refine v_puti G (ci := 10) (T := TX10) (j := 22) inX10 rfl rfl tyX10_ok nmX10 rfl (by decide) rfl rfl rfl w4_117 dX10_cut_49 (fun S_7 eS_7 => ?_)
    refine v_iconst G (v := (1 : Int32)) dX10_cut_52 (by decide) ?_
    exact v_zret G rfl rfl (hρ _) dX10_cut_53
  · refine v_iconst G (v := (0 : Int32)) dX10_cut_7 (by decide) ?_
    exact v_zret G rfl rfl (hρ _) dX10_cut_8
/-! SensorNodeModel.write -/
theorem qyX10_write : yX10_write.cls ≠ "java/lang/invoke/MethodHandle" ∧ yX10_write.cls ≠ "java/lang/invoke/VarHandle" ∧ (parseMethodDescriptor yX10_write.desc).map (fun d => d.parameters.length) = some 2 := by decide +kernel
noncomputable def f_M_write (S : St) (a1 : Int32) (a2 : Int32) : St := bnv (st_up S 1 a1.toNatClampNeg a2) (fun S_1 => bnv (st_up S_1 0 26 ((S_1 0 26) + (1 : Int32))) (fun S_2 => S_2))
def k_M_write (S : St) (a1 : Int32) (a2 : Int32) : Prop := vp_in a1 6219
set_option linter.unusedVariables false in
set_option maxHeartbeats 4000000 in
set_option maxRecDepth 100000 in
theorem c_M_write (l : Launch) {X : vD} (hJ : sh_J X) (hX : shp X = shM)  (S : St) (a1 : Int32) (a2 : Int32) (hk : k_M_write S a1 a2) : Con l X yX10_write cX10_write 3 none 0 [.ref (adr X 0), .int a1, .int a2] S (none, f_M_write S a1 a2) := by
  refine con_of (ρ := (fun S : St => ((none, S) : Option Value × St))) (K := f_M_write S a1 a2) hJ hX (by decide) (Nat.le_of_ble_eq_true rfl) (lv := [(0, .ref (adr X 0)), (1, .int a1), (2, .int a2)]) rfl ?_
  intro p e s m below meth c G
  have G : vG p s m _ meth c X shM "SensorNodeModel" cX10_write 3 none := G
  unfold f_M_write
  unfold k_M_write at hk
  refine v_aload_n G 0 dX10_write_0 rfl ?_
  refine v_getr G (ci := 10) (T := TX10) (j := 11) inX10 rfl rfl rfl (by decide) w4_106 dX10_write_1 ?_
  refine v_iload_n G 1 dX10_write_4 rfl ?_
  refine v_iload_n G 2 dX10_write_5 rfl ?_
  refine v_iast G rfl hk dX10_write_6 (fun S_1 eS_1 => ?_)
  refine v_aload_n G 0 dX10_write_7 rfl ?_
  refine v_dup G dX10_write_8 rfl ?_
  refine v_geti G (ci := 10) (T := TX10) (j := 26) inX10 rfl rfl rfl (by decide) w4_121 dX10_write_9 ?_
  refine v_iconst G (v := (1 : Int32)) dX10_write_12 (by decide) ?_
  refine v_iadd G dX10_write_13 ?_
  refine v_puti G (ci := 10) (T := TX10) (j := 26) inX10 rfl rfl tyX10_ok nmX10 rfl (by decide) rfl rfl rfl w4_121 dX10_write_14 (fun S_2 eS_2 => ?_)
  exact v_vret G rfl rfl dX10_write_17

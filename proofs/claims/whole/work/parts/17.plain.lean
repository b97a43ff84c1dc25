/-! SensorNode$PlainMachine.forget -/
theorem qyX3_forget : yX3_forget.cls ≠ "java/lang/invoke/MethodHandle" ∧ yX3_forget.cls ≠ "java/lang/invoke/VarHandle" ∧ (parseMethodDescriptor yX3_forget.desc).map (fun d => d.parameters.length) = some 0 := by decide +kernel
noncomputable def f_P_forget (S : St) : St := bnv (st_up S 20 4 (0 : Int32)) (fun S_1 => bnv (st_up S_1 20 5 (0 : Int32)) (fun S_2 => bnv (f_R_clear S_2 21 22 23 24 25 26) (fun S_3 => S_3)))
set_option linter.unusedVariables false in
set_option maxHeartbeats 4000000 in
set_option maxRecDepth 100000 in
theorem c_P_forget (l : Launch) {X : vD} (hJ : sh_J X) (hX : shp X = shX)  (S : St)  : Con l X yX3_forget cX3_forget 1 none 1 [.ref (adr X 20)] S (none, f_P_forget S) := by
  refine con_of (ρ := (fun S : St => ((none, S) : Option Value × St))) (K := f_P_forget S) hJ hX (by decide) (Nat.le_of_ble_eq_true rfl) (lv := [(0, .ref (adr X 20))]) rfl ?_
  intro p e s m below meth c G
  have G : vG p s m _ meth c X shX "SensorNode$PlainMachine" cX3_forget 1 none := G
  unfold f_P_forget
  refine v_aload_n G 0 dX3_forget_0 rfl ?_
  refine v_iconst G (v := (0 : Int32)) dX3_forget_1 (by decide) ?_
  refine v_puti G (ci := 3) (T := TX3) (j := 4) inX3 rfl rfl tyX3_ok nmX3 rfl (by decide) rfl rfl rfl w1_219 dX3_forget_2 (fun S_1 eS_1 => ?_)
  refine v_aload_n G 0 dX3_forget_5 rfl ?_
  refine v_iconst G (v := (0 : Int32)) dX3_forget_6 (by decide) ?_
  refine v_puti G (ci := 3) (T := TX3) (j := 5) inX3 rfl rfl tyX3_ok nmX3 rfl (by decide) rfl rfl rfl w1_220 dX3_forget_7 (fun S_2 eS_2 => ?_)
  refine v_aload_n G 0 dX3_forget_10 rfl ?_
  refine v_getr G (ci := 3) (T := TX3) (j := 3) inX3 rfl rfl rfl (by decide) w1_218 dX3_forget_11 ?_
  refine v_callVv G (As := []) (st := []) (c_R_clear l hJ hX 21 22 23 24 25 26 ⟨rfl, rfl, rfl, rfl, rfl, rfl, by decide⟩ S_2) (by decide) (by decide) (ci := 5) rfl rfl w2_84 w2_77 w2_78 w1_6 w2_79 qyX5_clear rfl (Nat.le_of_ble_eq_true rfl) dX3_forget_14 ?_
  refine v_bnv (fun S_3 eS_3 => ?_)
  exact v_vret G rfl rfl dX3_forget_17
/-! SensorNode$PlainMachine.begin -/
theorem qyX3_begin : yX3_begin.cls ≠ "java/lang/invoke/MethodHandle" ∧ yX3_begin.cls ≠ "java/lang/invoke/VarHandle" ∧ (parseMethodDescriptor yX3_begin.desc).map (fun d => d.parameters.length) = some 0 := by decide +kernel
noncomputable def f_P_begin_11 : Nat → St → Int32 → St
  | 0, S, _ => S
  | fn + 1, S, v1 => (if v1 < (f_L_bufferWords S) then (if v1 = (32 : Int32) then bnv (f_G_restore S 28 29 30 27 2048 v1 (S 1 8)) (fun S_1019 => (f_P_begin_11 fn S_1019 (v1 + (1 : Int32)))) else bnv (f_G_restore S 28 29 30 27 2048 v1 (0 : Int32)) (fun S_1018 => (f_P_begin_11 fn S_1018 (v1 + (1 : Int32))))) else bnv (f_L_copyImage S 27 2048 (0 : Int32)) (fun S_1013 => bnd (f_G_look S_1013 28 29 30 27 2048) (fun r_1015 S_1014 => bnv (st_up S_1014 20 5 r_1015) (fun S_1016 => S_1016))))
set_option linter.unusedVariables false in
set_option maxHeartbeats 4000000 in
set_option maxRecDepth 100000 in
theorem v_P_begin_11 {p : Program} {l : Launch} {e : Env} {s : State} {m : MethodId} {args : Array Value} {below : List Frame} {meth : Method} {c : Code} {X : vD}  (hJ : sh_J X) (hX : shp X = shX) (G : vG p s m args meth c X shX "SensorNode$PlainMachine" cX3_begin 2 none)  : ∀ (fuel : Nat) (S : St) (v1 : Int32) , (2147483648 - v1.toInt).toNat < fuel → V p l e 4 s m args below meth c X 2 (fun S : St => ((none, S) : Option Value × St)) S 11 [(0, .ref (adr X 20)), (1, .int v1)] [] (f_P_begin_11 fuel S v1) := by
  intro fuel
  induction fuel with
  | zero =>
    intro S v1 hm
    exact absurd hm (Nat.not_lt_zero _)
  | succ fn ih =>
    intro S v1 hm
    rw [f_P_begin_11]
    refine v_iload_n G 1 dX3_begin_11 rfl ?_
    refine v_aload_n G 0 dX3_begin_12 rfl ?_
    refine v_getr G (ci := 3) (T := TX3) (j := 0) inX3 rfl rfl rfl (by decide) w1_215 dX3_begin_13 ?_
    refine v_callVi G (As := []) (st := [.int v1]) (c_L_bufferWords l hJ hX S) (by decide) (by decide) (ci := 4) rfl rfl w3_170 w2_65 w2_66 w1_2 w2_67 qyX4_bufferWords rfl (Nat.le_of_ble_eq_true rfl) dX3_begin_16 ?_
    refine v_icmp_ge G (tgt := 53) dX3_begin_19 (by decide) (fun c_1012 => ?_) (fun c_1012 => ?_)
    · refine v_aload_n G 0 dX3_begin_53 rfl ?_
      refine v_getr G (ci := 3) (T := TX3) (j := 0) inX3 rfl rfl rfl (by decide) w1_215 dX3_begin_54 ?_
      refine v_aload_n G 0 dX3_begin_57 rfl ?_
      refine v_getr G (ci := 3) (T := TX3) (j := 1) inX3 rfl rfl rfl (by decide) w1_216 dX3_begin_58 ?_
      refine v_iconst G (v := (0 : Int32)) dX3_begin_61 (by decide) ?_
      refine v_callVv G (As := [.ref (adr X 27), .int (0 : Int32)]) (st := []) (c_L_copyImage l hJ hX 27 2048 ⟨rfl, by decide⟩ S (0 : Int32)) (by decide) (by decide) (ci := 4) rfl rfl w3_172 w2_69 w2_70 w1_2 w2_71 qyX4_copyImage rfl (Nat.le_of_ble_eq_true rfl) dX3_begin_62 ?_
      refine v_bnv (fun S_1013 eS_1013 => ?_)
      refine v_aload_n G 0 dX3_begin_65 rfl ?_
      refine v_aload_n G 0 dX3_begin_66 rfl ?_
      refine v_getr G (ci := 3) (T := TX3) (j := 2) inX3 rfl rfl rfl (by decide) w1_217 dX3_begin_67 ?_
      refine v_callVi G (As := []) (st := [.ref (adr X 20)]) (c_G_look l hJ hX 28 29 30 27 2048 ⟨rfl, rfl, rfl, rfl, by decide⟩ S_1013) (by decide) (by decide) (ci := 1) rfl rfl w3_173 w2_155 w2_156 w1_7 w2_157 qyX1_look rfl (Nat.le_of_ble_eq_true rfl) dX3_begin_70 ?_
      refine v_bnd (fun r_1015 S_1014 eS_1014 => ?_)
      refine v_puti G (ci := 3) (T := TX3) (j := 5) inX3 rfl rfl tyX3_ok nmX3 rfl (by decide) rfl rfl rfl w1_220 dX3_begin_73 (fun S_1016 eS_1016 => ?_)
      exact v_vret G rfl rfl dX3_begin_76
    · refine v_aload_n G 0 dX3_begin_22 rfl ?_
      refine v_getr G (ci := 3) (T := TX3) (j := 2) inX3 rfl rfl rfl (by decide) w1_217 dX3_begin_23 ?_
      refine v_iload_n G 1 dX3_begin_26 rfl ?_
      refine v_iload_n G 1 dX3_begin_27 rfl ?_
      refine v_bipush G (v := (32 : Int32)) dX3_begin_28 (by decide) ?_
      refine v_icmp_ne G (tgt := 43) dX3_begin_30 (by decide) (fun c_1017 => ?_) (fun c_1017 => ?_)
      · refine v_iconst G (v := (0 : Int32)) dX3_begin_43 (by decide) ?_
        refine v_callVv G (As := [.int v1, .int (0 : Int32)]) (st := []) (c_G_restore l hJ hX 28 29 30 27 2048 ⟨rfl, rfl, rfl, rfl, by decide⟩ S v1 (0 : Int32)) (by decide) (by decide) (ci := 1) rfl rfl w3_171 w2_119 w2_120 w1_7 w2_121 qyX1_restore rfl (Nat.le_of_ble_eq_true rfl) dX3_begin_44 ?_
        refine v_bnv (fun S_1018 eS_1018 => ?_)
        refine v_iinc G (v := v1 + (1 : Int32)) 1 [(1, .int (v1 + (1 : Int32))), (0, .ref (adr X 20))] dX3_begin_47 rfl rfl (by decide) rfl ?_
        refine v_goto G (tgt := 11) dX3_begin_50 (by decide) ?_
        exact v_sub (lv' := [(0, .ref (adr X 20)), (1, .int (v1 + (1 : Int32)))]) [1, 0] rfl (ih S_1018 (v1 + (1 : Int32)) (lp_m31 (by assumption) hm))
      · refine v_aload_n G 0 dX3_begin_33 rfl ?_
        refine v_getr G (ci := 3) (T := TX3) (j := 0) inX3 rfl rfl rfl (by decide) w1_215 dX3_begin_34 ?_
        refine v_getNi G (ci := 4) (T := TX4) (j := 8) inX4 rfl rfl rfl (by decide) (host := "SensorNode") (List.mem_of_getElem? (i := 7) rfl) dX3_begin_37 ?_
        refine v_goto G (tgt := 44) dX3_begin_40 (by decide) ?_
        refine v_callVv G (As := [.int v1, .int (S 1 8)]) (st := []) (c_G_restore l hJ hX 28 29 30 27 2048 ⟨rfl, rfl, rfl, rfl, by decide⟩ S v1 (S 1 8)) (by decide) (by decide) (ci := 1) rfl rfl w3_171 w2_119 w2_120 w1_7 w2_121 qyX1_restore rfl (Nat.le_of_ble_eq_true rfl) dX3_begin_44 ?_
        refine v_bnv (fun S_1019 eS_1019 => ?_)
        refine v_iinc G (v := v1 + (1 : Int32)) 1 [(1, .int (v1 + (1 : Int32))), (0, .ref (adr X 20))] dX3_begin_47 rfl rfl (by decide) rfl ?_
        refine v_goto G (tgt := 11) dX3_begin_50 (by decide) ?_
        exact v_sub (lv' := [(0, .ref (adr X 20)), (1, .int (v1 + (1 : Int32)))]) [1, 0] rfl (ih S_1019 (v1 + (1 : Int32)) (lp_m31 (by assumption) hm))
noncomputable def f_P_begin (S : St) : St := bnv (f_P_forget S) (fun S_1 => bnv (st_up S_1 20 4 (1 : Int32)) (fun S_2 => (f_P_begin_11 fuz S_2 (0 : Int32))))
set_option linter.unusedVariables false in
set_option maxHeartbeats 4000000 in
set_option maxRecDepth 100000 in
theorem c_P_begin (l : Launch) {X : vD} (hJ : sh_J X) (hX : shp X = shX)  (S : St)  : Con l X yX3_begin cX3_begin 2 none 4 [.ref (adr X 20)] S (none, f_P_begin S) := by
  refine con_of (ρ := (fun S : St => ((none, S) : Option Value × St))) (K := f_P_begin S) hJ hX (by decide) (Nat.le_of_ble_eq_true rfl) (lv := [(0, .ref (adr X 20))]) rfl ?_
  intro p e s m below meth c G
  have G : vG p s m _ meth c X shX "SensorNode$PlainMachine" cX3_begin 2 none := G
  unfold f_P_begin
  refine v_aload_n G 0 dX3_begin_0 rfl ?_
  refine v_callVv G (As := []) (st := []) (c_P_forget l hJ hX S) (by decide) (by decide) (ci := 3) rfl rfl w3_169 w2_81 w2_82 w1_8 w2_83 qyX3_forget rfl (Nat.le_of_ble_eq_true rfl) dX3_begin_1 ?_
  refine v_bnv (fun S_1 eS_1 => ?_)
  refine v_aload_n G 0 dX3_begin_4 rfl ?_
  refine v_iconst G (v := (1 : Int32)) dX3_begin_5 (by decide) ?_
  refine v_puti G (ci := 3) (T := TX3) (j := 4) inX3 rfl rfl tyX3_ok nmX3 rfl (by decide) rfl rfl rfl w1_219 dX3_begin_6 (fun S_2 eS_2 => ?_)
  refine v_iconst G (v := (0 : Int32)) dX3_begin_9 (by decide) ?_
  refine v_istore_n G [(1, .int (0 : Int32)), (0, .ref (adr X 20))] dX3_begin_10 (by decide) rfl ?_
  exact v_sub (lv' := [(0, .ref (adr X 20)), (1, .int (0 : Int32))]) [1, 0] rfl (v_P_begin_11 hJ hX G fuz S_2 (0 : Int32) (lp_z31 _))
/-! SensorNode$PlainMachine.run -/
theorem qyX3_run : yX3_run.cls ≠ "java/lang/invoke/MethodHandle" ∧ yX3_run.cls ≠ "java/lang/invoke/VarHandle" ∧ (parseMethodDescriptor yX3_run.desc).map (fun d => d.parameters.length) = some 1 := by decide +kernel
noncomputable def f_P_run_6 : Nat → St → Int32 → Int32 → Int32 × St
  | 0, S, _, _ => (0, S)
  | fn + 1, S, v1, v2 => (if v2 < v1 then (if (S 20 5) = 0 then (if (f_G_kind S 28 29 30 27 2048) = (2 : Int32) then bnv (f_R_send S 21 22 23 24 25 26 28 29 30 27 2048 ((f_G_owned S 28 29 30 27 2048 (34 : Int32)) + (1 : Int32)) (0 : Int32)) (fun S_1014 => bnv (f_G_finish S_1014 28 29 30 27 2048) (fun S_1015 => bnd (f_G_look S_1015 28 29 30 27 2048) (fun r_1017 S_1016 => bnv (st_up S_1016 20 5 r_1017) (fun S_1018 => (f_P_run_6 fn S_1018 v1 (v2 + (1 : Int32))))))) else bnv (f_G_finish S 28 29 30 27 2048) (fun S_1010 => bnd (f_G_look S_1010 28 29 30 27 2048) (fun r_1012 S_1011 => bnv (st_up S_1011 20 5 r_1012) (fun S_1013 => (f_P_run_6 fn S_1013 v1 (v2 + (1 : Int32))))))) else (v2, S)) else (v2, S))
set_option linter.unusedVariables false in
set_option maxHeartbeats 4000000 in
set_option maxRecDepth 100000 in
theorem v_P_run_6 {p : Program} {l : Launch} {e : Env} {s : State} {m : MethodId} {args : Array Value} {below : List Frame} {meth : Method} {c : Code} {X : vD} {ρ : Int32 × St → Option Value × St} (hρ : ∀ q : Int32 × St, ρ q = ((some (.int q.1), q.2) : Option Value × St))  (hJ : sh_J X) (hX : shp X = shX) (G : vG p s m args meth c X shX "SensorNode$PlainMachine" cX3_run 3 (some .int))  : ∀ (fuel : Nat) (S : St) (v1 v2 : Int32) , ((v1).toInt - v2.toInt).toNat < fuel → V p l e 5 s m args below meth c X 3 ρ S 6 [(0, .ref (adr X 20)), (1, .int v1), (2, .int v2)] [] (f_P_run_6 fuel S v1 v2) := by
  intro fuel
  induction fuel with
  | zero =>
    intro S v1 v2 hm
    exact absurd hm (Nat.not_lt_zero _)
  | succ fn ih =>
    intro S v1 v2 hm
    rw [f_P_run_6]
    refine v_iload_n G 2 dX3_run_6 rfl ?_
    refine v_iload_n G 1 dX3_run_7 rfl ?_
    refine v_icmp_ge G (tgt := 76) dX3_run_8 (by decide) (fun c_1007 => ?_) (fun c_1007 => ?_)
    · refine v_iload_n G 2 dX3_run_76 rfl ?_
      exact v_iret G rfl (hρ _) dX3_run_77
    · refine v_aload_n G 0 dX3_run_11 rfl ?_
      refine v_geti G (ci := 3) (T := TX3) (j := 5) inX3 rfl rfl rfl (by decide) w1_220 dX3_run_12 ?_
      refine v_if_ne G (tgt := 76) dX3_run_15 (by decide) (fun c_1008 => ?_) (fun c_1008 => ?_)
      · refine v_iload_n G 2 dX3_run_76 rfl ?_
        exact v_iret G rfl (hρ _) dX3_run_77
      · refine v_aload_n G 0 dX3_run_18 rfl ?_
        refine v_getr G (ci := 3) (T := TX3) (j := 2) inX3 rfl rfl rfl (by decide) w1_217 dX3_run_19 ?_
        refine v_callVi G (As := []) (st := []) (c_G_kind l hJ hX 28 29 30 27 2048 ⟨rfl, rfl, rfl, rfl, by decide⟩ S) (by decide) (by decide) (ci := 1) rfl rfl w3_174 w2_235 w2_236 w1_7 w2_237 qyX1_kind rfl (Nat.le_of_ble_eq_true rfl) dX3_run_22 ?_
        refine v_iconst G (v := (2 : Int32)) dX3_run_25 (by decide) ?_
        refine v_icmp_ne G (tgt := 52) dX3_run_26 (by decide) (fun c_1009 => ?_) (fun c_1009 => ?_)
        · refine v_aload_n G 0 dX3_run_52 rfl ?_
          refine v_getr G (ci := 3) (T := TX3) (j := 2) inX3 rfl rfl rfl (by decide) w1_217 dX3_run_53 ?_
          refine v_callVv G (As := []) (st := []) (c_G_finish l hJ hX 28 29 30 27 2048 ⟨rfl, rfl, rfl, rfl, by decide⟩ S) (by decide) (by decide) (ci := 1) rfl rfl w3_177 w3_61 w3_62 w1_7 w3_63 qyX1_finish rfl (Nat.le_of_ble_eq_true rfl) dX3_run_56 ?_
          refine v_bnv (fun S_1010 eS_1010 => ?_)
          refine v_iinc G (v := v2 + (1 : Int32)) 2 [(2, .int (v2 + (1 : Int32))), (0, .ref (adr X 20)), (1, .int v1)] dX3_run_59 rfl rfl (by decide) rfl ?_
          refine v_aload_n G 1 dX3_run_62 rfl ?_
          refine v_aload_n G 1 dX3_run_63 rfl ?_
          refine v_getr G (ci := 3) (T := TX3) (j := 2) inX3 rfl rfl rfl (by decide) w1_217 dX3_run_64 ?_
          refine v_callVi G (As := []) (st := [.ref (adr X 20)]) (c_G_look l hJ hX 28 29 30 27 2048 ⟨rfl, rfl, rfl, rfl, by decide⟩ S_1010) (by decide) (by decide) (ci := 1) rfl rfl w3_173 w2_155 w2_156 w1_7 w2_157 qyX1_look rfl (Nat.le_of_ble_eq_true rfl) dX3_run_67 ?_
          refine v_bnd (fun r_1012 S_1011 eS_1011 => ?_)
          refine v_puti G (ci := 3) (T := TX3) (j := 5) inX3 rfl rfl tyX3_ok nmX3 rfl (by decide) rfl rfl rfl w1_220 dX3_run_70 (fun S_1013 eS_1013 => ?_)
          refine v_goto G (tgt := 6) dX3_run_73 (by decide) ?_
          exact v_sub (lv' := [(0, .ref (adr X 20)), (1, .int v1), (2, .int (v2 + (1 : Int32)))]) [1, 2, 0] rfl (ih S_1013 v1 (v2 + (1 : Int32)) (lp_m (by assumption) hm))
        · refine v_aload_n G 0 dX3_run_29 rfl ?_
          refine v_getr G (ci := 3) (T := TX3) (j := 3) inX3 rfl rfl rfl (by decide) w1_218 dX3_run_30 ?_
          refine v_aload_n G 0 dX3_run_33 rfl ?_
          refine v_getr G (ci := 3) (T := TX3) (j := 2) inX3 rfl rfl rfl (by decide) w1_217 dX3_run_34 ?_
          refine v_aload_n G 0 dX3_run_37 rfl ?_
          refine v_getr G (ci := 3) (T := TX3) (j := 2) inX3 rfl rfl rfl (by decide) w1_217 dX3_run_38 ?_
          refine v_bipush G (v := (34 : Int32)) dX3_run_41 (by decide) ?_
          refine v_callVi G (As := [.int (34 : Int32)]) (st := [.ref (adr X 28), .ref (adr X 21)]) (c_G_owned l hJ hX 28 29 30 27 2048 ⟨rfl, rfl, rfl, rfl, by decide⟩ S (34 : Int32)) (by decide) (by decide) (ci := 1) rfl rfl w3_175 w3_23 w3_24 w1_7 w3_25 qyX1_owned rfl (Nat.le_of_ble_eq_true rfl) dX3_run_43 ?_
          refine v_iconst G (v := (1 : Int32)) dX3_run_46 (by decide) ?_
          refine v_iadd G dX3_run_47 ?_
          refine v_iconst G (v := (0 : Int32)) dX3_run_48 (by decide) ?_
          refine v_callVv G (As := [.ref (adr X 28), .int ((f_G_owned S 28 29 30 27 2048 (34 : Int32)) + (1 : Int32)), .int (0 : Int32)]) (st := []) (c_R_send l hJ hX 21 22 23 24 25 26 28 29 30 27 2048 ⟨rfl, rfl, rfl, rfl, rfl, rfl, by decide⟩ ⟨rfl, rfl, rfl, rfl, by decide⟩ S ((f_G_owned S 28 29 30 27 2048 (34 : Int32)) + (1 : Int32)) (0 : Int32)) (by decide) (by decide) (ci := 5) rfl rfl w3_176 w3_32 w3_33 w1_6 w3_34 qyX5_send rfl (Nat.le_of_ble_eq_true rfl) dX3_run_49 ?_
          refine v_bnv (fun S_1014 eS_1014 => ?_)
          refine v_aload_n G 0 dX3_run_52 rfl ?_
          refine v_getr G (ci := 3) (T := TX3) (j := 2) inX3 rfl rfl rfl (by decide) w1_217 dX3_run_53 ?_
          refine v_callVv G (As := []) (st := []) (c_G_finish l hJ hX 28 29 30 27 2048 ⟨rfl, rfl, rfl, rfl, by decide⟩ S_1014) (by decide) (by decide) (ci := 1) rfl rfl w3_177 w3_61 w3_62 w1_7 w3_63 qyX1_finish rfl (Nat.le_of_ble_eq_true rfl) dX3_run_56 ?_
          refine v_bnv (fun S_1015 eS_1015 => ?_)
          refine v_iinc G (v := v2 + (1 : Int32)) 2 [(2, .int (v2 + (1 : Int32))), (0, .ref (adr X 20)), (1, .int v1)] dX3_run_59 rfl rfl (by decide) rfl ?_
          refine v_aload_n G 1 dX3_run_62 rfl ?_
          refine v_aload_n G 1 dX3_run_63 rfl ?_
          refine v_getr G (ci := 3) (T := TX3) (j := 2) inX3 rfl rfl rfl (by decide) w1_217 dX3_run_64 ?_
          refine v_callVi G (As := []) (st := [.ref (adr X 20)]) (c_G_look l hJ hX 28 29 30 27 2048 ⟨rfl, rfl, rfl, rfl, by decide⟩ S_1015) (by decide) (by decide) (ci := 1) rfl rfl w3_173 w2_155 w2_156 w1_7 w2_157 qyX1_look rfl (Nat.le_of_ble_eq_true rfl) dX3_run_67 ?_
          refine v_bnd (fun r_1017 S_1016 eS_1016 => ?_)
          refine v_puti G (ci := 3) (T := TX3) (j := 5) inX3 rfl rfl tyX3_ok nmX3 rfl (by decide) rfl rfl rfl w1_220 dX3_run_70 (fun S_1018 eS_1018 => ?_)
          refine v_goto G (tgt := 6) dX3_run_73 (by decide) ?_
          exact v_sub (lv' := [(0, .ref (adr X 20)), (1, .int v1), (2, .int (v2 + (1 : Int32)))]) [1, 2, 0] rfl (ih S_1018 v1 (v2 + (1 : Int32)) (lp_m (by assumption) hm))
noncomputable def f_P_run (S : St) (a1 : Int32) : Int32 × St := bnv (f_P_begin S) (fun S_1 => (f_P_run_6 fuz S_1 a1 (0 : Int32)))
set_option linter.unusedVariables false in
set_option maxHeartbeats 4000000 in
set_option maxRecDepth 100000 in
theorem c_P_run (l : Launch) {X : vD} (hJ : sh_J X) (hX : shp X = shX)  (S : St) (a1 : Int32)  : Con l X yX3_run cX3_run 3 (some .int) 5 [.ref (adr X 20), .int a1] S (some (.int (f_P_run S a1).1), (f_P_run S a1).2) := by
  refine con_of (ρ := (fun q : Int32 × St => ((some (.int q.1), q.2) : Option Value × St))) (K := f_P_run S a1) hJ hX (by decide) (Nat.le_of_ble_eq_true rfl) (lv := [(0, .ref (adr X 20)), (1, .int a1)]) rfl ?_
  intro p e s m below meth c G
  generalize hρ0 : (fun q : Int32 × St => ((some (.int q.1), q.2) : Option Value × St)) = ρ
  have hρ : ∀ q : Int32 × St, ρ q = ((some (.int q.1), q.2) : Option Value × St) := fun q => by rw [← hρ0]
  have G : vG p s m _ meth c X shX "SensorNode$PlainMachine" cX3_run 3 (some .int) := G
  unfold f_P_run
  refine v_aload_n G 0 dX3_run_0 rfl ?_
  refine v_callVv G (As := []) (st := []) (c_P_begin l hJ hX S) (by decide) (by decide) (ci := 3) rfl rfl w3_165 w3_167 w0_27 w1_8 w3_168 qyX3_begin rfl (Nat.le_of_ble_eq_true rfl) dX3_run_1 ?_
  refine v_bnv (fun S_1 eS_1 => ?_)
  refine v_iconst G (v := (0 : Int32)) dX3_run_4 (by decide) ?_
  refine v_istore_n G [(2, .int (0 : Int32)), (0, .ref (adr X 20)), (1, .int a1)] dX3_run_5 (by decide) rfl ?_
  exact v_sub (lv' := [(0, .ref (adr X 20)), (1, .int a1), (2, .int (0 : Int32))]) [1, 2, 0] rfl (v_P_run_6 hρ hJ hX G fuz S_1 a1 (0 : Int32) (lp_z _ _))
/-! SensorNode$PlainMachine.owned -/
theorem qyX3_owned : yX3_owned.cls ≠ "java/lang/invoke/MethodHandle" ∧ yX3_owned.cls ≠ "java/lang/invoke/VarHandle" ∧ (parseMethodDescriptor yX3_owned.desc).map (fun d => d.parameters.length) = some 1 := by decide +kernel
noncomputable def f_P_owned (S : St) (a1 : Int32) : Int32 := (if (S 20 4) = 0 then (0 : Int32) else (if a1 = (35 : Int32) then S 20 5 else f_G_owned S 28 29 30 27 2048 a1))
set_option linter.unusedVariables false in
set_option maxHeartbeats 4000000 in
set_option maxRecDepth 100000 in
theorem c_P_owned (l : Launch) {X : vD} (hJ : sh_J X) (hX : shp X = shX)  (S : St) (a1 : Int32)  : Con l X yX3_owned cX3_owned 2 (some .int) 1 [.ref (adr X 20), .int a1] S (some (.int (f_P_owned S a1)), S) := by
  refine con_of (ρ := (fun r : Int32 => ((some (.int r), S) : Option Value × St))) (K := f_P_owned S a1) hJ hX (by decide) (Nat.le_of_ble_eq_true rfl) (lv := [(0, .ref (adr X 20)), (1, .int a1)]) rfl ?_
  intro p e s m below meth c G
  have G : vG p s m _ meth c X shX "SensorNode$PlainMachine" cX3_owned 2 (some .int) := G
  unfold f_P_owned
  refine v_aload_n G 0 dX3_owned_0 rfl ?_
  refine v_geti G (ci := 3) (T := TX3) (j := 4) inX3 rfl rfl rfl (by decide) w1_219 dX3_owned_1 ?_
  refine v_if_ne G (tgt := 9) dX3_owned_4 (by decide) (fun c_1 => ?_) (fun c_1 => ?_)
  · refine v_iload_n G 1 dX3_owned_9 rfl ?_
    refine v_bipush G (v := (35 : Int32)) dX3_owned_10 (by decide) ?_
    refine v_icmp_ne G (tgt := 22) dX3_owned_12 (by decide) (fun c_2 => ?_) (fun c_2 => ?_)
    · refine v_aload_n G 0 dX3_owned_22 rfl ?_
      refine v_getr G (ci := 3) (T := TX3) (j := 2) inX3 rfl rfl rfl (by decide) w1_217 dX3_owned_23 ?_
      refine v_iload_n G 1 dX3_owned_26 rfl ?_
      refine v_callVi G (As := [.int a1]) (st := []) (c_G_owned l hJ hX 28 29 30 27 2048 ⟨rfl, rfl, rfl, rfl, by decide⟩ S a1) (by decide) (by decide) (ci := 1) rfl rfl w3_175 w3_23 w3_24 w1_7 w3_25 qyX1_owned rfl (Nat.le_of_ble_eq_true rfl) dX3_owned_27 ?_
      exact v_iret G rfl rfl dX3_owned_30
    · refine v_aload_n G 0 dX3_owned_15 rfl ?_
      refine v_geti G (ci := 3) (T := TX3) (j := 5) inX3 rfl rfl rfl (by decide) w1_220 dX3_owned_16 ?_
      refine v_goto G (tgt := 30) dX3_owned_19 (by decide) ?_
      exact v_iret G rfl rfl dX3_owned_30
  · refine v_iconst G (v := (0 : Int32)) dX3_owned_7 (by decide) ?_
    exact v_iret G rfl rfl dX3_owned_8
/-! SensorNode$PlainMachine.memoryByte -/
theorem qyX3_memoryByte : yX3_memoryByte.cls ≠ "java/lang/invoke/MethodHandle" ∧ yX3_memoryByte.cls ≠ "java/lang/invoke/VarHandle" ∧ (parseMethodDescriptor yX3_memoryByte.desc).map (fun d => d.parameters.length) = some 1 := by decide +kernel
noncomputable def f_P_memoryByte (S : St) (a1 : Int32) : Int32 := (if (S 20 4) = 0 then (-1 : Int32) else (if (f_G_holds S 28 29 30 27 2048 a1 (1 : Int32)) = 0 then (-1 : Int32) else f_G_byteAt S 28 29 30 27 2048 a1))
set_option linter.unusedVariables false in
set_option maxHeartbeats 4000000 in
set_option maxRecDepth 100000 in
theorem c_P_memoryByte (l : Launch) {X : vD} (hJ : sh_J X) (hX : shp X = shX)  (S : St) (a1 : Int32)  : Con l X yX3_memoryByte cX3_memoryByte 2 (some .int) 3 [.ref (adr X 20), .int a1] S (some (.int (f_P_memoryByte S a1)), S) := by
  refine con_of (ρ := (fun r : Int32 => ((some (.int r), S) : Option Value × St))) (K := f_P_memoryByte S a1) hJ hX (by decide) (Nat.le_of_ble_eq_true rfl) (lv := [(0, .ref (adr X 20)), (1, .int a1)]) rfl ?_
  intro p e s m below meth c G
  have G : vG p s m _ meth c X shX "SensorNode$PlainMachine" cX3_memoryByte 2 (some .int) := G
  unfold f_P_memoryByte
  refine v_aload_n G 0 dX3_memoryByte_0 rfl ?_
  refine v_geti G (ci := 3) (T := TX3) (j := 4) inX3 rfl rfl rfl (by decide) w1_219 dX3_memoryByte_1 ?_
  refine v_if_eq G (tgt := 30) dX3_memoryByte_4 (by decide) (fun c_1 => ?_) (fun c_1 => ?_)
  · refine v_iconst G (v := (-1 : Int32)) dX3_memoryByte_30 (by decide) ?_
    exact v_iret G rfl rfl dX3_memoryByte_31
  · refine v_aload_n G 0 dX3_memoryByte_7 rfl ?_
    refine v_getr G (ci := 3) (T := TX3) (j := 2) inX3 rfl rfl rfl (by decide) w1_217 dX3_memoryByte_8 ?_
    refine v_iload_n G 1 dX3_memoryByte_11 rfl ?_
    refine v_iconst G (v := (1 : Int32)) dX3_memoryByte_12 (by decide) ?_
    refine v_callVi G (As := [.int a1, .int (1 : Int32)]) (st := []) (c_G_holds l hJ hX 28 29 30 27 2048 ⟨rfl, rfl, rfl, rfl, by decide⟩ S a1 (1 : Int32)) (by decide) (by decide) (ci := 1) rfl rfl w3_194 w2_163 w2_164 w1_7 w2_165 qyX1_holds rfl (Nat.le_of_ble_eq_true rfl) dX3_memoryByte_13 ?_
    refine v_if_eq G (tgt := 30) dX3_memoryByte_16 (by decide) (fun c_2 => ?_) (fun c_2 => ?_)
    · refine v_iconst G (v := (-1 : Int32)) dX3_memoryByte_30 (by decide) ?_
      exact v_iret G rfl rfl dX3_memoryByte_31
    · refine v_aload_n G 0 dX3_memoryByte_19 rfl ?_
      refine v_getr G (ci := 3) (T := TX3) (j := 2) inX3 rfl rfl rfl (by decide) w1_217 dX3_memoryByte_20 ?_
      refine v_iload_n G 1 dX3_memoryByte_23 rfl ?_
      refine v_callVi G (As := [.int a1]) (st := []) (c_G_byteAt l hJ hX 28 29 30 27 2048 ⟨rfl, rfl, rfl, rfl, by decide⟩ S a1) (by decide) (by decide) (ci := 1) rfl rfl w3_195 w3_44 w3_45 w1_7 w3_46 qyX1_byteAt rfl (Nat.le_of_ble_eq_true rfl) dX3_memoryByte_24 ?_
      refine v_goto G (tgt := 31) dX3_memoryByte_27 (by decide) ?_
      exact v_iret G rfl rfl dX3_memoryByte_31
/-! SensorNode$PlainMachine.radio -/
theorem qyX3_radio : yX3_radio.cls ≠ "java/lang/invoke/MethodHandle" ∧ yX3_radio.cls ≠ "java/lang/invoke/VarHandle" ∧ (parseMethodDescriptor yX3_radio.desc).map (fun d => d.parameters.length) = some 0 := by decide +kernel
noncomputable def f_P_radio (S : St) : Unit := ()
set_option linter.unusedVariables false in
set_option maxHeartbeats 4000000 in
set_option maxRecDepth 100000 in
theorem c_P_radio (l : Launch) {X : vD} (hJ : sh_J X) (hX : shp X = shX)  (S : St)  : Con l X yX3_radio cX3_radio 1 (some (.object RX5)) 0 [.ref (adr X 20)] S (some (.ref (adr X 21)), S) := by
  refine con_of (ρ := (fun _ : Unit => ((some (.ref (adr X 21)), S) : Option Value × St))) (K := f_P_radio S) hJ hX (by decide) (Nat.le_of_ble_eq_true rfl) (lv := [(0, .ref (adr X 20))]) rfl ?_
  intro p e s m below meth c G
  have G : vG p s m _ meth c X shX "SensorNode$PlainMachine" cX3_radio 1 (some (.object RX5)) := G
  unfold f_P_radio
  refine v_aload_n G 0 dX3_radio_0 rfl ?_
  refine v_getr G (ci := 3) (T := TX3) (j := 3) inX3 rfl rfl rfl (by decide) w1_218 dX3_radio_1 ?_
  exact v_aret G rfl rfl dX3_radio_4

/-! SensorNode$Plan.allows -/
theorem qyX4_allows : yX4_allows.cls ≠ "java/lang/invoke/MethodHandle" ∧ yX4_allows.cls ≠ "java/lang/invoke/VarHandle" ∧ (parseMethodDescriptor yX4_allows.desc).map (fun d => d.parameters.length) = some 4 := by decide +kernel
noncomputable def f_L_allows (S : St) (a0 : Int32) (a1 : Int32) (a2 : Int32) (a3 : Int32) : Int32 := (if a0 < (4 : Int32) then (0 : Int32) else (if (4096 : Int32) < a0 then (0 : Int32) else (if (a0 &&& (3 : Int32)) = 0 then (if a1 < (4 : Int32) then (0 : Int32) else (if (8192 : Int32) < a1 then (0 : Int32) else (if (a1 &&& (3 : Int32)) = 0 then (if a2 < (8 : Int32) then (0 : Int32) else (if (1024 : Int32) < a2 then (0 : Int32) else (if a3 < (16 : Int32) then (0 : Int32) else (if (65536 : Int32) < a3 then (0 : Int32) else (1 : Int32))))) else (0 : Int32)))) else (0 : Int32))))
set_option linter.unusedVariables false in
set_option maxHeartbeats 4000000 in
set_option maxRecDepth 100000 in
theorem c_L_allows (l : Launch) {X : vD} (hJ : sh_J X) (hX : shp X = shX)  (S : St) (a0 : Int32) (a1 : Int32) (a2 : Int32) (a3 : Int32)  : Con l X yX4_allows cX4_allows 4 (some .boolean) 0 [.int a0, .int a1, .int a2, .int a3] S (some (.int (f_L_allows S a0 a1 a2 a3)), S) := by
  refine con_of (ρ := (fun r : Int32 => ((some (.int r), S) : Option Value × St))) (K := f_L_allows S a0 a1 a2 a3) hJ hX (by decide) (Nat.le_of_ble_eq_true rfl) (lv := [(0, .int a0), (1, .int a1), (2, .int a2), (3, .int a3)]) rfl ?_
  intro p e s m below meth c G
  have G : vG p s m _ meth c X shX "SensorNode$Plan" cX4_allows 4 (some .boolean) := G
  unfold f_L_allows
  refine v_iload_n G 0 dX4_allows_0 rfl ?_
  refine v_iconst G (v := (4 : Int32)) dX4_allows_1 (by decide) ?_
  refine v_icmp_lt G (tgt := 65) dX4_allows_2 (by decide) (fun c_1 => ?_) (fun c_1 => ?_)
  · refine v_iconst G (v := (0 : Int32)) dX4_allows_65 (by decide) ?_
    exact v_zret G rfl rfl rfl dX4_allows_66
  · refine v_iload_n G 0 dX4_allows_5 rfl ?_
    refine v_sipush G (v := (4096 : Int32)) dX4_allows_6 (by decide) ?_
    refine v_icmp_gt G (tgt := 65) dX4_allows_9 (by decide) (fun c_2 => ?_) (fun c_2 => ?_)
    · refine v_iconst G (v := (0 : Int32)) dX4_allows_65 (by decide) ?_
      exact v_zret G rfl rfl rfl dX4_allows_66
    · refine v_iload_n G 0 dX4_allows_12 rfl ?_
      refine v_iconst G (v := (3 : Int32)) dX4_allows_13 (by decide) ?_
      refine v_iand G dX4_allows_14 ?_
      refine v_if_ne G (tgt := 65) dX4_allows_15 (by decide) (fun c_3 => ?_) (fun c_3 => ?_)
      · refine v_iconst G (v := (0 : Int32)) dX4_allows_65 (by decide) ?_
        exact v_zret G rfl rfl rfl dX4_allows_66
      · refine v_iload_n G 1 dX4_allows_18 rfl ?_
        refine v_iconst G (v := (4 : Int32)) dX4_allows_19 (by decide) ?_
        refine v_icmp_lt G (tgt := 65) dX4_allows_20 (by decide) (fun c_4 => ?_) (fun c_4 => ?_)
        · refine v_iconst G (v := (0 : Int32)) dX4_allows_65 (by decide) ?_
          exact v_zret G rfl rfl rfl dX4_allows_66
        · refine v_iload_n G 1 dX4_allows_23 rfl ?_
          refine v_sipush G (v := (8192 : Int32)) dX4_allows_24 (by decide) ?_
          refine v_icmp_gt G (tgt := 65) dX4_allows_27 (by decide) (fun c_5 => ?_) (fun c_5 => ?_)
          · refine v_iconst G (v := (0 : Int32)) dX4_allows_65 (by decide) ?_
            exact v_zret G rfl rfl rfl dX4_allows_66
          · refine v_iload_n G 1 dX4_allows_30 rfl ?_
            refine v_iconst G (v := (3 : Int32)) dX4_allows_31 (by decide) ?_
            refine v_iand G dX4_allows_32 ?_
            refine v_if_ne G (tgt := 65) dX4_allows_33 (by decide) (fun c_6 => ?_) (fun c_6 => ?_)
            · refine v_iconst G (v := (0 : Int32)) dX4_allows_65 (by decide) ?_
              exact v_zret G rfl rfl rfl dX4_allows_66
            · refine v_iload_n G 2 dX4_allows_36 rfl ?_
              refine v_bipush G (v := (8 : Int32)) dX4_allows_37 (by decide) ?_
              refine v_icmp_lt G (tgt := 65) dX4_allows_39 (by decide) (fun c_7 => ?_) (fun c_7 => ?_)
              · refine v_iconst G (v := (0 : Int32)) dX4_allows_65 (by decide) ?_
                exact v_zret G rfl rfl rfl dX4_allows_66
              · refine v_iload_n G 2 dX4_allows_42 rfl ?_
                refine v_sipush G (v := (1024 : Int32)) dX4_allows_43 (by decide) ?_
                refine v_icmp_gt G (tgt := 65) dX4_allows_46 (by decide) (fun c_8 => ?_) (fun c_8 => ?_)
                · refine v_iconst G (v := (0 : Int32)) dX4_allows_65 (by decide) ?_
                  exact v_zret G rfl rfl rfl dX4_allows_66
                · refine v_iload_n G 3 dX4_allows_49 rfl ?_
                  refine v_bipush G (v := (16 : Int32)) dX4_allows_50 (by decide) ?_
                  refine v_icmp_lt G (tgt := 65) dX4_allows_52 (by decide) (fun c_9 => ?_) (fun c_9 => ?_)
                  · refine v_iconst G (v := (0 : Int32)) dX4_allows_65 (by decide) ?_
                    exact v_zret G rfl rfl rfl dX4_allows_66
                  · refine v_iload_n G 3 dX4_allows_55 rfl ?_
                    refine v_ldc G (v := (65536 : Int32)) dX4_allows_56 w2_43 ?_
                    refine v_icmp_gt G (tgt := 65) dX4_allows_58 (by decide) (fun c_10 => ?_) (fun c_10 => ?_)
                    · refine v_iconst G (v := (0 : Int32)) dX4_allows_65 (by decide) ?_
                      exact v_zret G rfl rfl rfl dX4_allows_66
                    · refine v_iconst G (v := (1 : Int32)) dX4_allows_61 (by decide) ?_
                      refine v_goto G (tgt := 66) dX4_allows_62 (by decide) ?_
                      exact v_zret G rfl rfl rfl dX4_allows_66
/-! SensorNode$Plan.set -/
theorem qyX4_set : yX4_set.cls ≠ "java/lang/invoke/MethodHandle" ∧ yX4_set.cls ≠ "java/lang/invoke/VarHandle" ∧ (parseMethodDescriptor yX4_set.desc).map (fun d => d.parameters.length) = some 5 := by decide +kernel
noncomputable def f_L_set (S : St) (a1 : Int32) (a2 : Int32) (a3 : Int32) (a4 : Int32) (a5 : Int32) : St := bnv (st_up S 1 3 (1 : Int32)) (fun S_1 => bnv (st_up S_1 1 4 a1) (fun S_2 => bnv (st_up S_2 1 5 a2) (fun S_3 => bnv (st_up S_3 1 6 a3) (fun S_4 => bnv (st_up S_4 1 7 a4) (fun S_5 => bnv (st_up S_5 1 8 a5) (fun S_6 => bnv (st_up S_6 1 2 (0 : Int32)) (fun S_7 => S_7)))))))
set_option linter.unusedVariables false in
set_option maxHeartbeats 4000000 in
set_option maxRecDepth 100000 in
theorem c_L_set (l : Launch) {X : vD} (hJ : sh_J X) (hX : shp X = shX)  (S : St) (a1 : Int32) (a2 : Int32) (a3 : Int32) (a4 : Int32) (a5 : Int32)  : Con l X yX4_set cX4_set 6 none 0 [.ref (adr X 1), .int a1, .int a2, .int a3, .int a4, .int a5] S (none, f_L_set S a1 a2 a3 a4 a5) := by
  refine con_of (ρ := (fun S : St => ((none, S) : Option Value × St))) (K := f_L_set S a1 a2 a3 a4 a5) hJ hX (by decide) (Nat.le_of_ble_eq_true rfl) (lv := [(0, .ref (adr X 1)), (1, .int a1), (2, .int a2), (3, .int a3), (4, .int a4), (5, .int a5)]) rfl ?_
  intro p e s m below meth c G
  have G : vG p s m _ meth c X shX "SensorNode$Plan" cX4_set 6 none := G
  unfold f_L_set
  refine v_aload_n G 0 dX4_set_0 rfl ?_
  refine v_iconst G (v := (1 : Int32)) dX4_set_1 (by decide) ?_
  refine v_puti G (ci := 4) (T := TX4) (j := 3) inX4 rfl rfl tyX4_ok nmX4 rfl (by decide) rfl rfl rfl w1_29 dX4_set_2 (fun S_1 eS_1 => ?_)
  refine v_aload_n G 0 dX4_set_5 rfl ?_
  refine v_iload_n G 1 dX4_set_6 rfl ?_
  refine v_puti G (ci := 4) (T := TX4) (j := 4) inX4 rfl rfl tyX4_ok nmX4 rfl (by decide) rfl rfl rfl w1_31 dX4_set_7 (fun S_2 eS_2 => ?_)
  refine v_aload_n G 0 dX4_set_10 rfl ?_
  refine v_iload_n G 2 dX4_set_11 rfl ?_
  refine v_puti G (ci := 4) (T := TX4) (j := 5) inX4 rfl rfl tyX4_ok nmX4 rfl (by decide) rfl rfl rfl w1_34 dX4_set_12 (fun S_3 eS_3 => ?_)
  refine v_aload_n G 0 dX4_set_15 rfl ?_
  refine v_iload_n G 3 dX4_set_16 rfl ?_
  refine v_puti G (ci := 4) (T := TX4) (j := 6) inX4 rfl rfl tyX4_ok nmX4 rfl (by decide) rfl rfl rfl w1_37 dX4_set_17 (fun S_4 eS_4 => ?_)
  refine v_aload_n G 0 dX4_set_20 rfl ?_
  refine v_iload G 4 dX4_set_21 rfl ?_
  refine v_puti G (ci := 4) (T := TX4) (j := 7) inX4 rfl rfl tyX4_ok nmX4 rfl (by decide) rfl rfl rfl w1_38 dX4_set_23 (fun S_5 eS_5 => ?_)
  refine v_aload_n G 0 dX4_set_26 rfl ?_
  refine v_iload G 5 dX4_set_27 rfl ?_
  refine v_puti G (ci := 4) (T := TX4) (j := 8) inX4 rfl rfl tyX4_ok nmX4 rfl (by decide) rfl rfl rfl w1_41 dX4_set_29 (fun S_6 eS_6 => ?_)
  refine v_aload_n G 0 dX4_set_32 rfl ?_
  refine v_iconst G (v := (0 : Int32)) dX4_set_33 (by decide) ?_
  refine v_puti G (ci := 4) (T := TX4) (j := 2) inX4 rfl rfl tyX4_ok nmX4 rfl (by decide) rfl rfl rfl w1_28 dX4_set_34 (fun S_7 eS_7 => ?_)
  exact v_vret G rfl rfl dX4_set_37
/-! SensorNode$Plan.fill -/
theorem qyX4_fill : yX4_fill.cls ≠ "java/lang/invoke/MethodHandle" ∧ yX4_fill.cls ≠ "java/lang/invoke/VarHandle" ∧ (parseMethodDescriptor yX4_fill.desc).map (fun d => d.parameters.length) = some 2 := by decide +kernel
noncomputable def f_L_fill_26 : Nat → St → Int32 → Int32 → St
  | 0, S, _, _ => S
  | fn + 1, S, v2, v3 => (if v3 < v2 then (if (v3 >>> ((2 : Int32) &&& 31)) < (nI 2048) then bnv (st_up S 2 (v3 >>> ((2 : Int32) &&& 31)).toNatClampNeg ((S 2 (v3 >>> ((2 : Int32) &&& 31)).toNatClampNeg) ||| ((f_T_get S v3) <<< (((8 : Int32) * (v3 &&& (3 : Int32))) &&& 31)))) (fun S_1029 => (f_L_fill_26 fn S_1029 v2 (v3 + (1 : Int32)))) else S) else S)
set_option linter.unusedVariables false in
set_option maxHeartbeats 4000000 in
set_option maxRecDepth 100000 in
theorem v_L_fill_26 {p : Program} {l : Launch} {e : Env} {s : State} {m : MethodId} {args : Array Value} {below : List Frame} {meth : Method} {c : Code} {X : vD}  (hJ : sh_J X) (hX : shp X = shX) (G : vG p s m args meth c X shX "SensorNode$Plan" cX4_fill 4 none)  : ∀ (fuel : Nat) (S : St) (v2 v3 : Int32) , ((v2).toInt - v3.toInt).toNat < fuel → ¬ v3 < 0 → V p l e 2 s m args below meth c X 4 (fun S : St => ((none, S) : Option Value × St)) S 26 [(0, .ref (adr X 1)), (1, .ref (adr X 4)), (2, .int v2), (3, .int v3)] [] (f_L_fill_26 fuel S v2 v3) := by
  intro fuel
  induction fuel with
  | zero =>
    intro S v2 v3 hm hi
    exact absurd hm (Nat.not_lt_zero _)
  | succ fn ih =>
    intro S v2 v3 hm hi
    rw [f_L_fill_26]
    refine v_iload_n G 3 dX4_fill_26 rfl ?_
    refine v_iload_n G 2 dX4_fill_27 rfl ?_
    refine v_icmp_ge G (tgt := 71) dX4_fill_28 (by decide) (fun c_1027 => ?_) (fun c_1027 => ?_)
    · exact v_vret G rfl rfl dX4_fill_71
    · refine v_iload_n G 3 dX4_fill_31 rfl ?_
      refine v_iconst G (v := (2 : Int32)) dX4_fill_32 (by decide) ?_
      refine v_ishr G dX4_fill_33 ?_
      refine v_aload_n G 0 dX4_fill_34 rfl ?_
      refine v_getr G (ci := 4) (T := TX4) (j := 0) inX4 rfl rfl rfl (by decide) w1_26 dX4_fill_35 ?_
      refine v_alen G (ty := .int) rfl rfl dX4_fill_38 ?_
      refine v_icmp_ge G (tgt := 71) dX4_fill_39 (by decide) (fun c_1028 => ?_) (fun c_1028 => ?_)
      · exact v_vret G rfl rfl dX4_fill_71
      · refine v_aload_n G 0 dX4_fill_42 rfl ?_
        refine v_getr G (ci := 4) (T := TX4) (j := 0) inX4 rfl rfl rfl (by decide) w1_26 dX4_fill_43 ?_
        refine v_iload_n G 3 dX4_fill_46 rfl ?_
        refine v_iconst G (v := (2 : Int32)) dX4_fill_47 (by decide) ?_
        refine v_ishr G dX4_fill_48 ?_
        refine v_dup2 G dX4_fill_49 rfl rfl ?_
        refine v_iald G rfl (vi_br (sr_nn hi) (by assumption) (by decide)) dX4_fill_50 ?_
        refine v_aload_n G 1 dX4_fill_51 rfl ?_
        refine v_iload_n G 3 dX4_fill_52 rfl ?_
        refine v_callVi G (As := [.int v3]) (st := [.int (S 2 (v3 >>> ((2 : Int32) &&& 31)).toNatClampNeg), .int (v3 >>> ((2 : Int32) &&& 31)), .ref (adr X 2)]) (c_T_get l hJ hX S v3) (by decide) (by decide) (ci := 6) rfl rfl w2_52 w2_53 w2_54 w1_3 w2_55 qyX6_get rfl (Nat.le_of_ble_eq_true rfl) dX4_fill_53 ?_
        refine v_bipush G (v := (8 : Int32)) dX4_fill_56 (by decide) ?_
        refine v_iload_n G 3 dX4_fill_58 rfl ?_
        refine v_iconst G (v := (3 : Int32)) dX4_fill_59 (by decide) ?_
        refine v_iand G dX4_fill_60 ?_
        refine v_imul G dX4_fill_61 ?_
        refine v_ishl G dX4_fill_62 ?_
        refine v_ior G dX4_fill_63 ?_
        refine v_iast G rfl (vi_br (sr_nn hi) (by assumption) (by decide)) dX4_fill_64 (fun S_1029 eS_1029 => ?_)
        refine v_iinc G (v := v3 + (1 : Int32)) 3 [(3, .int (v3 + (1 : Int32))), (0, .ref (adr X 1)), (1, .ref (adr X 4)), (2, .int v2)] dX4_fill_65 rfl rfl (by decide) rfl ?_
        refine v_goto G (tgt := 26) dX4_fill_68 (by decide) ?_
        exact v_sub (lv' := [(0, .ref (adr X 1)), (1, .ref (adr X 4)), (2, .int v2), (3, .int (v3 + (1 : Int32)))]) [1, 2, 3, 0] rfl (ih S_1029 v2 (v3 + (1 : Int32)) (lp_m (by assumption) hm) (lp_nn (by assumption) hi))
noncomputable def f_L_fill_2 : Nat → St → Int32 → Int32 → St
  | 0, S, _, _ => S
  | fn + 1, S, v2, v3 => (if v3 < (nI 2048) then bnv (st_up S 2 v3.toNatClampNeg (0 : Int32)) (fun S_1004 => (f_L_fill_2 fn S_1004 v2 (v3 + (1 : Int32)))) else (f_L_fill_26 fuz S v2 (0 : Int32)))
set_option linter.unusedVariables false in
set_option maxHeartbeats 4000000 in
set_option maxRecDepth 100000 in
theorem v_L_fill_2 {p : Program} {l : Launch} {e : Env} {s : State} {m : MethodId} {args : Array Value} {below : List Frame} {meth : Method} {c : Code} {X : vD}  (hJ : sh_J X) (hX : shp X = shX) (G : vG p s m args meth c X shX "SensorNode$Plan" cX4_fill 4 none)  : ∀ (fuel : Nat) (S : St) (v2 v3 : Int32) , ((nI 2048).toInt - v3.toInt).toNat < fuel → ¬ v3 < 0 → V p l e 2 s m args below meth c X 4 (fun S : St => ((none, S) : Option Value × St)) S 2 [(0, .ref (adr X 1)), (1, .ref (adr X 4)), (2, .int v2), (3, .int v3)] [] (f_L_fill_2 fuel S v2 v3) := by
  intro fuel
  induction fuel with
  | zero =>
    intro S v2 v3 hm hi
    exact absurd hm (Nat.not_lt_zero _)
  | succ fn ih =>
    intro S v2 v3 hm hi
    rw [f_L_fill_2]
    refine v_iload_n G 3 dX4_fill_2 rfl ?_
    refine v_aload_n G 0 dX4_fill_3 rfl ?_
    refine v_getr G (ci := 4) (T := TX4) (j := 0) inX4 rfl rfl rfl (by decide) w1_26 dX4_fill_4 ?_
    refine v_alen G (ty := .int) rfl rfl dX4_fill_7 ?_
    refine v_icmp_ge G (tgt := 24) dX4_fill_8 (by decide) (fun c_1003 => ?_) (fun c_1003 => ?_)
    · refine v_iconst G (v := (0 : Int32)) dX4_fill_24 (by decide) ?_
      refine v_istore_n G [(3, .int (0 : Int32)), (0, .ref (adr X 1)), (1, .ref (adr X 4)), (2, .int v2)] dX4_fill_25 (by decide) rfl ?_
      exact v_sub (lv' := [(0, .ref (adr X 1)), (1, .ref (adr X 4)), (2, .int v2), (3, .int (0 : Int32))]) [1, 2, 3, 0] rfl (v_L_fill_26 hJ hX G fuz S v2 (0 : Int32) (lp_z _ _) (by decide))
    · refine v_aload_n G 0 dX4_fill_11 rfl ?_
      refine v_getr G (ci := 4) (T := TX4) (j := 0) inX4 rfl rfl rfl (by decide) w1_26 dX4_fill_12 ?_
      refine v_iload_n G 3 dX4_fill_15 rfl ?_
      refine v_iconst G (v := (0 : Int32)) dX4_fill_16 (by decide) ?_
      refine v_iast G rfl (vi_br (by assumption) (by assumption) (by decide)) dX4_fill_17 (fun S_1004 eS_1004 => ?_)
      refine v_iinc G (v := v3 + (1 : Int32)) 3 [(3, .int (v3 + (1 : Int32))), (0, .ref (adr X 1)), (1, .ref (adr X 4)), (2, .int v2)] dX4_fill_18 rfl rfl (by decide) rfl ?_
      refine v_goto G (tgt := 2) dX4_fill_21 (by decide) ?_
      exact v_sub (lv' := [(0, .ref (adr X 1)), (1, .ref (adr X 4)), (2, .int v2), (3, .int (v3 + (1 : Int32)))]) [1, 2, 3, 0] rfl (ih S_1004 v2 (v3 + (1 : Int32)) (lp_m (by assumption) hm) (lp_nn (by assumption) hi))
noncomputable def f_L_fill (S : St) (a2 : Int32) : St := (f_L_fill_2 fuz S a2 (0 : Int32))
set_option linter.unusedVariables false in
set_option maxHeartbeats 4000000 in
set_option maxRecDepth 100000 in
theorem c_L_fill (l : Launch) {X : vD} (hJ : sh_J X) (hX : shp X = shX)  (S : St) (a2 : Int32)  : Con l X yX4_fill cX4_fill 4 none 2 [.ref (adr X 1), .ref (adr X 4), .int a2] S (none, f_L_fill S a2) := by
  refine con_of (ρ := (fun S : St => ((none, S) : Option Value × St))) (K := f_L_fill S a2) hJ hX (by decide) (Nat.le_of_ble_eq_true rfl) (lv := [(0, .ref (adr X 1)), (1, .ref (adr X 4)), (2, .int a2)]) rfl ?_
  intro p e s m below meth c G
  have G : vG p s m _ meth c X shX "SensorNode$Plan" cX4_fill 4 none := G
  unfold f_L_fill
  refine v_iconst G (v := (0 : Int32)) dX4_fill_0 (by decide) ?_
  refine v_istore_n G [(3, .int (0 : Int32)), (0, .ref (adr X 1)), (1, .ref (adr X 4)), (2, .int a2)] dX4_fill_1 (by decide) rfl ?_
  exact v_sub (lv' := [(0, .ref (adr X 1)), (1, .ref (adr X 4)), (2, .int a2), (3, .int (0 : Int32))]) [1, 2, 3, 0] rfl (v_L_fill_2 hJ hX G fuz S a2 (0 : Int32) (lp_z _ _) (by decide))
/-! SensorNode$Plan.copyImage -/
theorem qyX4_copyImage : yX4_copyImage.cls ≠ "java/lang/invoke/MethodHandle" ∧ yX4_copyImage.cls ≠ "java/lang/invoke/VarHandle" ∧ (parseMethodDescriptor yX4_copyImage.desc).map (fun d => d.parameters.length) = some 2 := by decide +kernel
noncomputable def f_L_copyImage_2 : Nat → St → Nat → Nat → Int32 → Int32 → St
  | 0, S, _, _, _, _ => S
  | fn + 1, S, ks, n, v2, v3 => (if v3 < (nI 2048) then (if v3 < ((S 1 5) / (4 : Int32)) then bnx (v2 + v3) (fun x_1005 => (if x_1005 < 0 then (f_L_copyImage_2 fn S ks n v2 (v3 + (1 : Int32))) else (if x_1005 < (nI n) then bnv (st_up S ks x_1005.toNatClampNeg (S 2 v3.toNatClampNeg)) (fun S_1008 => (f_L_copyImage_2 fn S_1008 ks n v2 (v3 + (1 : Int32)))) else (f_L_copyImage_2 fn S ks n v2 (v3 + (1 : Int32)))))) else S) else S)
set_option linter.unusedVariables false in
set_option maxHeartbeats 4000000 in
set_option maxRecDepth 100000 in
theorem v_L_copyImage_2 {p : Program} {l : Launch} {e : Env} {s : State} {m : MethodId} {args : Array Value} {below : List Frame} {meth : Method} {c : Code} {X : vD}  (hJ : sh_J X) (hX : shp X = shX) {ks n : Nat} (G : vG p s m args meth c X shX "SensorNode$Plan" cX4_copyImage 5 none) (hA : shX[ks]? = some (.inl (0, n)) ∧ n < 2 ^ 31) : ∀ (fuel : Nat) (S : St) (v2 v3 : Int32) , ((nI 2048).toInt - v3.toInt).toNat < fuel → ¬ v3 < 0 → V p l e 0 s m args below meth c X 5 (fun S : St => ((none, S) : Option Value × St)) S 2 [(0, .ref (adr X 1)), (1, .ref (adr X ks)), (2, .int v2), (3, .int v3)] [] (f_L_copyImage_2 fuel S ks n v2 v3) := by
  intro fuel
  induction fuel with
  | zero =>
    intro S v2 v3 hm hi
    exact absurd hm (Nat.not_lt_zero _)
  | succ fn ih =>
    intro S v2 v3 hm hi
    rw [f_L_copyImage_2]
    refine v_iload_n G 3 dX4_copyImage_2 rfl ?_
    refine v_aload_n G 0 dX4_copyImage_3 rfl ?_
    refine v_getr G (ci := 4) (T := TX4) (j := 0) inX4 rfl rfl rfl (by decide) w1_26 dX4_copyImage_4 ?_
    refine v_alen G (ty := .int) rfl rfl dX4_copyImage_7 ?_
    refine v_icmp_ge G (tgt := 54) dX4_copyImage_8 (by decide) (fun c_1003 => ?_) (fun c_1003 => ?_)
    · exact v_vret G rfl rfl dX4_copyImage_54
    · refine v_iload_n G 3 dX4_copyImage_11 rfl ?_
      refine v_aload_n G 0 dX4_copyImage_12 rfl ?_
      refine v_geti G (ci := 4) (T := TX4) (j := 5) inX4 rfl rfl rfl (by decide) w1_34 dX4_copyImage_13 ?_
      refine v_iconst G (v := (4 : Int32)) dX4_copyImage_16 (by decide) ?_
      refine v_idiv G dX4_copyImage_17 (by decide) ?_
      refine v_icmp_ge G (tgt := 54) dX4_copyImage_18 (by decide) (fun c_1004 => ?_) (fun c_1004 => ?_)
      · exact v_vret G rfl rfl dX4_copyImage_54
      · refine v_iload_n G 2 dX4_copyImage_21 rfl ?_
        refine v_iload_n G 3 dX4_copyImage_22 rfl ?_
        refine v_iadd G dX4_copyImage_23 ?_
        refine v_namei (fun x_1005 ex_1005 => ?_)
        refine v_istore G [(4, .int x_1005), (0, .ref (adr X 1)), (1, .ref (adr X ks)), (2, .int v2), (3, .int v3)] dX4_copyImage_24 (by decide) rfl ?_
        refine v_iload G 0 dX4_copyImage_26 rfl ?_
        refine v_if_lt G (tgt := 48) dX4_copyImage_28 (by decide) (fun c_1006 => ?_) (fun c_1006 => ?_)
        · refine v_iinc G (v := v3 + (1 : Int32)) 4 [(3, .int (v3 + (1 : Int32))), (4, .int x_1005), (0, .ref (adr X 1)), (1, .ref (adr X ks)), (2, .int v2)] dX4_copyImage_48 rfl rfl (by decide) rfl ?_
          refine v_goto G (tgt := 2) dX4_copyImage_51 (by decide) ?_
          exact v_sub (lv' := [(0, .ref (adr X 1)), (1, .ref (adr X ks)), (2, .int v2), (3, .int (v3 + (1 : Int32)))]) [2, 3, 4, 0] rfl (ih S v2 (v3 + (1 : Int32)) (lp_m (by assumption) hm) (lp_nn (by assumption) hi))
        · refine v_iload G 0 dX4_copyImage_31 rfl ?_
          refine v_aload_n G 2 dX4_copyImage_33 rfl ?_
          refine v_alen G (ty := .int) hA.1 rfl dX4_copyImage_34 ?_
          refine v_icmp_ge G (tgt := 48) dX4_copyImage_35 (by decide) (fun c_1007 => ?_) (fun c_1007 => ?_)
          · refine v_iinc G (v := v3 + (1 : Int32)) 4 [(3, .int (v3 + (1 : Int32))), (4, .int x_1005), (0, .ref (adr X 1)), (1, .ref (adr X ks)), (2, .int v2)] dX4_copyImage_48 rfl rfl (by decide) rfl ?_
            refine v_goto G (tgt := 2) dX4_copyImage_51 (by decide) ?_
            exact v_sub (lv' := [(0, .ref (adr X 1)), (1, .ref (adr X ks)), (2, .int v2), (3, .int (v3 + (1 : Int32)))]) [2, 3, 4, 0] rfl (ih S v2 (v3 + (1 : Int32)) (lp_m (by assumption) hm) (lp_nn (by assumption) hi))
          · refine v_aload_n G 2 dX4_copyImage_38 rfl ?_
            refine v_iload G 0 dX4_copyImage_39 rfl ?_
            refine v_aload_n G 1 dX4_copyImage_41 rfl ?_
            refine v_getr G (ci := 4) (T := TX4) (j := 0) inX4 rfl rfl rfl (by decide) w1_26 dX4_copyImage_42 ?_
            refine v_iload_n G 4 dX4_copyImage_45 rfl ?_
            refine v_iald G rfl (vi_br (by assumption) (by assumption) (by decide)) dX4_copyImage_46 ?_
            refine v_iast G hA.1 (vi_br (by assumption) (by assumption) hA.2) dX4_copyImage_47 (fun S_1008 eS_1008 => ?_)
            refine v_iinc G (v := v3 + (1 : Int32)) 4 [(3, .int (v3 + (1 : Int32))), (4, .int x_1005), (0, .ref (adr X 1)), (1, .ref (adr X ks)), (2, .int v2)] dX4_copyImage_48 rfl rfl (by decide) rfl ?_
            refine v_goto G (tgt := 2) dX4_copyImage_51 (by decide) ?_
            exact v_sub (lv' := [(0, .ref (adr X 1)), (1, .ref (adr X ks)), (2, .int v2), (3, .int (v3 + (1 : Int32)))]) [2, 3, 4, 0] rfl (ih S_1008 v2 (v3 + (1 : Int32)) (lp_m (by assumption) hm) (lp_nn (by assumption) hi))
noncomputable def f_L_copyImage (S : St) (ks n : Nat) (a2 : Int32) : St := (f_L_copyImage_2 fuz S ks n a2 (0 : Int32))
set_option linter.unusedVariables false in
set_option maxHeartbeats 4000000 in
set_option maxRecDepth 100000 in
theorem c_L_copyImage (l : Launch) {X : vD} (hJ : sh_J X) (hX : shp X = shX) (ks n : Nat) (hA : shX[ks]? = some (.inl (0, n)) ∧ n < 2 ^ 31) (S : St) (a2 : Int32)  : Con l X yX4_copyImage cX4_copyImage 5 none 0 [.ref (adr X 1), .ref (adr X ks), .int a2] S (none, f_L_copyImage S ks n a2) := by
  refine con_of (ρ := (fun S : St => ((none, S) : Option Value × St))) (K := f_L_copyImage S ks n a2) hJ hX (by decide) (Nat.le_of_ble_eq_true rfl) (lv := [(0, .ref (adr X 1)), (1, .ref (adr X ks)), (2, .int a2)]) rfl ?_
  intro p e s m below meth c G
  have G : vG p s m _ meth c X shX "SensorNode$Plan" cX4_copyImage 5 none := G
  unfold f_L_copyImage
  refine v_iconst G (v := (0 : Int32)) dX4_copyImage_0 (by decide) ?_
  refine v_istore_n G [(3, .int (0 : Int32)), (0, .ref (adr X 1)), (1, .ref (adr X ks)), (2, .int a2)] dX4_copyImage_1 (by decide) rfl ?_
  exact v_sub (lv' := [(0, .ref (adr X 1)), (1, .ref (adr X ks)), (2, .int a2), (3, .int (0 : Int32))]) [1, 2, 3, 0] rfl (v_L_copyImage_2 hJ hX G hA fuz S a2 (0 : Int32) (lp_z _ _) (by decide))
/-! SensorNode$Plan.addSample -/
theorem qyX4_addSample : yX4_addSample.cls ≠ "java/lang/invoke/MethodHandle" ∧ yX4_addSample.cls ≠ "java/lang/invoke/VarHandle" ∧ (parseMethodDescriptor yX4_addSample.desc).map (fun d => d.parameters.length) = some 1 := by decide +kernel
noncomputable def f_L_addSample (S : St) (a1 : Int32) : Int32 × St := (if (S 1 3) = 0 then ((-1 : Int32), S) else (if (S 1 2) < 0 then ((-1 : Int32), S) else (if (S 1 2) < (nI 1000) then bnv (st_up S 3 (S 1 2).toNatClampNeg a1) (fun S_4 => bnv (st_up S_4 1 2 ((S_4 1 2) + (1 : Int32))) (fun S_5 => (S_5 1 2, S_5))) else ((-1 : Int32), S))))
set_option linter.unusedVariables false in
set_option maxHeartbeats 4000000 in
set_option maxRecDepth 100000 in
theorem c_L_addSample (l : Launch) {X : vD} (hJ : sh_J X) (hX : shp X = shX)  (S : St) (a1 : Int32)  : Con l X yX4_addSample cX4_addSample 2 (some .int) 0 [.ref (adr X 1), .int a1] S (some (.int (f_L_addSample S a1).1), (f_L_addSample S a1).2) := by
  refine con_of (ρ := (fun q : Int32 × St => ((some (.int q.1), q.2) : Option Value × St))) (K := f_L_addSample S a1) hJ hX (by decide) (Nat.le_of_ble_eq_true rfl) (lv := [(0, .ref (adr X 1)), (1, .int a1)]) rfl ?_
  intro p e s m below meth c G
  generalize hρ0 : (fun q : Int32 × St => ((some (.int q.1), q.2) : Option Value × St)) = ρ
  have hρ : ∀ q : Int32 × St, ρ q = ((some (.int q.1), q.2) : Option Value × St) := fun q => by rw [← hρ0]
  have G : vG p s m _ meth c X shX "SensorNode$Plan" cX4_addSample 2 (some .int) := G
  unfold f_L_addSample
  refine v_aload_n G 0 dX4_addSample_0 rfl ?_
  refine v_geti G (ci := 4) (T := TX4) (j := 3) inX4 rfl rfl rfl (by decide) w1_29 dX4_addSample_1 ?_
  refine v_if_eq G (tgt := 26) dX4_addSample_4 (by decide) (fun c_1 => ?_) (fun c_1 => ?_)
  · refine v_iconst G (v := (-1 : Int32)) dX4_addSample_26 (by decide) ?_
    exact v_iret G rfl (hρ _) dX4_addSample_27
  · refine v_aload_n G 0 dX4_addSample_7 rfl ?_
    refine v_geti G (ci := 4) (T := TX4) (j := 2) inX4 rfl rfl rfl (by decide) w1_28 dX4_addSample_8 ?_
    refine v_if_lt G (tgt := 26) dX4_addSample_11 (by decide) (fun c_2 => ?_) (fun c_2 => ?_)
    · refine v_iconst G (v := (-1 : Int32)) dX4_addSample_26 (by decide) ?_
      exact v_iret G rfl (hρ _) dX4_addSample_27
    · refine v_aload_n G 0 dX4_addSample_14 rfl ?_
      refine v_geti G (ci := 4) (T := TX4) (j := 2) inX4 rfl rfl rfl (by decide) w1_28 dX4_addSample_15 ?_
      refine v_aload_n G 0 dX4_addSample_18 rfl ?_
      refine v_getr G (ci := 4) (T := TX4) (j := 1) inX4 rfl rfl rfl (by decide) w1_27 dX4_addSample_19 ?_
      refine v_alen G (ty := .int) rfl rfl dX4_addSample_22 ?_
      refine v_icmp_lt G (tgt := 28) dX4_addSample_23 (by decide) (fun c_3 => ?_) (fun c_3 => ?_)
      · refine v_aload_n G 0 dX4_addSample_28 rfl ?_
        refine v_getr G (ci := 4) (T := TX4) (j := 1) inX4 rfl rfl rfl (by decide) w1_27 dX4_addSample_29 ?_
        refine v_aload_n G 0 dX4_addSample_32 rfl ?_
        refine v_geti G (ci := 4) (T := TX4) (j := 2) inX4 rfl rfl rfl (by decide) w1_28 dX4_addSample_33 ?_
        refine v_iload_n G 1 dX4_addSample_36 rfl ?_
        refine v_iast G rfl (vi_br (by assumption) (by assumption) (by decide)) dX4_addSample_37 (fun S_4 eS_4 => ?_)
        refine v_aload_n G 0 dX4_addSample_38 rfl ?_
        refine v_dup G dX4_addSample_39 rfl ?_
        refine v_geti G (ci := 4) (T := TX4) (j := 2) inX4 rfl rfl rfl (by decide) w1_28 dX4_addSample_40 ?_
        refine v_iconst G (v := (1 : Int32)) dX4_addSample_43 (by decide) ?_
        refine v_iadd G dX4_addSample_44 ?_
        refine v_puti G (ci := 4) (T := TX4) (j := 2) inX4 rfl rfl tyX4_ok nmX4 rfl (by decide) rfl rfl rfl w1_28 dX4_addSample_45 (fun S_5 eS_5 => ?_)
        refine v_aload_n G 0 dX4_addSample_48 rfl ?_
        refine v_geti G (ci := 4) (T := TX4) (j := 2) inX4 rfl rfl rfl (by decide) w1_28 dX4_addSample_49 ?_
        exact v_iret G rfl (hρ _) dX4_addSample_52
      · refine v_iconst G (v := (-1 : Int32)) dX4_addSample_26 (by decide) ?_
        exact v_iret G rfl (hρ _) dX4_addSample_27
/-! SensorNode$Plan.sampleAt -/
theorem qyX4_sampleAt : yX4_sampleAt.cls ≠ "java/lang/invoke/MethodHandle" ∧ yX4_sampleAt.cls ≠ "java/lang/invoke/VarHandle" ∧ (parseMethodDescriptor yX4_sampleAt.desc).map (fun d => d.parameters.length) = some 1 := by decide +kernel
noncomputable def f_L_sampleAt (S : St) (a1 : Int32) : Int32 := (if a1 < 0 then (0 : Int32) else (if a1 < (S 1 2) then (if a1 < (nI 1000) then S 3 a1.toNatClampNeg else (0 : Int32)) else (0 : Int32)))
set_option linter.unusedVariables false in
set_option maxHeartbeats 4000000 in
set_option maxRecDepth 100000 in
theorem c_L_sampleAt (l : Launch) {X : vD} (hJ : sh_J X) (hX : shp X = shX)  (S : St) (a1 : Int32)  : Con l X yX4_sampleAt cX4_sampleAt 2 (some .int) 0 [.ref (adr X 1), .int a1] S (some (.int (f_L_sampleAt S a1)), S) := by
  refine con_of (ρ := (fun r : Int32 => ((some (.int r), S) : Option Value × St))) (K := f_L_sampleAt S a1) hJ hX (by decide) (Nat.le_of_ble_eq_true rfl) (lv := [(0, .ref (adr X 1)), (1, .int a1)]) rfl ?_
  intro p e s m below meth c G
  have G : vG p s m _ meth c X shX "SensorNode$Plan" cX4_sampleAt 2 (some .int) := G
  unfold f_L_sampleAt
  refine v_iload_n G 1 dX4_sampleAt_0 rfl ?_
  refine v_if_lt G (tgt := 21) dX4_sampleAt_1 (by decide) (fun c_1 => ?_) (fun c_1 => ?_)
  · refine v_iconst G (v := (0 : Int32)) dX4_sampleAt_21 (by decide) ?_
    refine v_goto G (tgt := 31) dX4_sampleAt_22 (by decide) ?_
    exact v_iret G rfl rfl dX4_sampleAt_31
  · refine v_iload_n G 1 dX4_sampleAt_4 rfl ?_
    refine v_aload_n G 0 dX4_sampleAt_5 rfl ?_
    refine v_geti G (ci := 4) (T := TX4) (j := 2) inX4 rfl rfl rfl (by decide) w1_28 dX4_sampleAt_6 ?_
    refine v_icmp_ge G (tgt := 21) dX4_sampleAt_9 (by decide) (fun c_2 => ?_) (fun c_2 => ?_)
    · refine v_iconst G (v := (0 : Int32)) dX4_sampleAt_21 (by decide) ?_
      refine v_goto G (tgt := 31) dX4_sampleAt_22 (by decide) ?_
      exact v_iret G rfl rfl dX4_sampleAt_31
    · refine v_iload_n G 1 dX4_sampleAt_12 rfl ?_
      refine v_aload_n G 0 dX4_sampleAt_13 rfl ?_
      refine v_getr G (ci := 4) (T := TX4) (j := 1) inX4 rfl rfl rfl (by decide) w1_27 dX4_sampleAt_14 ?_
      refine v_alen G (ty := .int) rfl rfl dX4_sampleAt_17 ?_
      refine v_icmp_lt G (tgt := 25) dX4_sampleAt_18 (by decide) (fun c_3 => ?_) (fun c_3 => ?_)
      · refine v_aload_n G 0 dX4_sampleAt_25 rfl ?_
        refine v_getr G (ci := 4) (T := TX4) (j := 1) inX4 rfl rfl rfl (by decide) w1_27 dX4_sampleAt_26 ?_
        refine v_iload_n G 1 dX4_sampleAt_29 rfl ?_
        refine v_iald G rfl (vi_br (by assumption) (by assumption) (by decide)) dX4_sampleAt_30 ?_
        exact v_iret G rfl rfl dX4_sampleAt_31
      · refine v_iconst G (v := (0 : Int32)) dX4_sampleAt_21 (by decide) ?_
        refine v_goto G (tgt := 31) dX4_sampleAt_22 (by decide) ?_
        exact v_iret G rfl rfl dX4_sampleAt_31
/-! SensorNode$Plan.bufferWords -/
theorem qyX4_bufferWords : yX4_bufferWords.cls ≠ "java/lang/invoke/MethodHandle" ∧ yX4_bufferWords.cls ≠ "java/lang/invoke/VarHandle" ∧ (parseMethodDescriptor yX4_bufferWords.desc).map (fun d => d.parameters.length) = some 0 := by decide +kernel
noncomputable def f_L_bufferWords (S : St) : Int32 := (36 : Int32) + ((S 1 4) / (4 : Int32))
set_option linter.unusedVariables false in
set_option maxHeartbeats 4000000 in
set_option maxRecDepth 100000 in
theorem c_L_bufferWords (l : Launch) {X : vD} (hJ : sh_J X) (hX : shp X = shX)  (S : St)  : Con l X yX4_bufferWords cX4_bufferWords 1 (some .int) 0 [.ref (adr X 1)] S (some (.int (f_L_bufferWords S)), S) := by
  refine con_of (ρ := (fun r : Int32 => ((some (.int r), S) : Option Value × St))) (K := f_L_bufferWords S) hJ hX (by decide) (Nat.le_of_ble_eq_true rfl) (lv := [(0, .ref (adr X 1))]) rfl ?_
  intro p e s m below meth c G
  have G : vG p s m _ meth c X shX "SensorNode$Plan" cX4_bufferWords 1 (some .int) := G
  unfold f_L_bufferWords
  refine v_bipush G (v := (36 : Int32)) dX4_bufferWords_0 (by decide) ?_
  refine v_aload_n G 0 dX4_bufferWords_2 rfl ?_
  refine v_geti G (ci := 4) (T := TX4) (j := 4) inX4 rfl rfl rfl (by decide) w1_31 dX4_bufferWords_3 ?_
  refine v_iconst G (v := (4 : Int32)) dX4_bufferWords_6 (by decide) ?_
  refine v_idiv G dX4_bufferWords_7 (by decide) ?_
  refine v_iadd G dX4_bufferWords_8 ?_
  exact v_iret G rfl rfl dX4_bufferWords_9

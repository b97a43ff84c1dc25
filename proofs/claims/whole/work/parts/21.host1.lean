/-! SensorNodeModel$Guest.begin -/
theorem qyX9_begin : yX9_begin.cls ≠ "java/lang/invoke/MethodHandle" ∧ yX9_begin.cls ≠ "java/lang/invoke/VarHandle" ∧ (parseMethodDescriptor yX9_begin.desc).map (fun d => d.parameters.length) = some 3 := by decide +kernel
noncomputable def f_H_begin_57 : Nat → St → Nat → Nat → Nat → Nat → Nat → Int32 → Int32 → Int32 → Int32 → St
  | 0, S, _, _, _, _, _, _, _, _, _ => S
  | fn + 1, S, kg, kx, kr, ko, n, v1, v2, v3, v4 => (if v4 < (1024 : Int32) then bnv (st_up S kr v4.toNatClampNeg (0 : Int32)) (fun S_1059 => (f_H_begin_57 fn S_1059 kg kx kr ko n v1 v2 v3 (v4 + (1 : Int32)))) else S)
set_option linter.unusedVariables false in
set_option maxHeartbeats 4000000 in
set_option maxRecDepth 100000 in
theorem v_H_begin_57 {p : Program} {l : Launch} {e : Env} {s : State} {m : MethodId} {args : Array Value} {below : List Frame} {meth : Method} {c : Code} {X : vD}  (hJ : sh_J X) (hX : shp X = shM) {kg kx kr ko n : Nat} (G : vG p s m args meth c X shM "SensorNodeModel$Guest" cX9_begin 5 none) (hH : isH kg kx kr ko n) : ∀ (fuel : Nat) (S : St) (v1 v2 v3 v4 : Int32) , (((1024 : Int32)).toInt - v4.toInt).toNat < fuel → ¬ v4 < 0 → V p l e 0 s m args below meth c X 5 (fun S : St => ((none, S) : Option Value × St)) S 57 [(0, .ref (adr X kg)), (1, .int v1), (2, .int v2), (3, .int v3), (4, .int v4)] [] (f_H_begin_57 fuel S kg kx kr ko n v1 v2 v3 v4) := by
  intro fuel
  induction fuel with
  | zero =>
    intro S v1 v2 v3 v4 hm hi
    exact absurd hm (Nat.not_lt_zero _)
  | succ fn ih =>
    intro S v1 v2 v3 v4 hm hi
    rw [f_H_begin_57]
    refine v_iload G 4 dX9_begin_57 rfl ?_
    refine v_sipush G (v := (1024 : Int32)) dX9_begin_59 (by decide) ?_
    refine v_icmp_ge G (tgt := 79) dX9_begin_62 (by decide) (fun c_1058 => ?_) (fun c_1058 => ?_)
    · exact v_vret G rfl rfl dX9_begin_79
    · refine v_aload_n G 0 dX9_begin_65 rfl ?_
      refine v_getr G (ci := 9) (T := TX9) (j := 5) inX9 rfl hH.1 rfl (by decide) w3_238 dX9_begin_66 ?_
      refine v_iload G 4 dX9_begin_69 rfl ?_
      refine v_iconst G (v := (0 : Int32)) dX9_begin_71 (by decide) ?_
      refine v_iast G hH.2.2.1 (vi_br hi (by assumption) (by decide)) dX9_begin_72 (fun S_1059 eS_1059 => ?_)
      refine v_iinc G (v := v4 + (1 : Int32)) 4 [(4, .int (v4 + (1 : Int32))), (0, .ref (adr X kg)), (1, .int v1), (2, .int v2), (3, .int v3)] dX9_begin_73 rfl rfl (by decide) rfl ?_
      refine v_goto G (tgt := 57) dX9_begin_76 (by decide) ?_
      exact v_sub (lv' := [(0, .ref (adr X kg)), (1, .int v1), (2, .int v2), (3, .int v3), (4, .int (v4 + (1 : Int32)))]) [1, 2, 3, 4, 0] rfl (ih S_1059 v1 v2 v3 (v4 + (1 : Int32)) (lp_m (by assumption) hm) (lp_nn (by assumption) hi))
noncomputable def f_H_begin_33 : Nat → St → Nat → Nat → Nat → Nat → Nat → Int32 → Int32 → Int32 → Int32 → St
  | 0, S, _, _, _, _, _, _, _, _, _ => S
  | fn + 1, S, kg, kx, kr, ko, n, v1, v2, v3, v4 => (if v4 < (32 : Int32) then bnv (st_up S kx v4.toNatClampNeg (0 : Int32)) (fun S_1035 => (f_H_begin_33 fn S_1035 kg kx kr ko n v1 v2 v3 (v4 + (1 : Int32)))) else (f_H_begin_57 fuz S kg kx kr ko n v1 v2 v3 (0 : Int32)))
set_option linter.unusedVariables false in
set_option maxHeartbeats 4000000 in
set_option maxRecDepth 100000 in
theorem v_H_begin_33 {p : Program} {l : Launch} {e : Env} {s : State} {m : MethodId} {args : Array Value} {below : List Frame} {meth : Method} {c : Code} {X : vD}  (hJ : sh_J X) (hX : shp X = shM) {kg kx kr ko n : Nat} (G : vG p s m args meth c X shM "SensorNodeModel$Guest" cX9_begin 5 none) (hH : isH kg kx kr ko n) : ∀ (fuel : Nat) (S : St) (v1 v2 v3 v4 : Int32) , (((32 : Int32)).toInt - v4.toInt).toNat < fuel → ¬ v4 < 0 → V p l e 0 s m args below meth c X 5 (fun S : St => ((none, S) : Option Value × St)) S 33 [(0, .ref (adr X kg)), (1, .int v1), (2, .int v2), (3, .int v3), (4, .int v4)] [] (f_H_begin_33 fuel S kg kx kr ko n v1 v2 v3 v4) := by
  intro fuel
  induction fuel with
  | zero =>
    intro S v1 v2 v3 v4 hm hi
    exact absurd hm (Nat.not_lt_zero _)
  | succ fn ih =>
    intro S v1 v2 v3 v4 hm hi
    rw [f_H_begin_33]
    refine v_iload G 4 dX9_begin_33 rfl ?_
    refine v_bipush G (v := (32 : Int32)) dX9_begin_35 (by decide) ?_
    refine v_icmp_ge G (tgt := 54) dX9_begin_37 (by decide) (fun c_1034 => ?_) (fun c_1034 => ?_)
    · refine v_iconst G (v := (0 : Int32)) dX9_begin_54 (by decide) ?_
      refine v_istore G [(4, .int (0 : Int32)), (0, .ref (adr X kg)), (1, .int v1), (2, .int v2), (3, .int v3)] dX9_begin_55 (by decide) rfl ?_
      exact v_sub (lv' := [(0, .ref (adr X kg)), (1, .int v1), (2, .int v2), (3, .int v3), (4, .int (0 : Int32))]) [1, 2, 3, 4, 0] rfl (v_H_begin_57 hJ hX G hH fuz S v1 v2 v3 (0 : Int32) (lp_z _ _) (by decide))
    · refine v_aload_n G 0 dX9_begin_40 rfl ?_
      refine v_getr G (ci := 9) (T := TX9) (j := 0) inX9 rfl hH.1 rfl (by decide) w3_228 dX9_begin_41 ?_
      refine v_iload G 4 dX9_begin_44 rfl ?_
      refine v_iconst G (v := (0 : Int32)) dX9_begin_46 (by decide) ?_
      refine v_iast G hH.2.1 (vi_br hi (by assumption) (by decide)) dX9_begin_47 (fun S_1035 eS_1035 => ?_)
      refine v_iinc G (v := v4 + (1 : Int32)) 4 [(4, .int (v4 + (1 : Int32))), (0, .ref (adr X kg)), (1, .int v1), (2, .int v2), (3, .int v3)] dX9_begin_48 rfl rfl (by decide) rfl ?_
      refine v_goto G (tgt := 33) dX9_begin_51 (by decide) ?_
      exact v_sub (lv' := [(0, .ref (adr X kg)), (1, .int v1), (2, .int v2), (3, .int v3), (4, .int (v4 + (1 : Int32)))]) [1, 2, 3, 4, 0] rfl (ih S_1035 v1 v2 v3 (v4 + (1 : Int32)) (lp_m (by assumption) hm) (lp_nn (by assumption) hi))
noncomputable def f_H_begin (S : St) (kg kx kr ko n : Nat) (a1 : Int32) (a2 : Int32) (a3 : Int32) : St := bnv (st_up S kg 6 a1) (fun S_1 => bnv (st_up S_1 kg 7 a2) (fun S_2 => bnv (st_up S_2 kg 1 a3) (fun S_3 => bnv (st_up S_3 kg 2 (0 : Int32)) (fun S_4 => bnv (st_up S_4 kg 3 (0 : Int32)) (fun S_5 => bnv (st_up S_5 kg 4 (0 : Int32)) (fun S_6 => (f_H_begin_33 fuz S_6 kg kx kr ko n a1 a2 a3 (0 : Int32))))))))
set_option linter.unusedVariables false in
set_option maxHeartbeats 4000000 in
set_option maxRecDepth 100000 in
theorem c_H_begin (l : Launch) {X : vD} (hJ : sh_J X) (hX : shp X = shM) (kg kx kr ko n : Nat) (hH : isH kg kx kr ko n) (S : St) (a1 : Int32) (a2 : Int32) (a3 : Int32)  : Con l X yX9_begin cX9_begin 5 none 0 [.ref (adr X kg), .int a1, .int a2, .int a3] S (none, f_H_begin S kg kx kr ko n a1 a2 a3) := by
  refine con_of (ρ := (fun S : St => ((none, S) : Option Value × St))) (K := f_H_begin S kg kx kr ko n a1 a2 a3) hJ hX (by decide) (Nat.le_of_ble_eq_true rfl) (lv := [(0, .ref (adr X kg)), (1, .int a1), (2, .int a2), (3, .int a3)]) rfl ?_
  intro p e s m below meth c G
  have G : vG p s m _ meth c X shM "SensorNodeModel$Guest" cX9_begin 5 none := G
  unfold f_H_begin
  refine v_aload_n G 0 dX9_begin_0 rfl ?_
  refine v_iload_n G 1 dX9_begin_1 rfl ?_
  refine v_puti G (ci := 9) (T := TX9) (j := 6) inX9 rfl hH.1 tyX9_ok nmX9 rfl (by decide) rfl rfl rfl w4_0 dX9_begin_2 (fun S_1 eS_1 => ?_)
  refine v_aload_n G 0 dX9_begin_5 rfl ?_
  refine v_iload_n G 2 dX9_begin_6 rfl ?_
  refine v_puti G (ci := 9) (T := TX9) (j := 7) inX9 rfl hH.1 tyX9_ok nmX9 rfl (by decide) rfl rfl rfl w4_2 dX9_begin_7 (fun S_2 eS_2 => ?_)
  refine v_aload_n G 0 dX9_begin_10 rfl ?_
  refine v_iload_n G 3 dX9_begin_11 rfl ?_
  refine v_puti G (ci := 9) (T := TX9) (j := 1) inX9 rfl hH.1 tyX9_ok nmX9 rfl (by decide) rfl rfl rfl w3_230 dX9_begin_12 (fun S_3 eS_3 => ?_)
  refine v_aload_n G 0 dX9_begin_15 rfl ?_
  refine v_iconst G (v := (0 : Int32)) dX9_begin_16 (by decide) ?_
  refine v_puti G (ci := 9) (T := TX9) (j := 2) inX9 rfl hH.1 tyX9_ok nmX9 rfl (by decide) rfl rfl rfl w3_232 dX9_begin_17 (fun S_4 eS_4 => ?_)
  refine v_aload_n G 0 dX9_begin_20 rfl ?_
  refine v_iconst G (v := (0 : Int32)) dX9_begin_21 (by decide) ?_
  refine v_puti G (ci := 9) (T := TX9) (j := 3) inX9 rfl hH.1 tyX9_ok nmX9 rfl (by decide) rfl rfl rfl w3_234 dX9_begin_22 (fun S_5 eS_5 => ?_)
  refine v_aload_n G 0 dX9_begin_25 rfl ?_
  refine v_iconst G (v := (0 : Int32)) dX9_begin_26 (by decide) ?_
  refine v_puti G (ci := 9) (T := TX9) (j := 4) inX9 rfl hH.1 tyX9_ok nmX9 rfl (by decide) rfl rfl rfl w3_236 dX9_begin_27 (fun S_6 eS_6 => ?_)
  refine v_iconst G (v := (0 : Int32)) dX9_begin_30 (by decide) ?_
  refine v_istore G [(4, .int (0 : Int32)), (0, .ref (adr X kg)), (1, .int a1), (2, .int a2), (3, .int a3)] dX9_begin_31 (by decide) rfl ?_
  exact v_sub (lv' := [(0, .ref (adr X kg)), (1, .int a1), (2, .int a2), (3, .int a3), (4, .int (0 : Int32))]) [1, 2, 3, 4, 0] rfl (v_H_begin_33 hJ hX G hH fuz S_6 a1 a2 a3 (0 : Int32) (lp_z _ _) (by decide))
/-! SensorNodeModel$Guest.isIn -/
theorem qyX9_isIn : yX9_isIn.cls ≠ "java/lang/invoke/MethodHandle" ∧ yX9_isIn.cls ≠ "java/lang/invoke/VarHandle" ∧ (parseMethodDescriptor yX9_isIn.desc).map (fun d => d.parameters.length) = some 2 := by decide +kernel
noncomputable def f_H_isIn (S : St) (kg kx kr ko n : Nat) (a1 : Int32) (a2 : Int64) : Int32 := bnl (a1.toInt64 &&& (4294967295 : Int64)) (fun x_1 => (if 0 < (lg_cmp (x_1 + a2) ((S kg 6).toInt64)) then (if (lg_cmp x_1 (1073741824 : Int64)) < 0 then (0 : Int32) else (if 0 < (lg_cmp (x_1 + a2) ((1073741824 : Int64) + ((S kg 7).toInt64))) then (0 : Int32) else (1 : Int32))) else (1 : Int32)))
set_option linter.unusedVariables false in
set_option maxHeartbeats 4000000 in
set_option maxRecDepth 100000 in
theorem c_H_isIn (l : Launch) {X : vD} (hJ : sh_J X) (hX : shp X = shM) (kg kx kr ko n : Nat) (hH : isH kg kx kr ko n) (S : St) (a1 : Int32) (a2 : Int64)  : Con l X yX9_isIn cX9_isIn 6 (some .boolean) 0 [.ref (adr X kg), .int a1, .long a2] S (some (.int (f_H_isIn S kg kx kr ko n a1 a2)), S) := by
  refine con_of (ρ := (fun r : Int32 => ((some (.int r), S) : Option Value × St))) (K := f_H_isIn S kg kx kr ko n a1 a2) hJ hX (by decide) (Nat.le_of_ble_eq_true rfl) (lv := [(0, .ref (adr X kg)), (1, .int a1), (2, .long a2)]) rfl ?_
  intro p e s m below meth c G
  have G : vG p s m _ meth c X shM "SensorNodeModel$Guest" cX9_isIn 6 (some .boolean) := G
  unfold f_H_isIn
  refine v_iload_n G 1 dX9_isIn_0 rfl ?_
  refine v_i2l G dX9_isIn_1 ?_
  refine v_ldc2 G (v := (4294967295 : Int64)) dX9_isIn_2 w5_55 ?_
  refine v_land G dX9_isIn_5 ?_
  refine v_namel (fun x_1 ex_1 => ?_)
  refine v_lstore G [(4, .long x_1), (0, .ref (adr X kg)), (1, .int a1), (2, .long a2)] dX9_isIn_6 (by decide) rfl ?_
  refine v_lload G 0 dX9_isIn_8 rfl ?_
  refine v_lload_n G 3 dX9_isIn_10 rfl ?_
  refine v_ladd G dX9_isIn_11 ?_
  refine v_aload_n G 1 dX9_isIn_12 rfl ?_
  refine v_geti G (ci := 9) (T := TX9) (j := 6) inX9 rfl hH.1 rfl (by decide) w4_0 dX9_isIn_13 ?_
  refine v_i2l G dX9_isIn_16 ?_
  refine v_lcmp G dX9_isIn_17 ?_
  refine v_if_le G (tgt := 47) dX9_isIn_18 (by decide) (fun c_2 => ?_) (fun c_2 => ?_)
  · refine v_iconst G (v := (1 : Int32)) dX9_isIn_47 (by decide) ?_
    refine v_goto G (tgt := 52) dX9_isIn_48 (by decide) ?_
    exact v_zret G rfl rfl rfl dX9_isIn_52
  · refine v_lload G 0 dX9_isIn_21 rfl ?_
    refine v_ldc2 G (v := (1073741824 : Int64)) dX9_isIn_23 w5_56 ?_
    refine v_lcmp G dX9_isIn_26 ?_
    refine v_if_lt G (tgt := 51) dX9_isIn_27 (by decide) (fun c_3 => ?_) (fun c_3 => ?_)
    · refine v_iconst G (v := (0 : Int32)) dX9_isIn_51 (by decide) ?_
      exact v_zret G rfl rfl rfl dX9_isIn_52
    · refine v_lload G 0 dX9_isIn_30 rfl ?_
      refine v_lload_n G 3 dX9_isIn_32 rfl ?_
      refine v_ladd G dX9_isIn_33 ?_
      refine v_ldc2 G (v := (1073741824 : Int64)) dX9_isIn_34 w5_56 ?_
      refine v_aload_n G 1 dX9_isIn_37 rfl ?_
      refine v_geti G (ci := 9) (T := TX9) (j := 7) inX9 rfl hH.1 rfl (by decide) w4_2 dX9_isIn_38 ?_
      refine v_i2l G dX9_isIn_41 ?_
      refine v_ladd G dX9_isIn_42 ?_
      refine v_lcmp G dX9_isIn_43 ?_
      refine v_if_gt G (tgt := 51) dX9_isIn_44 (by decide) (fun c_4 => ?_) (fun c_4 => ?_)
      · refine v_iconst G (v := (0 : Int32)) dX9_isIn_51 (by decide) ?_
        exact v_zret G rfl rfl rfl dX9_isIn_52
      · refine v_iconst G (v := (1 : Int32)) dX9_isIn_47 (by decide) ?_
        refine v_goto G (tgt := 52) dX9_isIn_48 (by decide) ?_
        exact v_zret G rfl rfl rfl dX9_isIn_52
/-! SensorNodeModel$Guest.isRam -/
theorem qyX9_isRam : yX9_isRam.cls ≠ "java/lang/invoke/MethodHandle" ∧ yX9_isRam.cls ≠ "java/lang/invoke/VarHandle" ∧ (parseMethodDescriptor yX9_isRam.desc).map (fun d => d.parameters.length) = some 1 := by decide +kernel
noncomputable def f_H_isRam (S : St) (kg kx kr ko n : Nat) (a1 : Int32) : Int32 := (if (lg_cmp (a1.toInt64 &&& (4294967295 : Int64)) (1073741824 : Int64)) < 0 then (1 : Int32) else (0 : Int32))
set_option linter.unusedVariables false in
set_option maxHeartbeats 4000000 in
set_option maxRecDepth 100000 in
theorem c_H_isRam (l : Launch) {X : vD} (hJ : sh_J X) (hX : shp X = shM) (kg kx kr ko n : Nat) (hH : isH kg kx kr ko n) (S : St) (a1 : Int32)  : Con l X yX9_isRam cX9_isRam 2 (some .boolean) 0 [.ref (adr X kg), .int a1] S (some (.int (f_H_isRam S kg kx kr ko n a1)), S) := by
  refine con_of (ρ := (fun r : Int32 => ((some (.int r), S) : Option Value × St))) (K := f_H_isRam S kg kx kr ko n a1) hJ hX (by decide) (Nat.le_of_ble_eq_true rfl) (lv := [(0, .ref (adr X kg)), (1, .int a1)]) rfl ?_
  intro p e s m below meth c G
  have G : vG p s m _ meth c X shM "SensorNodeModel$Guest" cX9_isRam 2 (some .boolean) := G
  unfold f_H_isRam
  refine v_iload_n G 1 dX9_isRam_0 rfl ?_
  refine v_i2l G dX9_isRam_1 ?_
  refine v_ldc2 G (v := (4294967295 : Int64)) dX9_isRam_2 w5_55 ?_
  refine v_land G dX9_isRam_5 ?_
  refine v_ldc2 G (v := (1073741824 : Int64)) dX9_isRam_6 w5_56 ?_
  refine v_lcmp G dX9_isRam_9 ?_
  refine v_if_ge G (tgt := 17) dX9_isRam_10 (by decide) (fun c_1 => ?_) (fun c_1 => ?_)
  · refine v_iconst G (v := (0 : Int32)) dX9_isRam_17 (by decide) ?_
    exact v_zret G rfl rfl rfl dX9_isRam_18
  · refine v_iconst G (v := (1 : Int32)) dX9_isRam_13 (by decide) ?_
    refine v_goto G (tgt := 18) dX9_isRam_14 (by decide) ?_
    exact v_zret G rfl rfl rfl dX9_isRam_18
/-! SensorNodeModel$Guest.wordAt -/
theorem qyX9_wordAt : yX9_wordAt.cls ≠ "java/lang/invoke/MethodHandle" ∧ yX9_wordAt.cls ≠ "java/lang/invoke/VarHandle" ∧ (parseMethodDescriptor yX9_wordAt.desc).map (fun d => d.parameters.length) = some 1 := by decide +kernel
noncomputable def f_H_wordAt (S : St) (kg kx kr ko n : Nat) (a1 : Int32) : Int32 := (if (f_H_isRam S kg kx kr ko n a1) = 0 then S ko ((S kg 9) + ((((a1.toInt64 &&& (4294967295 : Int64)) - (1073741824 : Int64)) >>> ((2 : Int32).toInt64 &&& 63)).toInt32)).toNatClampNeg else S kr (ush a1 (2 : Int32)).toNatClampNeg)
def k_H_wordAt (S : St) (kg kx kr ko n : Nat) (a1 : Int32) : Prop := (if (f_H_isRam S kg kx kr ko n a1) = 0 then (¬ S kg 8 = 0 ∧ vp_in ((S kg 9) + ((((a1.toInt64 &&& (4294967295 : Int64)) - (1073741824 : Int64)) >>> ((2 : Int32).toInt64 &&& 63)).toInt32)) n) else vp_in (ush a1 (2 : Int32)) 1024)
set_option linter.unusedVariables false in
set_option maxHeartbeats 4000000 in
set_option maxRecDepth 100000 in
theorem c_H_wordAt (l : Launch) {X : vD} (hJ : sh_J X) (hX : shp X = shM) (kg kx kr ko n : Nat) (hH : isH kg kx kr ko n) (S : St) (a1 : Int32) (hk : k_H_wordAt S kg kx kr ko n a1) : Con l X yX9_wordAt cX9_wordAt 2 (some .int) 1 [.ref (adr X kg), .int a1] S (some (.int (f_H_wordAt S kg kx kr ko n a1)), S) := by
  refine con_of (ρ := (fun r : Int32 => ((some (.int r), S) : Option Value × St))) (K := f_H_wordAt S kg kx kr ko n a1) hJ hX (by decide) (Nat.le_of_ble_eq_true rfl) (lv := [(0, .ref (adr X kg)), (1, .int a1)]) rfl ?_
  intro p e s m below meth c G
  have G : vG p s m _ meth c X shM "SensorNodeModel$Guest" cX9_wordAt 2 (some .int) := G
  unfold f_H_wordAt
  unfold k_H_wordAt at hk
  refine v_aload_n G 0 dX9_wordAt_0 rfl ?_
  refine v_iload_n G 1 dX9_wordAt_1 rfl ?_
  refine v_callVi G (As := [.int a1]) (st := []) (c_H_isRam l hJ hX kg kx kr ko n hH S a1) (by decide) (by decide) (ci := 9) rfl hH.1 w5_51 w5_53 w0_40 w1_10 w5_54 qyX9_isRam rfl (Nat.le_of_ble_eq_true rfl) dX9_wordAt_2 ?_
  refine v_if_eq G (tgt := 19) dX9_wordAt_5 (by decide) (fun c_1 => ?_) (fun c_1 => ?_)
  · replace hk := ok_t c_1 hk
    refine v_aload_n G 0 dX9_wordAt_19 rfl ?_
    refine v_getq G (ci := 9) (T := TX9) (j := 8) inX9 rfl hH.1 rfl (by decide) w4_4 hk.1 dX9_wordAt_20 ?_
    replace hk := hk.2
    refine v_aload_n G 0 dX9_wordAt_23 rfl ?_
    refine v_geti G (ci := 9) (T := TX9) (j := 9) inX9 rfl hH.1 rfl (by decide) w4_6 dX9_wordAt_24 ?_
    refine v_iload_n G 1 dX9_wordAt_27 rfl ?_
    refine v_i2l G dX9_wordAt_28 ?_
    refine v_ldc2 G (v := (4294967295 : Int64)) dX9_wordAt_29 w5_55 ?_
    refine v_land G dX9_wordAt_32 ?_
    refine v_ldc2 G (v := (1073741824 : Int64)) dX9_wordAt_33 w5_56 ?_
    refine v_lsub G dX9_wordAt_36 ?_
    refine v_iconst G (v := (2 : Int32)) dX9_wordAt_37 (by decide) ?_
    refine v_lshr G dX9_wordAt_38 ?_
    refine v_l2i G dX9_wordAt_39 ?_
    refine v_iadd G dX9_wordAt_40 ?_
    refine v_iald G hH.2.2.2 hk dX9_wordAt_41 ?_
    exact v_iret G rfl rfl dX9_wordAt_42
  · replace hk := ok_f c_1 hk
    refine v_aload_n G 0 dX9_wordAt_8 rfl ?_
    refine v_getr G (ci := 9) (T := TX9) (j := 5) inX9 rfl hH.1 rfl (by decide) w3_238 dX9_wordAt_9 ?_
    refine v_iload_n G 1 dX9_wordAt_12 rfl ?_
    refine v_iconst G (v := (2 : Int32)) dX9_wordAt_13 (by decide) ?_
    refine v_iushr G dX9_wordAt_14 ?_
    refine v_iald G hH.2.2.1 hk dX9_wordAt_15 ?_
    refine v_goto G (tgt := 42) dX9_wordAt_16 (by decide) ?_
    exact v_iret G rfl rfl dX9_wordAt_42
/-! SensorNodeModel$Guest.byteAt -/
theorem qyX9_byteAt : yX9_byteAt.cls ≠ "java/lang/invoke/MethodHandle" ∧ yX9_byteAt.cls ≠ "java/lang/invoke/VarHandle" ∧ (parseMethodDescriptor yX9_byteAt.desc).map (fun d => d.parameters.length) = some 1 := by decide +kernel
noncomputable def f_H_byteAt (S : St) (kg kx kr ko n : Nat) (a1 : Int32) : Int32 := (ush (f_H_wordAt S kg kx kr ko n a1) ((8 : Int32) * (a1 &&& (3 : Int32)))) &&& (255 : Int32)
def k_H_byteAt (S : St) (kg kx kr ko n : Nat) (a1 : Int32) : Prop := k_H_wordAt S kg kx kr ko n a1
set_option linter.unusedVariables false in
set_option maxHeartbeats 4000000 in
set_option maxRecDepth 100000 in
theorem c_H_byteAt (l : Launch) {X : vD} (hJ : sh_J X) (hX : shp X = shM) (kg kx kr ko n : Nat) (hH : isH kg kx kr ko n) (S : St) (a1 : Int32) (hk : k_H_byteAt S kg kx kr ko n a1) : Con l X yX9_byteAt cX9_byteAt 2 (some .int) 2 [.ref (adr X kg), .int a1] S (some (.int (f_H_byteAt S kg kx kr ko n a1)), S) := by
  refine con_of (ρ := (fun r : Int32 => ((some (.int r), S) : Option Value × St))) (K := f_H_byteAt S kg kx kr ko n a1) hJ hX (by decide) (Nat.le_of_ble_eq_true rfl) (lv := [(0, .ref (adr X kg)), (1, .int a1)]) rfl ?_
  intro p e s m below meth c G
  have G : vG p s m _ meth c X shM "SensorNodeModel$Guest" cX9_byteAt 2 (some .int) := G
  unfold f_H_byteAt
  unfold k_H_byteAt at hk
  refine v_aload_n G 0 dX9_byteAt_0 rfl ?_
  refine v_iload_n G 1 dX9_byteAt_1 rfl ?_
  refine v_callVi G (As := [.int a1]) (st := []) (c_H_wordAt l hJ hX kg kx kr ko n hH S a1 hk) (by decide) (by decide) (ci := 9) rfl hH.1 w5_47 w5_48 w5_49 w1_10 w5_50 qyX9_wordAt rfl (Nat.le_of_ble_eq_true rfl) dX9_byteAt_2 ?_
  refine v_bipush G (v := (8 : Int32)) dX9_byteAt_5 (by decide) ?_
  refine v_iload_n G 1 dX9_byteAt_7 rfl ?_
  refine v_iconst G (v := (3 : Int32)) dX9_byteAt_8 (by decide) ?_
  refine v_iand G dX9_byteAt_9 ?_
  refine v_imul G dX9_byteAt_10 ?_
  refine v_iushr G dX9_byteAt_11 ?_
  refine v_sipush G (v := (255 : Int32)) dX9_byteAt_12 (by decide) ?_
  refine v_iand G dX9_byteAt_15 ?_
  exact v_iret G rfl rfl dX9_byteAt_16
/-! SensorNodeModel$Guest.bits -/
theorem qyX9_bits : yX9_bits.cls ≠ "java/lang/invoke/MethodHandle" ∧ yX9_bits.cls ≠ "java/lang/invoke/VarHandle" ∧ (parseMethodDescriptor yX9_bits.desc).map (fun d => d.parameters.length) = some 3 := by decide +kernel
noncomputable def f_H_bits (S : St) (a0 : Int32) (a1 : Int32) (a2 : Int32) : Int32 := (ush a0 a1) &&& (((1 : Int32) <<< (a2 &&& 31)) - (1 : Int32))
set_option linter.unusedVariables false in
set_option maxHeartbeats 4000000 in
set_option maxRecDepth 100000 in
theorem c_H_bits (l : Launch) {X : vD} (hJ : sh_J X) (hX : shp X = shM)  (S : St) (a0 : Int32) (a1 : Int32) (a2 : Int32)  : Con l X yX9_bits cX9_bits 3 (some .int) 0 [.int a0, .int a1, .int a2] S (some (.int (f_H_bits S a0 a1 a2)), S) := by
  refine con_of (ρ := (fun r : Int32 => ((some (.int r), S) : Option Value × St))) (K := f_H_bits S a0 a1 a2) hJ hX (by decide) (Nat.le_of_ble_eq_true rfl) (lv := [(0, .int a0), (1, .int a1), (2, .int a2)]) rfl ?_
  intro p e s m below meth c G
  have G : vG p s m _ meth c X shM "SensorNodeModel$Guest" cX9_bits 3 (some .int) := G
  unfold f_H_bits
  refine v_iload_n G 0 dX9_bits_0 rfl ?_
  refine v_iload_n G 1 dX9_bits_1 rfl ?_
  refine v_iushr G dX9_bits_2 ?_
  refine v_iconst G (v := (1 : Int32)) dX9_bits_3 (by decide) ?_
  refine v_iload_n G 2 dX9_bits_4 rfl ?_
  refine v_ishl G dX9_bits_5 ?_
  refine v_iconst G (v := (1 : Int32)) dX9_bits_6 (by decide) ?_
  refine v_isub G dX9_bits_7 ?_
  refine v_iand G dX9_bits_8 ?_
  exact v_iret G rfl rfl dX9_bits_9
/-! SensorNodeModel$Guest.gives -/
theorem qyX9_gives : yX9_gives.cls ≠ "java/lang/invoke/MethodHandle" ∧ yX9_gives.cls ≠ "java/lang/invoke/VarHandle" ∧ (parseMethodDescriptor yX9_gives.desc).map (fun d => d.parameters.length) = some 1 := by decide +kernel
noncomputable def f_H_gives (S : St) (kg kx kr ko n : Nat) (a1 : Int32) : St := bnv (st_up S kg 18 (1 : Int32)) (fun S_1 => bnv (st_up S_1 kg 15 a1) (fun S_2 => S_2))
set_option linter.unusedVariables false in
set_option maxHeartbeats 4000000 in
set_option maxRecDepth 100000 in
theorem c_H_gives (l : Launch) {X : vD} (hJ : sh_J X) (hX : shp X = shM) (kg kx kr ko n : Nat) (hH : isH kg kx kr ko n) (S : St) (a1 : Int32)  : Con l X yX9_gives cX9_gives 2 none 0 [.ref (adr X kg), .int a1] S (none, f_H_gives S kg kx kr ko n a1) := by
  refine con_of (ρ := (fun S : St => ((none, S) : Option Value × St))) (K := f_H_gives S kg kx kr ko n a1) hJ hX (by decide) (Nat.le_of_ble_eq_true rfl) (lv := [(0, .ref (adr X kg)), (1, .int a1)]) rfl ?_
  intro p e s m below meth c G
  have G : vG p s m _ meth c X shM "SensorNodeModel$Guest" cX9_gives 2 none := G
  unfold f_H_gives
  refine v_aload_n G 0 dX9_gives_0 rfl ?_
  refine v_iconst G (v := (1 : Int32)) dX9_gives_1 (by decide) ?_
  refine v_puti G (ci := 9) (T := TX9) (j := 18) inX9 rfl hH.1 tyX9_ok nmX9 rfl (by decide) rfl rfl rfl w4_20 dX9_gives_2 (fun S_1 eS_1 => ?_)
  refine v_aload_n G 0 dX9_gives_5 rfl ?_
  refine v_iload_n G 1 dX9_gives_6 rfl ?_
  refine v_puti G (ci := 9) (T := TX9) (j := 15) inX9 rfl hH.1 tyX9_ok nmX9 rfl (by decide) rfl rfl rfl w4_16 dX9_gives_7 (fun S_2 eS_2 => ?_)
  exact v_vret G rfl rfl dX9_gives_10
/-! SensorNodeModel$Guest.goes -/
theorem qyX9_goes : yX9_goes.cls ≠ "java/lang/invoke/MethodHandle" ∧ yX9_goes.cls ≠ "java/lang/invoke/VarHandle" ∧ (parseMethodDescriptor yX9_goes.desc).map (fun d => d.parameters.length) = some 1 := by decide +kernel
noncomputable def f_H_goes (S : St) (kg kx kr ko n : Nat) (a1 : Int32) : St := bnv (st_up S kg 14 a1) (fun S_1 => (if (S_1 kg 12) = 0 then (if (a1 &&& (3 : Int32)) = 0 then S_1 else bnv (st_up S_1 kg 12 (12 : Int32)) (fun S_4 => S_4)) else S_1))
set_option linter.unusedVariables false in
set_option maxHeartbeats 4000000 in
set_option maxRecDepth 100000 in
theorem c_H_goes (l : Launch) {X : vD} (hJ : sh_J X) (hX : shp X = shM) (kg kx kr ko n : Nat) (hH : isH kg kx kr ko n) (S : St) (a1 : Int32)  : Con l X yX9_goes cX9_goes 2 none 0 [.ref (adr X kg), .int a1] S (none, f_H_goes S kg kx kr ko n a1) := by
  refine con_of (ρ := (fun S : St => ((none, S) : Option Value × St))) (K := f_H_goes S kg kx kr ko n a1) hJ hX (by decide) (Nat.le_of_ble_eq_true rfl) (lv := [(0, .ref (adr X kg)), (1, .int a1)]) rfl ?_
  intro p e s m below meth c G
  have G : vG p s m _ meth c X shM "SensorNodeModel$Guest" cX9_goes 2 none := G
  unfold f_H_goes
  refine v_aload_n G 0 dX9_goes_0 rfl ?_
  refine v_iload_n G 1 dX9_goes_1 rfl ?_
  refine v_puti G (ci := 9) (T := TX9) (j := 14) inX9 rfl hH.1 tyX9_ok nmX9 rfl (by decide) rfl rfl rfl w4_15 dX9_goes_2 (fun S_1 eS_1 => ?_)
  refine v_aload_n G 0 dX9_goes_5 rfl ?_
  refine v_geti G (ci := 9) (T := TX9) (j := 12) inX9 rfl hH.1 rfl (by decide) w4_11 dX9_goes_6 ?_
  refine v_if_ne G (tgt := 24) dX9_goes_9 (by decide) (fun c_2 => ?_) (fun c_2 => ?_)
  · exact v_vret G rfl rfl dX9_goes_24
  · refine v_iload_n G 1 dX9_goes_12 rfl ?_
    refine v_iconst G (v := (3 : Int32)) dX9_goes_13 (by decide) ?_
    refine v_iand G dX9_goes_14 ?_
    refine v_if_eq G (tgt := 24) dX9_goes_15 (by decide) (fun c_3 => ?_) (fun c_3 => ?_)
    · exact v_vret G rfl rfl dX9_goes_24
    · refine v_aload_n G 0 dX9_goes_18 rfl ?_
      refine v_bipush G (v := (12 : Int32)) dX9_goes_19 (by decide) ?_
      refine v_puti G (ci := 9) (T := TX9) (j := 12) inX9 rfl hH.1 tyX9_ok nmX9 rfl (by decide) rfl rfl rfl w4_11 dX9_goes_21 (fun S_4 eS_4 => ?_)
      exact v_vret G rfl rfl dX9_goes_24
/-! SensorNodeModel$Guest.isBelow -/
theorem qyX9_isBelow : yX9_isBelow.cls ≠ "java/lang/invoke/MethodHandle" ∧ yX9_isBelow.cls ≠ "java/lang/invoke/VarHandle" ∧ (parseMethodDescriptor yX9_isBelow.desc).map (fun d => d.parameters.length) = some 2 := by decide +kernel
noncomputable def f_H_isBelow (S : St) (a0 : Int32) (a1 : Int32) : Int32 := (if (lg_cmp (a0.toInt64 &&& (4294967295 : Int64)) (a1.toInt64 &&& (4294967295 : Int64))) < 0 then (1 : Int32) else (0 : Int32))
set_option linter.unusedVariables false in
set_option maxHeartbeats 4000000 in
set_option maxRecDepth 100000 in
theorem c_H_isBelow (l : Launch) {X : vD} (hJ : sh_J X) (hX : shp X = shM)  (S : St) (a0 : Int32) (a1 : Int32)  : Con l X yX9_isBelow cX9_isBelow 2 (some .boolean) 0 [.int a0, .int a1] S (some (.int (f_H_isBelow S a0 a1)), S) := by
  refine con_of (ρ := (fun r : Int32 => ((some (.int r), S) : Option Value × St))) (K := f_H_isBelow S a0 a1) hJ hX (by decide) (Nat.le_of_ble_eq_true rfl) (lv := [(0, .int a0), (1, .int a1)]) rfl ?_
  intro p e s m below meth c G
  have G : vG p s m _ meth c X shM "SensorNodeModel$Guest" cX9_isBelow 2 (some .boolean) := G
  unfold f_H_isBelow
  refine v_iload_n G 0 dX9_isBelow_0 rfl ?_
  refine v_i2l G dX9_isBelow_1 ?_
  refine v_ldc2 G (v := (4294967295 : Int64)) dX9_isBelow_2 w5_55 ?_
  refine v_land G dX9_isBelow_5 ?_
  refine v_iload_n G 1 dX9_isBelow_6 rfl ?_
  refine v_i2l G dX9_isBelow_7 ?_
  refine v_ldc2 G (v := (4294967295 : Int64)) dX9_isBelow_8 w5_55 ?_
  refine v_land G dX9_isBelow_11 ?_
  refine v_lcmp G dX9_isBelow_12 ?_
  refine v_if_ge G (tgt := 20) dX9_isBelow_13 (by decide) (fun c_1 => ?_) (fun c_1 => ?_)
  · refine v_iconst G (v := (0 : Int32)) dX9_isBelow_20 (by decide) ?_
    exact v_zret G rfl rfl rfl dX9_isBelow_21
  · refine v_iconst G (v := (1 : Int32)) dX9_isBelow_16 (by decide) ?_
    refine v_goto G (tgt := 21) dX9_isBelow_17 (by decide) ?_
    exact v_zret G rfl rfl rfl dX9_isBelow_21
/-! SensorNodeModel$Guest.shifted -/
theorem qyX9_shifted : yX9_shifted.cls ≠ "java/lang/invoke/MethodHandle" ∧ yX9_shifted.cls ≠ "java/lang/invoke/VarHandle" ∧ (parseMethodDescriptor yX9_shifted.desc).map (fun d => d.parameters.length) = some 4 := by decide +kernel
noncomputable def f_H_shifted (S : St) (a0 : Int32) (a1 : Int32) (a2 : Int32) (a3 : Int32) : Int32 := (if a2 = (1 : Int32) then a0 <<< (a1 &&& 31) else (if a3 = 0 then ush a0 a1 else a0 >>> (a1 &&& 31)))
set_option linter.unusedVariables false in
set_option maxHeartbeats 4000000 in
set_option maxRecDepth 100000 in
theorem c_H_shifted (l : Launch) {X : vD} (hJ : sh_J X) (hX : shp X = shM)  (S : St) (a0 : Int32) (a1 : Int32) (a2 : Int32) (a3 : Int32)  : Con l X yX9_shifted cX9_shifted 4 (some .int) 0 [.int a0, .int a1, .int a2, .int a3] S (some (.int (f_H_shifted S a0 a1 a2 a3)), S) := by
  refine con_of (ρ := (fun r : Int32 => ((some (.int r), S) : Option Value × St))) (K := f_H_shifted S a0 a1 a2 a3) hJ hX (by decide) (Nat.le_of_ble_eq_true rfl) (lv := [(0, .int a0), (1, .int a1), (2, .int a2), (3, .int a3)]) rfl ?_
  intro p e s m below meth c G
  have G : vG p s m _ meth c X shM "SensorNodeModel$Guest" cX9_shifted 4 (some .int) := G
  unfold f_H_shifted
  refine v_iload_n G 2 dX9_shifted_0 rfl ?_
  refine v_iconst G (v := (1 : Int32)) dX9_shifted_1 (by decide) ?_
  refine v_icmp_ne G (tgt := 11) dX9_shifted_2 (by decide) (fun c_1 => ?_) (fun c_1 => ?_)
  · refine v_iload_n G 3 dX9_shifted_11 rfl ?_
    refine v_if_ne G (tgt := 21) dX9_shifted_12 (by decide) (fun c_2 => ?_) (fun c_2 => ?_)
    · refine v_iload_n G 0 dX9_shifted_21 rfl ?_
      refine v_iload_n G 1 dX9_shifted_22 rfl ?_
      refine v_ishr G dX9_shifted_23 ?_
      exact v_iret G rfl rfl dX9_shifted_24
    · refine v_iload_n G 0 dX9_shifted_15 rfl ?_
      refine v_iload_n G 1 dX9_shifted_16 rfl ?_
      refine v_iushr G dX9_shifted_17 ?_
      refine v_goto G (tgt := 24) dX9_shifted_18 (by decide) ?_
      exact v_iret G rfl rfl dX9_shifted_24
  · refine v_iload_n G 0 dX9_shifted_5 rfl ?_
    refine v_iload_n G 1 dX9_shifted_6 rfl ?_
    refine v_ishl G dX9_shifted_7 ?_
    refine v_goto G (tgt := 24) dX9_shifted_8 (by decide) ?_
    exact v_iret G rfl rfl dX9_shifted_24
/-! SensorNodeModel$Guest.worked -/
theorem qyX9_worked : yX9_worked.cls ≠ "java/lang/invoke/MethodHandle" ∧ yX9_worked.cls ≠ "java/lang/invoke/VarHandle" ∧ (parseMethodDescriptor yX9_worked.desc).map (fun d => d.parameters.length) = some 3 := by decide +kernel
noncomputable def f_H_worked (S : St) (a0 : Int32) (a1 : Int32) (a2 : Int32) : Int32 := (if a2 = (0 : Int32) then a0 + a1
 else (if a2 = (1 : Int32) then a0 &&& a1
 else (if a2 = (2 : Int32) then (if a0 < a1 then (1 : Int32) else (0 : Int32))
 else (if a2 = (3 : Int32) then (if (f_H_isBelow S a0 a1) = 0 then (0 : Int32) else (1 : Int32))
 else (if a2 = (4 : Int32) then a0 ^^^ a1
 else (if a2 = (5 : Int32) then a0 &&& a1
 else (if a2 = (6 : Int32) then a0 ||| a1
 else a0 &&& a1)))))))
set_option linter.unusedVariables false in
set_option maxHeartbeats 4000000 in
set_option maxRecDepth 100000 in
theorem c_H_worked (l : Launch) {X : vD} (hJ : sh_J X) (hX : shp X = shM)  (S : St) (a0 : Int32) (a1 : Int32) (a2 : Int32)  : Con l X yX9_worked cX9_worked 3 (some .int) 1 [.int a0, .int a1, .int a2] S (some (.int (f_H_worked S a0 a1 a2)), S) := by
  refine con_of (ρ := (fun r : Int32 => ((some (.int r), S) : Option Value × St))) (K := f_H_worked S a0 a1 a2) hJ hX (by decide) (Nat.le_of_ble_eq_true rfl) (lv := [(0, .int a0), (1, .int a1), (2, .int a2)]) rfl ?_
  intro p e s m below meth c G
  have G : vG p s m _ meth c X shM "SensorNodeModel$Guest" cX9_worked 3 (some .int) := G
  unfold f_H_worked
  refine v_iload_n G 2 dX9_worked_0 rfl ?_
  refine v_sw (0 : Int32) (fun h_1 => ?_) (fun h_1 => ?_)
  · refine v_tableIn G (tgt := 44) (off := 43) dX9_worked_1 (by decide) (by decide) (by decide) (by decide) ?_
    refine v_iload_n G 0 dX9_worked_44 rfl ?_
    refine v_iload_n G 1 dX9_worked_45 rfl ?_
    refine v_iadd G dX9_worked_46 ?_
    exact v_iret G rfl rfl dX9_worked_47
  refine v_sw (1 : Int32) (fun h_2 => ?_) (fun h_2 => ?_)
  · refine v_tableIn G (tgt := 81) (off := 80) dX9_worked_1 (by decide) (by decide) (by decide) (by decide) ?_
    refine v_iload_n G 0 dX9_worked_81 rfl ?_
    refine v_iload_n G 1 dX9_worked_82 rfl ?_
    refine v_iand G dX9_worked_83 ?_
    exact v_iret G rfl rfl dX9_worked_84
  refine v_sw (2 : Int32) (fun h_3 => ?_) (fun h_3 => ?_)
  · refine v_tableIn G (tgt := 48) (off := 47) dX9_worked_1 (by decide) (by decide) (by decide) (by decide) ?_
    refine v_iload_n G 0 dX9_worked_48 rfl ?_
    refine v_iload_n G 1 dX9_worked_49 rfl ?_
    refine v_icmp_ge G (tgt := 57) dX9_worked_50 (by decide) (fun c_4 => ?_) (fun c_4 => ?_)
    · refine v_iconst G (v := (0 : Int32)) dX9_worked_57 (by decide) ?_
      exact v_iret G rfl rfl dX9_worked_58
    · refine v_iconst G (v := (1 : Int32)) dX9_worked_53 (by decide) ?_
      refine v_goto G (tgt := 58) dX9_worked_54 (by decide) ?_
      exact v_iret G rfl rfl dX9_worked_58
  refine v_sw (3 : Int32) (fun h_5 => ?_) (fun h_5 => ?_)
  · refine v_tableIn G (tgt := 59) (off := 58) dX9_worked_1 (by decide) (by decide) (by decide) (by decide) ?_
    refine v_iload_n G 0 dX9_worked_59 rfl ?_
    refine v_iload_n G 1 dX9_worked_60 rfl ?_
    refine v_callSi G (As := [.int a0, .int a1]) (st := []) (c_H_isBelow l hJ hX S a0 a1) (by decide) (by decide) w5_102 w5_103 w1_10 w5_104 qyX9_isBelow rfl (Nat.le_of_ble_eq_true rfl) dX9_worked_61 ?_
    refine v_if_eq G (tgt := 71) dX9_worked_64 (by decide) (fun c_6 => ?_) (fun c_6 => ?_)
    · refine v_iconst G (v := (0 : Int32)) dX9_worked_71 (by decide) ?_
      exact v_iret G rfl rfl dX9_worked_72
    · refine v_iconst G (v := (1 : Int32)) dX9_worked_67 (by decide) ?_
      refine v_goto G (tgt := 72) dX9_worked_68 (by decide) ?_
      exact v_iret G rfl rfl dX9_worked_72
  refine v_sw (4 : Int32) (fun h_7 => ?_) (fun h_7 => ?_)
  · refine v_tableIn G (tgt := 73) (off := 72) dX9_worked_1 (by decide) (by decide) (by decide) (by decide) ?_
    refine v_iload_n G 0 dX9_worked_73 rfl ?_
    refine v_iload_n G 1 dX9_worked_74 rfl ?_
    refine v_ixor G dX9_worked_75 ?_
    exact v_iret G rfl rfl dX9_worked_76
  refine v_sw (5 : Int32) (fun h_8 => ?_) (fun h_8 => ?_)
  · refine v_tableIn G (tgt := 81) (off := 80) dX9_worked_1 (by decide) (by decide) (by decide) (by decide) ?_
    refine v_iload_n G 0 dX9_worked_81 rfl ?_
    refine v_iload_n G 1 dX9_worked_82 rfl ?_
    refine v_iand G dX9_worked_83 ?_
    exact v_iret G rfl rfl dX9_worked_84
  refine v_sw (6 : Int32) (fun h_9 => ?_) (fun h_9 => ?_)
  · refine v_tableIn G (tgt := 77) (off := 76) dX9_worked_1 (by decide) (by decide) (by decide) (by decide) ?_
    refine v_iload_n G 0 dX9_worked_77 rfl ?_
    refine v_iload_n G 1 dX9_worked_78 rfl ?_
    refine v_ior G dX9_worked_79 ?_
    exact v_iret G rfl rfl dX9_worked_80
  have th_1 := lv_neT (a := 0) h_1 (by decide)
  have th_2 := lv_neT (a := 1) h_2 (by decide)
  have th_3 := lv_neT (a := 2) h_3 (by decide)
  have th_5 := lv_neT (a := 3) h_5 (by decide)
  have th_7 := lv_neT (a := 4) h_7 (by decide)
  have th_8 := lv_neT (a := 5) h_8 (by decide)
  have th_9 := lv_neT (a := 6) h_9 (by decide)
  refine v_tableOut G (tgt := 81) dX9_worked_1 (by omega) (by decide) ?_
  refine v_iload_n G 0 dX9_worked_81 rfl ?_
  refine v_iload_n G 1 dX9_worked_82 rfl ?_
  refine v_iand G dX9_worked_83 ?_
  exact v_iret G rfl rfl dX9_worked_84
/-! SensorNodeModel$Guest.branch -/
theorem qyX9_branch : yX9_branch.cls ≠ "java/lang/invoke/MethodHandle" ∧ yX9_branch.cls ≠ "java/lang/invoke/VarHandle" ∧ (parseMethodDescriptor yX9_branch.desc).map (fun d => d.parameters.length) = some 4 := by decide +kernel
noncomputable def f_H_branch (S : St) (kg kx kr ko n : Nat) (a1 : Int32) (a2 : Int32) (a3 : Int32) (a4 : Int32) : St := (if a4 = (2 : Int32) then bnv (st_up S kg 12 (11 : Int32)) (fun S_2 => S_2) else (if a4 = (3 : Int32) then bnv (st_up S kg 12 (11 : Int32)) (fun S_22 => S_22) else (if a4 < (2 : Int32) then (if a2 = a3 then (if (a4 - a4 / (2 : Int32) * (2 : Int32)) = 0 then bnv (f_H_goes S kg kx kr ko n ((S kg 1) + (((((a1 >>> ((31 : Int32) &&& 31)) * (4096 : Int32)) + ((f_H_bits S a1 (7 : Int32) (1 : Int32)) * (2048 : Int32))) + ((f_H_bits S a1 (25 : Int32) (6 : Int32)) * (32 : Int32))) + ((f_H_bits S a1 (8 : Int32) (4 : Int32)) * (2 : Int32))))) (fun S_21 => S_21) else S) else (if (a4 - a4 / (2 : Int32) * (2 : Int32)) = 0 then S else bnv (f_H_goes S kg kx kr ko n ((S kg 1) + (((((a1 >>> ((31 : Int32) &&& 31)) * (4096 : Int32)) + ((f_H_bits S a1 (7 : Int32) (1 : Int32)) * (2048 : Int32))) + ((f_H_bits S a1 (25 : Int32) (6 : Int32)) * (32 : Int32))) + ((f_H_bits S a1 (8 : Int32) (4 : Int32)) * (2 : Int32))))) (fun S_19 => S_19))) else (if a4 < (6 : Int32) then (if a2 < a3 then (if (a4 - a4 / (2 : Int32) * (2 : Int32)) = 0 then bnv (f_H_goes S kg kx kr ko n ((S kg 1) + (((((a1 >>> ((31 : Int32) &&& 31)) * (4096 : Int32)) + ((f_H_bits S a1 (7 : Int32) (1 : Int32)) * (2048 : Int32))) + ((f_H_bits S a1 (25 : Int32) (6 : Int32)) * (32 : Int32))) + ((f_H_bits S a1 (8 : Int32) (4 : Int32)) * (2 : Int32))))) (fun S_16 => S_16) else S) else (if (a4 - a4 / (2 : Int32) * (2 : Int32)) = 0 then S else bnv (f_H_goes S kg kx kr ko n ((S kg 1) + (((((a1 >>> ((31 : Int32) &&& 31)) * (4096 : Int32)) + ((f_H_bits S a1 (7 : Int32) (1 : Int32)) * (2048 : Int32))) + ((f_H_bits S a1 (25 : Int32) (6 : Int32)) * (32 : Int32))) + ((f_H_bits S a1 (8 : Int32) (4 : Int32)) * (2 : Int32))))) (fun S_14 => S_14))) else bnx (f_H_isBelow S a2 a3) (fun x_6 => (if (a4 - a4 / (2 : Int32) * (2 : Int32)) = 0 then (if x_6 = (1 : Int32) then bnv (f_H_goes S kg kx kr ko n ((S kg 1) + (((((a1 >>> ((31 : Int32) &&& 31)) * (4096 : Int32)) + ((f_H_bits S a1 (7 : Int32) (1 : Int32)) * (2048 : Int32))) + ((f_H_bits S a1 (25 : Int32) (6 : Int32)) * (32 : Int32))) + ((f_H_bits S a1 (8 : Int32) (4 : Int32)) * (2 : Int32))))) (fun S_11 => S_11) else S) else (if x_6 = (0 : Int32) then bnv (f_H_goes S kg kx kr ko n ((S kg 1) + (((((a1 >>> ((31 : Int32) &&& 31)) * (4096 : Int32)) + ((f_H_bits S a1 (7 : Int32) (1 : Int32)) * (2048 : Int32))) + ((f_H_bits S a1 (25 : Int32) (6 : Int32)) * (32 : Int32))) + ((f_H_bits S a1 (8 : Int32) (4 : Int32)) * (2 : Int32))))) (fun S_9 => S_9) else S)))))))
set_option linter.unusedVariables false in
set_option maxHeartbeats 4000000 in
set_option maxRecDepth 100000 in
theorem c_H_branch (l : Launch) {X : vD} (hJ : sh_J X) (hX : shp X = shM) (kg kx kr ko n : Nat) (hH : isH kg kx kr ko n) (S : St) (a1 : Int32) (a2 : Int32) (a3 : Int32) (a4 : Int32)  : Con l X yX9_branch cX9_branch 6 none 1 [.ref (adr X kg), .int a1, .int a2, .int a3, .int a4] S (none, f_H_branch S kg kx kr ko n a1 a2 a3 a4) := by
  refine con_of (ρ := (fun S : St => ((none, S) : Option Value × St))) (K := f_H_branch S kg kx kr ko n a1 a2 a3 a4) hJ hX (by decide) (Nat.le_of_ble_eq_true rfl) (lv := [(0, .ref (adr X kg)), (1, .int a1), (2, .int a2), (3, .int a3), (4, .int a4)]) rfl ?_
  intro p e s m below meth c G
  have G : vG p s m _ meth c X shM "SensorNodeModel$Guest" cX9_branch 6 none := G
  unfold f_H_branch
  refine v_iload G 4 dX9_branch_0 rfl ?_
  refine v_iconst G (v := (2 : Int32)) dX9_branch_2 (by decide) ?_
  refine v_icmp_eq G (tgt := 12) dX9_branch_3 (by decide) (fun c_1 => ?_) (fun c_1 => ?_)
  · refine v_aload_n G 0 dX9_branch_12 rfl ?_
    refine v_bipush G (v := (11 : Int32)) dX9_branch_13 (by decide) ?_
    refine v_puti G (ci := 9) (T := TX9) (j := 12) inX9 rfl hH.1 tyX9_ok nmX9 rfl (by decide) rfl rfl rfl w4_11 dX9_branch_15 (fun S_2 eS_2 => ?_)
    exact v_vret G rfl rfl dX9_branch_18
  · refine v_iload G 4 dX9_branch_6 rfl ?_
    refine v_iconst G (v := (3 : Int32)) dX9_branch_8 (by decide) ?_
    refine v_icmp_ne G (tgt := 19) dX9_branch_9 (by decide) (fun c_3 => ?_) (fun c_3 => ?_)
    · refine v_iload G 4 dX9_branch_19 rfl ?_
      refine v_iconst G (v := (2 : Int32)) dX9_branch_21 (by decide) ?_
      refine v_icmp_ge G (tgt := 38) dX9_branch_22 (by decide) (fun c_4 => ?_) (fun c_4 => ?_)
      · refine v_iload G 4 dX9_branch_38 rfl ?_
        refine v_bipush G (v := (6 : Int32)) dX9_branch_40 (by decide) ?_
        refine v_icmp_ge G (tgt := 58) dX9_branch_42 (by decide) (fun c_5 => ?_) (fun c_5 => ?_)
        · refine v_iload_n G 2 dX9_branch_58 rfl ?_
          refine v_iload_n G 3 dX9_branch_59 rfl ?_
          refine v_callSi G (As := [.int a2, .int a3]) (st := []) (c_H_isBelow l hJ hX S a2 a3) (by decide) (by decide) w5_102 w5_103 w1_10 w5_104 qyX9_isBelow rfl (Nat.le_of_ble_eq_true rfl) dX9_branch_60 ?_
          refine v_namei (fun x_6 ex_6 => ?_)
          refine v_istore G [(5, .int x_6), (0, .ref (adr X kg)), (1, .int a1), (2, .int a2), (3, .int a3), (4, .int a4)] dX9_branch_63 (by decide) rfl ?_
          refine v_iload G 0 dX9_branch_65 rfl ?_
          refine v_iload G 5 dX9_branch_67 rfl ?_
          refine v_iconst G (v := (2 : Int32)) dX9_branch_69 (by decide) ?_
          refine v_irem G dX9_branch_70 (by decide) ?_
          refine v_if_ne G (tgt := 78) dX9_branch_71 (by decide) (fun c_7 => ?_) (fun c_7 => ?_)
          · refine v_iconst G (v := (0 : Int32)) dX9_branch_78 (by decide) ?_
            refine v_icmp_ne G (tgt := 133) dX9_branch_79 (by decide) (fun c_8 => ?_) (fun c_8 => ?_)
            · exact v_vret G rfl rfl dX9_branch_133
            · refine v_aload_n G 1 dX9_branch_82 rfl ?_
              refine v_aload_n G 1 dX9_branch_83 rfl ?_
              refine v_geti G (ci := 9) (T := TX9) (j := 1) inX9 rfl hH.1 rfl (by decide) w3_230 dX9_branch_84 ?_
              refine v_iload_n G 2 dX9_branch_87 rfl ?_
              refine v_bipush G (v := (31 : Int32)) dX9_branch_88 (by decide) ?_
              refine v_ishr G dX9_branch_90 ?_
              refine v_sipush G (v := (4096 : Int32)) dX9_branch_91 (by decide) ?_
              refine v_imul G dX9_branch_94 ?_
              refine v_iload_n G 2 dX9_branch_95 rfl ?_
              refine v_bipush G (v := (7 : Int32)) dX9_branch_96 (by decide) ?_
              refine v_iconst G (v := (1 : Int32)) dX9_branch_98 (by decide) ?_
              refine v_callSi G (As := [.int a1, .int (7 : Int32), .int (1 : Int32)]) (st := [.int ((a1 >>> ((31 : Int32) &&& 31)) * (4096 : Int32)), .int (S kg 1), .ref (adr X kg)]) (c_H_bits l hJ hX S a1 (7 : Int32) (1 : Int32)) (by decide) (by decide) w5_57 w5_58 w1_10 w5_59 qyX9_bits rfl (Nat.le_of_ble_eq_true rfl) dX9_branch_99 ?_
              refine v_sipush G (v := (2048 : Int32)) dX9_branch_102 (by decide) ?_
              refine v_imul G dX9_branch_105 ?_
              refine v_iadd G dX9_branch_106 ?_
              refine v_iload_n G 2 dX9_branch_107 rfl ?_
              refine v_bipush G (v := (25 : Int32)) dX9_branch_108 (by decide) ?_
              refine v_bipush G (v := (6 : Int32)) dX9_branch_110 (by decide) ?_
              refine v_callSi G (As := [.int a1, .int (25 : Int32), .int (6 : Int32)]) (st := [.int (((a1 >>> ((31 : Int32) &&& 31)) * (4096 : Int32)) + ((f_H_bits S a1 (7 : Int32) (1 : Int32)) * (2048 : Int32))), .int (S kg 1), .ref (adr X kg)]) (c_H_bits l hJ hX S a1 (25 : Int32) (6 : Int32)) (by decide) (by decide) w5_57 w5_58 w1_10 w5_59 qyX9_bits rfl (Nat.le_of_ble_eq_true rfl) dX9_branch_112 ?_
              refine v_bipush G (v := (32 : Int32)) dX9_branch_115 (by decide) ?_
              refine v_imul G dX9_branch_117 ?_
              refine v_iadd G dX9_branch_118 ?_
              refine v_iload_n G 2 dX9_branch_119 rfl ?_
              refine v_bipush G (v := (8 : Int32)) dX9_branch_120 (by decide) ?_
              refine v_iconst G (v := (4 : Int32)) dX9_branch_122 (by decide) ?_
              refine v_callSi G (As := [.int a1, .int (8 : Int32), .int (4 : Int32)]) (st := [.int ((((a1 >>> ((31 : Int32) &&& 31)) * (4096 : Int32)) + ((f_H_bits S a1 (7 : Int32) (1 : Int32)) * (2048 : Int32))) + ((f_H_bits S a1 (25 : Int32) (6 : Int32)) * (32 : Int32))), .int (S kg 1), .ref (adr X kg)]) (c_H_bits l hJ hX S a1 (8 : Int32) (4 : Int32)) (by decide) (by decide) w5_57 w5_58 w1_10 w5_59 qyX9_bits rfl (Nat.le_of_ble_eq_true rfl) dX9_branch_123 ?_
              refine v_iconst G (v := (2 : Int32)) dX9_branch_126 (by decide) ?_
              refine v_imul G dX9_branch_127 ?_
              refine v_iadd G dX9_branch_128 ?_
              refine v_iadd G dX9_branch_129 ?_
              refine v_callVv G (As := [.int ((S kg 1) + (((((a1 >>> ((31 : Int32) &&& 31)) * (4096 : Int32)) + ((f_H_bits S a1 (7 : Int32) (1 : Int32)) * (2048 : Int32))) + ((f_H_bits S a1 (25 : Int32) (6 : Int32)) * (32 : Int32))) + ((f_H_bits S a1 (8 : Int32) (4 : Int32)) * (2 : Int32))))]) (st := []) (c_H_goes l hJ hX kg kx kr ko n hH S ((S kg 1) + (((((a1 >>> ((31 : Int32) &&& 31)) * (4096 : Int32)) + ((f_H_bits S a1 (7 : Int32) (1 : Int32)) * (2048 : Int32))) + ((f_H_bits S a1 (25 : Int32) (6 : Int32)) * (32 : Int32))) + ((f_H_bits S a1 (8 : Int32) (4 : Int32)) * (2 : Int32))))) (by decide) (by decide) (ci := 9) rfl hH.1 w5_94 w5_96 w0_45 w1_10 w5_97 qyX9_goes rfl (Nat.le_of_ble_eq_true rfl) dX9_branch_130 ?_
              refine v_bnv (fun S_9 eS_9 => ?_)
              exact v_vret G rfl rfl dX9_branch_133
          · refine v_iconst G (v := (1 : Int32)) dX9_branch_74 (by decide) ?_
            refine v_goto G (tgt := 79) dX9_branch_75 (by decide) ?_
            refine v_icmp_ne G (tgt := 133) dX9_branch_79 (by decide) (fun c_10 => ?_) (fun c_10 => ?_)
            · exact v_vret G rfl rfl dX9_branch_133
            · refine v_aload_n G 1 dX9_branch_82 rfl ?_
              refine v_aload_n G 1 dX9_branch_83 rfl ?_
              refine v_geti G (ci := 9) (T := TX9) (j := 1) inX9 rfl hH.1 rfl (by decide) w3_230 dX9_branch_84 ?_
              refine v_iload_n G 2 dX9_branch_87 rfl ?_
              refine v_bipush G (v := (31 : Int32)) dX9_branch_88 (by decide) ?_
              refine v_ishr G dX9_branch_90 ?_
              refine v_sipush G (v := (4096 : Int32)) dX9_branch_91 (by decide) ?_
              refine v_imul G dX9_branch_94 ?_
              refine v_iload_n G 2 dX9_branch_95 rfl ?_
              refine v_bipush G (v := (7 : Int32)) dX9_branch_96 (by decide) ?_
              refine v_iconst G (v := (1 : Int32)) dX9_branch_98 (by decide) ?_
              refine v_callSi G (As := [.int a1, .int (7 : Int32), .int (1 : Int32)]) (st := [.int ((a1 >>> ((31 : Int32) &&& 31)) * (4096 : Int32)), .int (S kg 1), .ref (adr X kg)]) (c_H_bits l hJ hX S a1 (7 : Int32) (1 : Int32)) (by decide) (by decide) w5_57 w5_58 w1_10 w5_59 qyX9_bits rfl (Nat.le_of_ble_eq_true rfl) dX9_branch_99 ?_
              refine v_sipush G (v := (2048 : Int32)) dX9_branch_102 (by decide) ?_
              refine v_imul G dX9_branch_105 ?_
              refine v_iadd G dX9_branch_106 ?_
              refine v_iload_n G 2 dX9_branch_107 rfl ?_
              refine v_bipush G (v := (25 : Int32)) dX9_branch_108 (by decide) ?_
              refine v_bipush G (v := (6 : Int32)) dX9_branch_110 (by decide) ?_
              refine v_callSi G (As := [.int a1, .int (25 : Int32), .int (6 : Int32)]) (st := [.int (((a1 >>> ((31 : Int32) &&& 31)) * (4096 : Int32)) + ((f_H_bits S a1 (7 : Int32) (1 : Int32)) * (2048 : Int32))), .int (S kg 1), .ref (adr X kg)]) (c_H_bits l hJ hX S a1 (25 : Int32) (6 : Int32)) (by decide) (by decide) w5_57 w5_58 w1_10 w5_59 qyX9_bits rfl (Nat.le_of_ble_eq_true rfl) dX9_branch_112 ?_
              refine v_bipush G (v := (32 : Int32)) dX9_branch_115 (by decide) ?_
              refine v_imul G dX9_branch_117 ?_
              refine v_iadd G dX9_branch_118 ?_
              refine v_iload_n G 2 dX9_branch_119 rfl ?_
              refine v_bipush G (v := (8 : Int32)) dX9_branch_120 (by decide) ?_
              refine v_iconst G (v := (4 : Int32)) dX9_branch_122 (by decide) ?_
              refine v_callSi G (As := [.int a1, .int (8 : Int32), .int (4 : Int32)]) (st := [.int ((((a1 >>> ((31 : Int32) &&& 31)) * (4096 : Int32)) + ((f_H_bits S a1 (7 : Int32) (1 : Int32)) * (2048 : Int32))) + ((f_H_bits S a1 (25 : Int32) (6 : Int32)) * (32 : Int32))), .int (S kg 1), .ref (adr X kg)]) (c_H_bits l hJ hX S a1 (8 : Int32) (4 : Int32)) (by decide) (by decide) w5_57 w5_58 w1_10 w5_59 qyX9_bits rfl (Nat.le_of_ble_eq_true rfl) dX9_branch_123 ?_
              refine v_iconst G (v := (2 : Int32)) dX9_branch_126 (by decide) ?_
              refine v_imul G dX9_branch_127 ?_
              refine v_iadd G dX9_branch_128 ?_
              refine v_iadd G dX9_branch_129 ?_
              refine v_callVv G (As := [.int ((S kg 1) + (((((a1 >>> ((31 : Int32) &&& 31)) * (4096 : Int32)) + ((f_H_bits S a1 (7 : Int32) (1 : Int32)) * (2048 : Int32))) + ((f_H_bits S a1 (25 : Int32) (6 : Int32)) * (32 : Int32))) + ((f_H_bits S a1 (8 : Int32) (4 : Int32)) * (2 : Int32))))]) (st := []) (c_H_goes l hJ hX kg kx kr ko n hH S ((S kg 1) + (((((a1 >>> ((31 : Int32) &&& 31)) * (4096 : Int32)) + ((f_H_bits S a1 (7 : Int32) (1 : Int32)) * (2048 : Int32))) + ((f_H_bits S a1 (25 : Int32) (6 : Int32)) * (32 : Int32))) + ((f_H_bits S a1 (8 : Int32) (4 : Int32)) * (2 : Int32))))) (by decide) (by decide) (ci := 9) rfl hH.1 w5_94 w5_96 w0_45 w1_10 w5_97 qyX9_goes rfl (Nat.le_of_ble_eq_true rfl) dX9_branch_130 ?_
              refine v_bnv (fun S_11 eS_11 => ?_)
              exact v_vret G rfl rfl dX9_branch_133
        · refine v_iload_n G 2 dX9_branch_45 rfl ?_
          refine v_iload_n G 3 dX9_branch_46 rfl ?_
          refine v_icmp_ge G (tgt := 54) dX9_branch_47 (by decide) (fun c_12 => ?_) (fun c_12 => ?_)
          · refine v_iconst G (v := (0 : Int32)) dX9_branch_54 (by decide) ?_
            refine v_goto G (tgt := 63) dX9_branch_55 (by decide) ?_
            refine v_istore G [(5, .int (0 : Int32)), (0, .ref (adr X kg)), (1, .int a1), (2, .int a2), (3, .int a3), (4, .int a4)] dX9_branch_63 (by decide) rfl ?_
            refine v_iload G 0 dX9_branch_65 rfl ?_
            refine v_iload G 5 dX9_branch_67 rfl ?_
            refine v_iconst G (v := (2 : Int32)) dX9_branch_69 (by decide) ?_
            refine v_irem G dX9_branch_70 (by decide) ?_
            refine v_if_ne G (tgt := 78) dX9_branch_71 (by decide) (fun c_13 => ?_) (fun c_13 => ?_)
            · refine v_iconst G (v := (0 : Int32)) dX9_branch_78 (by decide) ?_
              refine v_icmp_ne_f G (tgt := 133) dX9_branch_79 (by decide) (by decide) ?_
              refine v_aload_n G 1 dX9_branch_82 rfl ?_
              refine v_aload_n G 1 dX9_branch_83 rfl ?_
              refine v_geti G (ci := 9) (T := TX9) (j := 1) inX9 rfl hH.1 rfl (by decide) w3_230 dX9_branch_84 ?_
              refine v_iload_n G 2 dX9_branch_87 rfl ?_
              refine v_bipush G (v := (31 : Int32)) dX9_branch_88 (by decide) ?_
              refine v_ishr G dX9_branch_90 ?_
              refine v_sipush G (v := (4096 : Int32)) dX9_branch_91 (by decide) ?_
              refine v_imul G dX9_branch_94 ?_
              refine v_iload_n G 2 dX9_branch_95 rfl ?_
              refine v_bipush G (v := (7 : Int32)) dX9_branch_96 (by decide) ?_
              refine v_iconst G (v := (1 : Int32)) dX9_branch_98 (by decide) ?_
              refine v_callSi G (As := [.int a1, .int (7 : Int32), .int (1 : Int32)]) (st := [.int ((a1 >>> ((31 : Int32) &&& 31)) * (4096 : Int32)), .int (S kg 1), .ref (adr X kg)]) (c_H_bits l hJ hX S a1 (7 : Int32) (1 : Int32)) (by decide) (by decide) w5_57 w5_58 w1_10 w5_59 qyX9_bits rfl (Nat.le_of_ble_eq_true rfl) dX9_branch_99 ?_
              refine v_sipush G (v := (2048 : Int32)) dX9_branch_102 (by decide) ?_
              refine v_imul G dX9_branch_105 ?_
              refine v_iadd G dX9_branch_106 ?_
              refine v_iload_n G 2 dX9_branch_107 rfl ?_
              refine v_bipush G (v := (25 : Int32)) dX9_branch_108 (by decide) ?_
              refine v_bipush G (v := (6 : Int32)) dX9_branch_110 (by decide) ?_
              refine v_callSi G (As := [.int a1, .int (25 : Int32), .int (6 : Int32)]) (st := [.int (((a1 >>> ((31 : Int32) &&& 31)) * (4096 : Int32)) + ((f_H_bits S a1 (7 : Int32) (1 : Int32)) * (2048 : Int32))), .int (S kg 1), .ref (adr X kg)]) (c_H_bits l hJ hX S a1 (25 : Int32) (6 : Int32)) (by decide) (by decide) w5_57 w5_58 w1_10 w5_59 qyX9_bits rfl (Nat.le_of_ble_eq_true rfl) dX9_branch_112 ?_
              refine v_bipush G (v := (32 : Int32)) dX9_branch_115 (by decide) ?_
              refine v_imul G dX9_branch_117 ?_
              refine v_iadd G dX9_branch_118 ?_
              refine v_iload_n G 2 dX9_branch_119 rfl ?_
              refine v_bipush G (v := (8 : Int32)) dX9_branch_120 (by decide) ?_
              refine v_iconst G (v := (4 : Int32)) dX9_branch_122 (by decide) ?_
              refine v_callSi G (As := [.int a1, .int (8 : Int32), .int (4 : Int32)]) (st := [.int ((((a1 >>> ((31 : Int32) &&& 31)) * (4096 : Int32)) + ((f_H_bits S a1 (7 : Int32) (1 : Int32)) * (2048 : Int32))) + ((f_H_bits S a1 (25 : Int32) (6 : Int32)) * (32 : Int32))), .int (S kg 1), .ref (adr X kg)]) (c_H_bits l hJ hX S a1 (8 : Int32) (4 : Int32)) (by decide) (by decide) w5_57 w5_58 w1_10 w5_59 qyX9_bits rfl (Nat.le_of_ble_eq_true rfl) dX9_branch_123 ?_
              refine v_iconst G (v := (2 : Int32)) dX9_branch_126 (by decide) ?_
              refine v_imul G dX9_branch_127 ?_
              refine v_iadd G dX9_branch_128 ?_
              refine v_iadd G dX9_branch_129 ?_
              refine v_callVv G (As := [.int ((S kg 1) + (((((a1 >>> ((31 : Int32) &&& 31)) * (4096 : Int32)) + ((f_H_bits S a1 (7 : Int32) (1 : Int32)) * (2048 : Int32))) + ((f_H_bits S a1 (25 : Int32) (6 : Int32)) * (32 : Int32))) + ((f_H_bits S a1 (8 : Int32) (4 : Int32)) * (2 : Int32))))]) (st := []) (c_H_goes l hJ hX kg kx kr ko n hH S ((S kg 1) + (((((a1 >>> ((31 : Int32) &&& 31)) * (4096 : Int32)) + ((f_H_bits S a1 (7 : Int32) (1 : Int32)) * (2048 : Int32))) + ((f_H_bits S a1 (25 : Int32) (6 : Int32)) * (32 : Int32))) + ((f_H_bits S a1 (8 : Int32) (4 : Int32)) * (2 : Int32))))) (by decide) (by decide) (ci := 9) rfl hH.1 w5_94 w5_96 w0_45 w1_10 w5_97 qyX9_goes rfl (Nat.le_of_ble_eq_true rfl) dX9_branch_130 ?_
              refine v_bnv (fun S_14 eS_14 => ?_)
              exact v_vret G rfl rfl dX9_branch_133
            · refine v_iconst G (v := (1 : Int32)) dX9_branch_74 (by decide) ?_
              refine v_goto G (tgt := 79) dX9_branch_75 (by decide) ?_
              refine v_icmp_ne_t G (tgt := 133) dX9_branch_79 (by decide) (by decide) ?_
              exact v_vret G rfl rfl dX9_branch_133
          · refine v_iconst G (v := (1 : Int32)) dX9_branch_50 (by decide) ?_
            refine v_goto G (tgt := 63) dX9_branch_51 (by decide) ?_
            refine v_istore G [(5, .int (1 : Int32)), (0, .ref (adr X kg)), (1, .int a1), (2, .int a2), (3, .int a3), (4, .int a4)] dX9_branch_63 (by decide) rfl ?_
            refine v_iload G 0 dX9_branch_65 rfl ?_
            refine v_iload G 5 dX9_branch_67 rfl ?_
            refine v_iconst G (v := (2 : Int32)) dX9_branch_69 (by decide) ?_
            refine v_irem G dX9_branch_70 (by decide) ?_
            refine v_if_ne G (tgt := 78) dX9_branch_71 (by decide) (fun c_15 => ?_) (fun c_15 => ?_)
            · refine v_iconst G (v := (0 : Int32)) dX9_branch_78 (by decide) ?_
              refine v_icmp_ne_t G (tgt := 133) dX9_branch_79 (by decide) (by decide) ?_
              exact v_vret G rfl rfl dX9_branch_133
            · refine v_iconst G (v := (1 : Int32)) dX9_branch_74 (by decide) ?_
              refine v_goto G (tgt := 79) dX9_branch_75 (by decide) ?_
              refine v_icmp_ne_f G (tgt := 133) dX9_branch_79 (by decide) (by decide) ?_
              refine v_aload_n G 1 dX9_branch_82 rfl ?_
              refine v_aload_n G 1 dX9_branch_83 rfl ?_
              refine v_geti G (ci := 9) (T := TX9) (j := 1) inX9 rfl hH.1 rfl (by decide) w3_230 dX9_branch_84 ?_
              refine v_iload_n G 2 dX9_branch_87 rfl ?_
              refine v_bipush G (v := (31 : Int32)) dX9_branch_88 (by decide) ?_
              refine v_ishr G dX9_branch_90 ?_
              refine v_sipush G (v := (4096 : Int32)) dX9_branch_91 (by decide) ?_
              refine v_imul G dX9_branch_94 ?_
              refine v_iload_n G 2 dX9_branch_95 rfl ?_
              refine v_bipush G (v := (7 : Int32)) dX9_branch_96 (by decide) ?_
              refine v_iconst G (v := (1 : Int32)) dX9_branch_98 (by decide) ?_
              refine v_callSi G (As := [.int a1, .int (7 : Int32), .int (1 : Int32)]) (st := [.int ((a1 >>> ((31 : Int32) &&& 31)) * (4096 : Int32)), .int (S kg 1), .ref (adr X kg)]) (c_H_bits l hJ hX S a1 (7 : Int32) (1 : Int32)) (by decide) (by decide) w5_57 w5_58 w1_10 w5_59 qyX9_bits rfl (Nat.le_of_ble_eq_true rfl) dX9_branch_99 ?_
              refine v_sipush G (v := (2048 : Int32)) dX9_branch_102 (by decide) ?_
              refine v_imul G dX9_branch_105 ?_
              refine v_iadd G dX9_branch_106 ?_
              refine v_iload_n G 2 dX9_branch_107 rfl ?_
              refine v_bipush G (v := (25 : Int32)) dX9_branch_108 (by decide) ?_
              refine v_bipush G (v := (6 : Int32)) dX9_branch_110 (by decide) ?_
              refine v_callSi G (As := [.int a1, .int (25 : Int32), .int (6 : Int32)]) (st := [.int (((a1 >>> ((31 : Int32) &&& 31)) * (4096 : Int32)) + ((f_H_bits S a1 (7 : Int32) (1 : Int32)) * (2048 : Int32))), .int (S kg 1), .ref (adr X kg)]) (c_H_bits l hJ hX S a1 (25 : Int32) (6 : Int32)) (by decide) (by decide) w5_57 w5_58 w1_10 w5_59 qyX9_bits rfl (Nat.le_of_ble_eq_true rfl) dX9_branch_112 ?_
              refine v_bipush G (v := (32 : Int32)) dX9_branch_115 (by decide) ?_
              refine v_imul G dX9_branch_117 ?_
              refine v_iadd G dX9_branch_118 ?_
              refine v_iload_n G 2 dX9_branch_119 rfl ?_
              refine v_bipush G (v := (8 : Int32)) dX9_branch_120 (by decide) ?_
              refine v_iconst G (v := (4 : Int32)) dX9_branch_122 (by decide) ?_
              refine v_callSi G (As := [.int a1, .int (8 : Int32), .int (4 : Int32)]) (st := [.int ((((a1 >>> ((31 : Int32) &&& 31)) * (4096 : Int32)) + ((f_H_bits S a1 (7 : Int32) (1 : Int32)) * (2048 : Int32))) + ((f_H_bits S a1 (25 : Int32) (6 : Int32)) * (32 : Int32))), .int (S kg 1), .ref (adr X kg)]) (c_H_bits l hJ hX S a1 (8 : Int32) (4 : Int32)) (by decide) (by decide) w5_57 w5_58 w1_10 w5_59 qyX9_bits rfl (Nat.le_of_ble_eq_true rfl) dX9_branch_123 ?_
              refine v_iconst G (v := (2 : Int32)) dX9_branch_126 (by decide) ?_
              refine v_imul G dX9_branch_127 ?_
              refine v_iadd G dX9_branch_128 ?_
              refine v_iadd G dX9_branch_129 ?_
              refine v_callVv G (As := [.int ((S kg 1) + (((((a1 >>> ((31 : Int32) &&& 31)) * (4096 : Int32)) + ((f_H_bits S a1 (7 : Int32) (1 : Int32)) * (2048 : Int32))) + ((f_H_bits S a1 (25 : Int32) (6 : Int32)) * (32 : Int32))) + ((f_H_bits S a1 (8 : Int32) (4 : Int32)) * (2 : Int32))))]) (st := []) (c_H_goes l hJ hX kg kx kr ko n hH S ((S kg 1) + (((((a1 >>> ((31 : Int32) &&& 31)) * (4096 : Int32)) + ((f_H_bits S a1 (7 : Int32) (1 : Int32)) * (2048 : Int32))) + ((f_H_bits S a1 (25 : Int32) (6 : Int32)) * (32 : Int32))) + ((f_H_bits S a1 (8 : Int32) (4 : Int32)) * (2 : Int32))))) (by decide) (by decide) (ci := 9) rfl hH.1 w5_94 w5_96 w0_45 w1_10 w5_97 qyX9_goes rfl (Nat.le_of_ble_eq_true rfl) dX9_branch_130 ?_
              refine v_bnv (fun S_16 eS_16 => ?_)
              exact v_vret G rfl rfl dX9_branch_133
      · refine v_iload_n G 2 dX9_branch_25 rfl ?_
        refine v_iload_n G 3 dX9_branch_26 rfl ?_
        refine v_icmp_ne G (tgt := 34) dX9_branch_27 (by decide) (fun c_17 => ?_) (fun c_17 => ?_)
        · refine v_iconst G (v := (0 : Int32)) dX9_branch_34 (by decide) ?_
          refine v_goto G (tgt := 63) dX9_branch_35 (by decide) ?_
          refine v_istore G [(5, .int (0 : Int32)), (0, .ref (adr X kg)), (1, .int a1), (2, .int a2), (3, .int a3), (4, .int a4)] dX9_branch_63 (by decide) rfl ?_
          refine v_iload G 0 dX9_branch_65 rfl ?_
          refine v_iload G 5 dX9_branch_67 rfl ?_
          refine v_iconst G (v := (2 : Int32)) dX9_branch_69 (by decide) ?_
          refine v_irem G dX9_branch_70 (by decide) ?_
          refine v_if_ne G (tgt := 78) dX9_branch_71 (by decide) (fun c_18 => ?_) (fun c_18 => ?_)
          · refine v_iconst G (v := (0 : Int32)) dX9_branch_78 (by decide) ?_
            refine v_icmp_ne_f G (tgt := 133) dX9_branch_79 (by decide) (by decide) ?_
            refine v_aload_n G 1 dX9_branch_82 rfl ?_
            refine v_aload_n G 1 dX9_branch_83 rfl ?_
            refine v_geti G (ci := 9) (T := TX9) (j := 1) inX9 rfl hH.1 rfl (by decide) w3_230 dX9_branch_84 ?_
            refine v_iload_n G 2 dX9_branch_87 rfl ?_
            refine v_bipush G (v := (31 : Int32)) dX9_branch_88 (by decide) ?_
            refine v_ishr G dX9_branch_90 ?_
            refine v_sipush G (v := (4096 : Int32)) dX9_branch_91 (by decide) ?_
            refine v_imul G dX9_branch_94 ?_
            refine v_iload_n G 2 dX9_branch_95 rfl ?_
            refine v_bipush G (v := (7 : Int32)) dX9_branch_96 (by decide) ?_
            refine v_iconst G (v := (1 : Int32)) dX9_branch_98 (by decide) ?_
            refine v_callSi G (As := [.int a1, .int (7 : Int32), .int (1 : Int32)]) (st := [.int ((a1 >>> ((31 : Int32) &&& 31)) * (4096 : Int32)), .int (S kg 1), .ref (adr X kg)]) (c_H_bits l hJ hX S a1 (7 : Int32) (1 : Int32)) (by decide) (by decide) w5_57 w5_58 w1_10 w5_59 qyX9_bits rfl (Nat.le_of_ble_eq_true rfl) dX9_branch_99 ?_
            refine v_sipush G (v := (2048 : Int32)) dX9_branch_102 (by decide) ?_
            refine v_imul G dX9_branch_105 ?_
            refine v_iadd G dX9_branch_106 ?_
            refine v_iload_n G 2 dX9_branch_107 rfl ?_
            refine v_bipush G (v := (25 : Int32)) dX9_branch_108 (by decide) ?_
            refine v_bipush G (v := (6 : Int32)) dX9_branch_110 (by decide) ?_
            refine v_callSi G (As := [.int a1, .int (25 : Int32), .int (6 : Int32)]) (st := [.int (((a1 >>> ((31 : Int32) &&& 31)) * (4096 : Int32)) + ((f_H_bits S a1 (7 : Int32) (1 : Int32)) * (2048 : Int32))), .int (S kg 1), .ref (adr X kg)]) (c_H_bits l hJ hX S a1 (25 : Int32) (6 : Int32)) (by decide) (by decide) w5_57 w5_58 w1_10 w5_59 qyX9_bits rfl (Nat.le_of_ble_eq_true rfl) dX9_branch_112 ?_
            refine v_bipush G (v := (32 : Int32)) dX9_branch_115 (by decide) ?_
            refine v_imul G dX9_branch_117 ?_
            refine v_iadd G dX9_branch_118 ?_
            refine v_iload_n G 2 dX9_branch_119 rfl ?_
            refine v_bipush G (v := (8 : Int32)) dX9_branch_120 (by decide) ?_
            refine v_iconst G (v := (4 : Int32)) dX9_branch_122 (by decide) ?_
            refine v_callSi G (As := [.int a1, .int (8 : Int32), .int (4 : Int32)]) (st := [.int ((((a1 >>> ((31 : Int32) &&& 31)) * (4096 : Int32)) + ((f_H_bits S a1 (7 : Int32) (1 : Int32)) * (2048 : Int32))) + ((f_H_bits S a1 (25 : Int32) (6 : Int32)) * (32 : Int32))), .int (S kg 1), .ref (adr X kg)]) (c_H_bits l hJ hX S a1 (8 : Int32) (4 : Int32)) (by decide) (by decide) w5_57 w5_58 w1_10 w5_59 qyX9_bits rfl (Nat.le_of_ble_eq_true rfl) dX9_branch_123 ?_
            refine v_iconst G (v := (2 : Int32)) dX9_branch_126 (by decide) ?_
            refine v_imul G dX9_branch_127 ?_
            refine v_iadd G dX9_branch_128 ?_
            refine v_iadd G dX9_branch_129 ?_
            refine v_callVv G (As := [.int ((S kg 1) + (((((a1 >>> ((31 : Int32) &&& 31)) * (4096 : Int32)) + ((f_H_bits S a1 (7 : Int32) (1 : Int32)) * (2048 : Int32))) + ((f_H_bits S a1 (25 : Int32) (6 : Int32)) * (32 : Int32))) + ((f_H_bits S a1 (8 : Int32) (4 : Int32)) * (2 : Int32))))]) (st := []) (c_H_goes l hJ hX kg kx kr ko n hH S ((S kg 1) + (((((a1 >>> ((31 : Int32) &&& 31)) * (4096 : Int32)) + ((f_H_bits S a1 (7 : Int32) (1 : Int32)) * (2048 : Int32))) + ((f_H_bits S a1 (25 : Int32) (6 : Int32)) * (32 : Int32))) + ((f_H_bits S a1 (8 : Int32) (4 : Int32)) * (2 : Int32))))) (by decide) (by decide) (ci := 9) rfl hH.1 w5_94 w5_96 w0_45 w1_10 w5_97 qyX9_goes rfl (Nat.le_of_ble_eq_true rfl) dX9_branch_130 ?_
            refine v_bnv (fun S_19 eS_19 => ?_)
            exact v_vret G rfl rfl dX9_branch_133
          · refine v_iconst G (v := (1 : Int32)) dX9_branch_74 (by decide) ?_
            refine v_goto G (tgt := 79) dX9_branch_75 (by decide) ?_
            refine v_icmp_ne_t G (tgt := 133) dX9_branch_79 (by decide) (by decide) ?_
            exact v_vret G rfl rfl dX9_branch_133
        · refine v_iconst G (v := (1 : Int32)) dX9_branch_30 (by decide) ?_
          refine v_goto G (tgt := 63) dX9_branch_31 (by decide) ?_
          refine v_istore G [(5, .int (1 : Int32)), (0, .ref (adr X kg)), (1, .int a1), (2, .int a2), (3, .int a3), (4, .int a4)] dX9_branch_63 (by decide) rfl ?_
          refine v_iload G 0 dX9_branch_65 rfl ?_
          refine v_iload G 5 dX9_branch_67 rfl ?_
          refine v_iconst G (v := (2 : Int32)) dX9_branch_69 (by decide) ?_
          refine v_irem G dX9_branch_70 (by decide) ?_
          refine v_if_ne G (tgt := 78) dX9_branch_71 (by decide) (fun c_20 => ?_) (fun c_20 => ?_)
          · refine v_iconst G (v := (0 : Int32)) dX9_branch_78 (by decide) ?_
            refine v_icmp_ne_t G (tgt := 133) dX9_branch_79 (by decide) (by decide) ?_
            exact v_vret G rfl rfl dX9_branch_133
          · refine v_iconst G (v := (1 : Int32)) dX9_branch_74 (by decide) ?_
            refine v_goto G (tgt := 79) dX9_branch_75 (by decide) ?_
            refine v_icmp_ne_f G (tgt := 133) dX9_branch_79 (by decide) (by decide) ?_
            refine v_aload_n G 1 dX9_branch_82 rfl ?_
            refine v_aload_n G 1 dX9_branch_83 rfl ?_
            refine v_geti G (ci := 9) (T := TX9) (j := 1) inX9 rfl hH.1 rfl (by decide) w3_230 dX9_branch_84 ?_
            refine v_iload_n G 2 dX9_branch_87 rfl ?_
            refine v_bipush G (v := (31 : Int32)) dX9_branch_88 (by decide) ?_
            refine v_ishr G dX9_branch_90 ?_
            refine v_sipush G (v := (4096 : Int32)) dX9_branch_91 (by decide) ?_
            refine v_imul G dX9_branch_94 ?_
            refine v_iload_n G 2 dX9_branch_95 rfl ?_
            refine v_bipush G (v := (7 : Int32)) dX9_branch_96 (by decide) ?_
            refine v_iconst G (v := (1 : Int32)) dX9_branch_98 (by decide) ?_
            refine v_callSi G (As := [.int a1, .int (7 : Int32), .int (1 : Int32)]) (st := [.int ((a1 >>> ((31 : Int32) &&& 31)) * (4096 : Int32)), .int (S kg 1), .ref (adr X kg)]) (c_H_bits l hJ hX S a1 (7 : Int32) (1 : Int32)) (by decide) (by decide) w5_57 w5_58 w1_10 w5_59 qyX9_bits rfl (Nat.le_of_ble_eq_true rfl) dX9_branch_99 ?_
            refine v_sipush G (v := (2048 : Int32)) dX9_branch_102 (by decide) ?_
            refine v_imul G dX9_branch_105 ?_
            refine v_iadd G dX9_branch_106 ?_
            refine v_iload_n G 2 dX9_branch_107 rfl ?_
            refine v_bipush G (v := (25 : Int32)) dX9_branch_108 (by decide) ?_
            refine v_bipush G (v := (6 : Int32)) dX9_branch_110 (by decide) ?_
            refine v_callSi G (As := [.int a1, .int (25 : Int32), .int (6 : Int32)]) (st := [.int (((a1 >>> ((31 : Int32) &&& 31)) * (4096 : Int32)) + ((f_H_bits S a1 (7 : Int32) (1 : Int32)) * (2048 : Int32))), .int (S kg 1), .ref (adr X kg)]) (c_H_bits l hJ hX S a1 (25 : Int32) (6 : Int32)) (by decide) (by decide) w5_57 w5_58 w1_10 w5_59 qyX9_bits rfl (Nat.le_of_ble_eq_true rfl) dX9_branch_112 ?_
            refine v_bipush G (v := (32 : Int32)) dX9_branch_115 (by decide) ?_
            refine v_imul G dX9_branch_117 ?_
            refine v_iadd G dX9_branch_118 ?_
            refine v_iload_n G 2 dX9_branch_119 rfl ?_
            refine v_bipush G (v := (8 : Int32)) dX9_branch_120 (by decide) ?_
            refine v_iconst G (v := (4 : Int32)) dX9_branch_122 (by decide) ?_
            refine v_callSi G (As := [.int a1, .int (8 : Int32), .int (4 : Int32)]) (st := [.int ((((a1 >>> ((31 : Int32) &&& 31)) * (4096 : Int32)) + ((f_H_bits S a1 (7 : Int32) (1 : Int32)) * (2048 : Int32))) + ((f_H_bits S a1 (25 : Int32) (6 : Int32)) * (32 : Int32))), .int (S kg 1), .ref (adr X kg)]) (c_H_bits l hJ hX S a1 (8 : Int32) (4 : Int32)) (by decide) (by decide) w5_57 w5_58 w1_10 w5_59 qyX9_bits rfl (Nat.le_of_ble_eq_true rfl) dX9_branch_123 ?_
            refine v_iconst G (v := (2 : Int32)) dX9_branch_126 (by decide) ?_
            refine v_imul G dX9_branch_127 ?_
            refine v_iadd G dX9_branch_128 ?_
            refine v_iadd G dX9_branch_129 ?_
            refine v_callVv G (As := [.int ((S kg 1) + (((((a1 >>> ((31 : Int32) &&& 31)) * (4096 : Int32)) + ((f_H_bits S a1 (7 : Int32) (1 : Int32)) * (2048 : Int32))) + ((f_H_bits S a1 (25 : Int32) (6 : Int32)) * (32 : Int32))) + ((f_H_bits S a1 (8 : Int32) (4 : Int32)) * (2 : Int32))))]) (st := []) (c_H_goes l hJ hX kg kx kr ko n hH S ((S kg 1) + (((((a1 >>> ((31 : Int32) &&& 31)) * (4096 : Int32)) + ((f_H_bits S a1 (7 : Int32) (1 : Int32)) * (2048 : Int32))) + ((f_H_bits S a1 (25 : Int32) (6 : Int32)) * (32 : Int32))) + ((f_H_bits S a1 (8 : Int32) (4 : Int32)) * (2 : Int32))))) (by decide) (by decide) (ci := 9) rfl hH.1 w5_94 w5_96 w0_45 w1_10 w5_97 qyX9_goes rfl (Nat.le_of_ble_eq_true rfl) dX9_branch_130 ?_
            refine v_bnv (fun S_21 eS_21 => ?_)
            exact v_vret G rfl rfl dX9_branch_133
    · refine v_aload_n G 0 dX9_branch_12 rfl ?_
      refine v_bipush G (v := (11 : Int32)) dX9_branch_13 (by decide) ?_
      refine v_puti G (ci := 9) (T := TX9) (j := 12) inX9 rfl hH.1 tyX9_ok nmX9 rfl (by decide) rfl rfl rfl w4_11 dX9_branch_15 (fun S_22 eS_22 => ?_)
      exact v_vret G rfl rfl dX9_branch_18
/-! SensorNodeModel$Guest.reaches -/
theorem qyX9_reaches : yX9_reaches.cls ≠ "java/lang/invoke/MethodHandle" ∧ yX9_reaches.cls ≠ "java/lang/invoke/VarHandle" ∧ (parseMethodDescriptor yX9_reaches.desc).map (fun d => d.parameters.length) = some 2 := by decide +kernel
noncomputable def f_H_reaches (S : St) (kg kx kr ko n : Nat) (a1 : Int32) (a2 : Int32) : Int32 × St := (if (a1 &&& (a2 - (1 : Int32))) = 0 then (if (f_H_isIn S kg kx kr ko n a1 a2.toInt64) = 0 then bnv (st_up S kg 12 (13 : Int32)) (fun S_4 => (if (S_4 kg 12) = 0 then ((1 : Int32), S_4) else ((0 : Int32), S_4))) else (if (S kg 12) = 0 then ((1 : Int32), S) else ((0 : Int32), S))) else bnv (st_up S kg 12 (12 : Int32)) (fun S_6 => (if (S_6 kg 12) = 0 then ((1 : Int32), S_6) else ((0 : Int32), S_6))))
set_option linter.unusedVariables false in
set_option maxHeartbeats 4000000 in
set_option maxRecDepth 100000 in
theorem c_H_reaches (l : Launch) {X : vD} (hJ : sh_J X) (hX : shp X = shM) (kg kx kr ko n : Nat) (hH : isH kg kx kr ko n) (S : St) (a1 : Int32) (a2 : Int32)  : Con l X yX9_reaches cX9_reaches 3 (some .boolean) 1 [.ref (adr X kg), .int a1, .int a2] S (some (.int (f_H_reaches S kg kx kr ko n a1 a2).1), (f_H_reaches S kg kx kr ko n a1 a2).2) := by
  refine con_of (ρ := (fun q : Int32 × St => ((some (.int q.1), q.2) : Option Value × St))) (K := f_H_reaches S kg kx kr ko n a1 a2) hJ hX (by decide) (Nat.le_of_ble_eq_true rfl) (lv := [(0, .ref (adr X kg)), (1, .int a1), (2, .int a2)]) rfl ?_
  intro p e s m below meth c G
  generalize hρ0 : (fun q : Int32 × St => ((some (.int q.1), q.2) : Option Value × St)) = ρ
  have hρ : ∀ q : Int32 × St, ρ q = ((some (.int q.1), q.2) : Option Value × St) := fun q => by rw [← hρ0]
  have G : vG p s m _ meth c X shM "SensorNodeModel$Guest" cX9_reaches 3 (some .boolean) := G
  unfold f_H_reaches
  refine v_iload_n G 1 dX9_reaches_0 rfl ?_
  refine v_iload_n G 2 dX9_reaches_1 rfl ?_
  refine v_iconst G (v := (1 : Int32)) dX9_reaches_2 (by decide) ?_
  refine v_isub G dX9_reaches_3 ?_
  refine v_iand G dX9_reaches_4 ?_
  refine v_if_eq G (tgt := 17) dX9_reaches_5 (by decide) (fun c_1 => ?_) (fun c_1 => ?_)
  · refine v_aload_n G 0 dX9_reaches_17 rfl ?_
    refine v_iload_n G 1 dX9_reaches_18 rfl ?_
    refine v_iload_n G 2 dX9_reaches_19 rfl ?_
    refine v_i2l G dX9_reaches_20 ?_
    refine v_callVi G (As := [.int a1, .long a2.toInt64]) (st := []) (c_H_isIn l hJ hX kg kx kr ko n hH S a1 a2.toInt64) (by decide) (by decide) (ci := 9) rfl hH.1 w5_81 w5_82 w5_83 w1_10 w5_84 qyX9_isIn rfl (Nat.le_of_ble_eq_true rfl) dX9_reaches_21 ?_
    refine v_if_ne G (tgt := 33) dX9_reaches_24 (by decide) (fun c_2 => ?_) (fun c_2 => ?_)
    · refine v_aload_n G 0 dX9_reaches_33 rfl ?_
      refine v_geti G (ci := 9) (T := TX9) (j := 12) inX9 rfl hH.1 rfl (by decide) w4_11 dX9_reaches_34 ?_
      refine v_if_ne G (tgt := 44) dX9_reaches_37 (by decide) (fun c_3 => ?_) (fun c_3 => ?_)
      · refine v_iconst G (v := (0 : Int32)) dX9_reaches_44 (by decide) ?_
        exact v_zret G rfl rfl (hρ _) dX9_reaches_45
      · refine v_iconst G (v := (1 : Int32)) dX9_reaches_40 (by decide) ?_
        refine v_goto G (tgt := 45) dX9_reaches_41 (by decide) ?_
        exact v_zret G rfl rfl (hρ _) dX9_reaches_45
    · refine v_aload_n G 0 dX9_reaches_27 rfl ?_
      refine v_bipush G (v := (13 : Int32)) dX9_reaches_28 (by decide) ?_
      refine v_puti G (ci := 9) (T := TX9) (j := 12) inX9 rfl hH.1 tyX9_ok nmX9 rfl (by decide) rfl rfl rfl w4_11 dX9_reaches_30 (fun S_4 eS_4 => ?_)
      refine v_aload_n G 0 dX9_reaches_33 rfl ?_
      refine v_geti G (ci := 9) (T := TX9) (j := 12) inX9 rfl hH.1 rfl (by decide) w4_11 dX9_reaches_34 ?_
      refine v_if_ne G (tgt := 44) dX9_reaches_37 (by decide) (fun c_5 => ?_) (fun c_5 => ?_)
      · refine v_iconst G (v := (0 : Int32)) dX9_reaches_44 (by decide) ?_
        exact v_zret G rfl rfl (hρ _) dX9_reaches_45
      · refine v_iconst G (v := (1 : Int32)) dX9_reaches_40 (by decide) ?_
        refine v_goto G (tgt := 45) dX9_reaches_41 (by decide) ?_
        exact v_zret G rfl rfl (hρ _) dX9_reaches_45
  · refine v_aload_n G 0 dX9_reaches_8 rfl ?_
    refine v_bipush G (v := (12 : Int32)) dX9_reaches_9 (by decide) ?_
    refine v_puti G (ci := 9) (T := TX9) (j := 12) inX9 rfl hH.1 tyX9_ok nmX9 rfl (by decide) rfl rfl rfl w4_11 dX9_reaches_11 (fun S_6 eS_6 => ?_)
    refine v_goto G (tgt := 33) dX9_reaches_14 (by decide) ?_
    refine v_aload_n G 0 dX9_reaches_33 rfl ?_
    refine v_geti G (ci := 9) (T := TX9) (j := 12) inX9 rfl hH.1 rfl (by decide) w4_11 dX9_reaches_34 ?_
    refine v_if_ne G (tgt := 44) dX9_reaches_37 (by decide) (fun c_7 => ?_) (fun c_7 => ?_)
    · refine v_iconst G (v := (0 : Int32)) dX9_reaches_44 (by decide) ?_
      exact v_zret G rfl rfl (hρ _) dX9_reaches_45
    · refine v_iconst G (v := (1 : Int32)) dX9_reaches_40 (by decide) ?_
      refine v_goto G (tgt := 45) dX9_reaches_41 (by decide) ?_
      exact v_zret G rfl rfl (hρ _) dX9_reaches_45
/-! SensorNodeModel$Guest.loads -/
theorem qyX9_loads : yX9_loads.cls ≠ "java/lang/invoke/MethodHandle" ∧ yX9_loads.cls ≠ "java/lang/invoke/VarHandle" ∧ (parseMethodDescriptor yX9_loads.desc).map (fun d => d.parameters.length) = some 2 := by decide +kernel
noncomputable def f_H_loads (S : St) (kg kx kr ko n : Nat) (a1 : Int32) (a2 : Int32) : St := (if a2 = (3 : Int32) then bnv (st_up S kg 12 (11 : Int32)) (fun S_2 => S_2) else (if (5 : Int32) < a2 then bnv (st_up S kg 12 (11 : Int32)) (fun S_17 => S_17) else bnd (f_H_reaches S kg kx kr ko n a1 ((1 : Int32) <<< ((a2 - a2 / (4 : Int32) * (4 : Int32)) &&& 31))) (fun r_5 S_4 => (if r_5 = 0 then S_4 else bnx (ush (f_H_wordAt S_4 kg kx kr ko n a1) ((8 : Int32) * (a1 &&& (3 : Int32)))) (fun x_7 => (if a2 = 0 then bnv (f_H_gives S_4 kg kx kr ko n x_7.toInt8.toInt32) (fun S_16 => S_16) else (if a2 = (1 : Int32) then bnv (f_H_gives S_4 kg kx kr ko n x_7.toInt16.toInt32) (fun S_15 => S_15) else (if a2 = (2 : Int32) then bnv (f_H_gives S_4 kg kx kr ko n x_7) (fun S_14 => S_14) else (if a2 = (4 : Int32) then bnv (f_H_gives S_4 kg kx kr ko n (x_7 &&& (255 : Int32))) (fun S_13 => S_13) else bnv (f_H_gives S_4 kg kx kr ko n (x_7 &&& (65535 : Int32))) (fun S_12 => S_12))))))))))
def k_H_loads (S : St) (kg kx kr ko n : Nat) (a1 : Int32) (a2 : Int32) : Prop := (if a2 = (3 : Int32) then True else (if (5 : Int32) < a2 then True else bnd (f_H_reaches S kg kx kr ko n a1 ((1 : Int32) <<< ((a2 - a2 / (4 : Int32) * (4 : Int32)) &&& 31))) (fun r_5 S_4 => (if r_5 = 0 then True else k_H_wordAt S_4 kg kx kr ko n a1))))
set_option linter.unusedVariables false in
set_option maxHeartbeats 4000000 in
set_option maxRecDepth 100000 in
theorem c_H_loads (l : Launch) {X : vD} (hJ : sh_J X) (hX : shp X = shM) (kg kx kr ko n : Nat) (hH : isH kg kx kr ko n) (S : St) (a1 : Int32) (a2 : Int32) (hk : k_H_loads S kg kx kr ko n a1 a2) : Con l X yX9_loads cX9_loads 4 none 2 [.ref (adr X kg), .int a1, .int a2] S (none, f_H_loads S kg kx kr ko n a1 a2) := by
  refine con_of (ρ := (fun S : St => ((none, S) : Option Value × St))) (K := f_H_loads S kg kx kr ko n a1 a2) hJ hX (by decide) (Nat.le_of_ble_eq_true rfl) (lv := [(0, .ref (adr X kg)), (1, .int a1), (2, .int a2)]) rfl ?_
  intro p e s m below meth c G
  have G : vG p s m _ meth c X shM "SensorNodeModel$Guest" cX9_loads 4 none := G
  unfold f_H_loads
  unfold k_H_loads at hk
  refine v_iload_n G 2 dX9_loads_0 rfl ?_
  refine v_iconst G (v := (3 : Int32)) dX9_loads_1 (by decide) ?_
  refine v_icmp_eq G (tgt := 10) dX9_loads_2 (by decide) (fun c_1 => ?_) (fun c_1 => ?_)
  · refine v_aload_n G 0 dX9_loads_10 rfl ?_
    refine v_bipush G (v := (11 : Int32)) dX9_loads_11 (by decide) ?_
    refine v_puti G (ci := 9) (T := TX9) (j := 12) inX9 rfl hH.1 tyX9_ok nmX9 rfl (by decide) rfl rfl rfl w4_11 dX9_loads_13 (fun S_2 eS_2 => ?_)
    exact v_vret G rfl rfl dX9_loads_16
  · replace hk := ok_f c_1 hk
    refine v_iload_n G 2 dX9_loads_5 rfl ?_
    refine v_iconst G (v := (5 : Int32)) dX9_loads_6 (by decide) ?_
    refine v_icmp_le G (tgt := 17) dX9_loads_7 (by decide) (fun c_3 => ?_) (fun c_3 => ?_)
    · replace hk := ok_f c_3 hk
      refine v_aload_n G 0 dX9_loads_17 rfl ?_
      refine v_iload_n G 1 dX9_loads_18 rfl ?_
      refine v_iconst G (v := (1 : Int32)) dX9_loads_19 (by decide) ?_
      refine v_iload_n G 2 dX9_loads_20 rfl ?_
      refine v_iconst G (v := (4 : Int32)) dX9_loads_21 (by decide) ?_
      refine v_irem G dX9_loads_22 (by decide) ?_
      refine v_ishl G dX9_loads_23 ?_
      refine v_callVi G (As := [.int a1, .int ((1 : Int32) <<< ((a2 - a2 / (4 : Int32) * (4 : Int32)) &&& 31))]) (st := []) (c_H_reaches l hJ hX kg kx kr ko n hH S a1 ((1 : Int32) <<< ((a2 - a2 / (4 : Int32) * (4 : Int32)) &&& 31))) (by decide) (by decide) (ci := 9) rfl hH.1 w5_109 w5_111 w0_48 w1_10 w5_112 qyX9_reaches rfl (Nat.le_of_ble_eq_true rfl) dX9_loads_24 ?_
      refine v_bnd (fun r_5 S_4 eS_4 => ?_)
      replace hk := ok_d eS_4 hk
      refine v_if_ne G (tgt := 31) dX9_loads_27 (by decide) (fun c_6 => ?_) (fun c_6 => ?_)
      · replace hk := ok_f c_6 hk
        refine v_aload_n G 0 dX9_loads_31 rfl ?_
        refine v_iload_n G 1 dX9_loads_32 rfl ?_
        refine v_callVi G (As := [.int a1]) (st := []) (c_H_wordAt l hJ hX kg kx kr ko n hH S_4 a1 hk) (by decide) (by decide) (ci := 9) rfl hH.1 w5_47 w5_48 w5_49 w1_10 w5_50 qyX9_wordAt rfl (Nat.le_of_ble_eq_true rfl) dX9_loads_33 ?_
        refine v_bipush G (v := (8 : Int32)) dX9_loads_36 (by decide) ?_
        refine v_iload_n G 1 dX9_loads_38 rfl ?_
        refine v_iconst G (v := (3 : Int32)) dX9_loads_39 (by decide) ?_
        refine v_iand G dX9_loads_40 ?_
        refine v_imul G dX9_loads_41 ?_
        refine v_iushr G dX9_loads_42 ?_
        refine v_namei (fun x_7 ex_7 => ?_)
        refine v_istore_n G [(3, .int x_7), (0, .ref (adr X kg)), (1, .int a1), (2, .int a2)] dX9_loads_43 (by decide) rfl ?_
        refine v_aload_n G 1 dX9_loads_44 rfl ?_
        refine v_iload_n G 3 dX9_loads_45 rfl ?_
        refine v_if_ne G (tgt := 54) dX9_loads_46 (by decide) (fun c_8 => ?_) (fun c_8 => ?_)
        · refine v_iload_n G 3 dX9_loads_54 rfl ?_
          refine v_iconst G (v := (1 : Int32)) dX9_loads_55 (by decide) ?_
          refine v_icmp_ne G (tgt := 64) dX9_loads_56 (by decide) (fun c_9 => ?_) (fun c_9 => ?_)
          · refine v_iload_n G 3 dX9_loads_64 rfl ?_
            refine v_iconst G (v := (2 : Int32)) dX9_loads_65 (by decide) ?_
            refine v_icmp_ne G (tgt := 73) dX9_loads_66 (by decide) (fun c_10 => ?_) (fun c_10 => ?_)
            · refine v_iload_n G 3 dX9_loads_73 rfl ?_
              refine v_iconst G (v := (4 : Int32)) dX9_loads_74 (by decide) ?_
              refine v_icmp_ne G (tgt := 86) dX9_loads_75 (by decide) (fun c_11 => ?_) (fun c_11 => ?_)
              · refine v_iload_n G 0 dX9_loads_86 rfl ?_
                refine v_ldc G (v := (65535 : Int32)) dX9_loads_87 w5_113 ?_
                refine v_iand G dX9_loads_89 ?_
                refine v_callVv G (As := [.int (x_7 &&& (65535 : Int32))]) (st := []) (c_H_gives l hJ hX kg kx kr ko n hH S_4 (x_7 &&& (65535 : Int32))) (by decide) (by decide) (ci := 9) rfl hH.1 w5_89 w5_91 w0_44 w1_10 w5_92 qyX9_gives rfl (Nat.le_of_ble_eq_true rfl) dX9_loads_90 ?_
                refine v_bnv (fun S_12 eS_12 => ?_)
                exact v_vret G rfl rfl dX9_loads_93
              · refine v_iload_n G 0 dX9_loads_78 rfl ?_
                refine v_sipush G (v := (255 : Int32)) dX9_loads_79 (by decide) ?_
                refine v_iand G dX9_loads_82 ?_
                refine v_goto G (tgt := 90) dX9_loads_83 (by decide) ?_
                refine v_callVv G (As := [.int (x_7 &&& (255 : Int32))]) (st := []) (c_H_gives l hJ hX kg kx kr ko n hH S_4 (x_7 &&& (255 : Int32))) (by decide) (by decide) (ci := 9) rfl hH.1 w5_89 w5_91 w0_44 w1_10 w5_92 qyX9_gives rfl (Nat.le_of_ble_eq_true rfl) dX9_loads_90 ?_
                refine v_bnv (fun S_13 eS_13 => ?_)
                exact v_vret G rfl rfl dX9_loads_93
            · refine v_iload_n G 0 dX9_loads_69 rfl ?_
              refine v_goto G (tgt := 90) dX9_loads_70 (by decide) ?_
              refine v_callVv G (As := [.int x_7]) (st := []) (c_H_gives l hJ hX kg kx kr ko n hH S_4 x_7) (by decide) (by decide) (ci := 9) rfl hH.1 w5_89 w5_91 w0_44 w1_10 w5_92 qyX9_gives rfl (Nat.le_of_ble_eq_true rfl) dX9_loads_90 ?_
              refine v_bnv (fun S_14 eS_14 => ?_)
              exact v_vret G rfl rfl dX9_loads_93
          · refine v_iload_n G 0 dX9_loads_59 rfl ?_
            refine v_i2s G dX9_loads_60 ?_
            refine v_goto G (tgt := 90) dX9_loads_61 (by decide) ?_
            refine v_callVv G (As := [.int x_7.toInt16.toInt32]) (st := []) (c_H_gives l hJ hX kg kx kr ko n hH S_4 x_7.toInt16.toInt32) (by decide) (by decide) (ci := 9) rfl hH.1 w5_89 w5_91 w0_44 w1_10 w5_92 qyX9_gives rfl (Nat.le_of_ble_eq_true rfl) dX9_loads_90 ?_
            refine v_bnv (fun S_15 eS_15 => ?_)
            exact v_vret G rfl rfl dX9_loads_93
        · refine v_iload_n G 0 dX9_loads_49 rfl ?_
          refine v_i2b G dX9_loads_50 ?_
          refine v_goto G (tgt := 90) dX9_loads_51 (by decide) ?_
          refine v_callVv G (As := [.int x_7.toInt8.toInt32]) (st := []) (c_H_gives l hJ hX kg kx kr ko n hH S_4 x_7.toInt8.toInt32) (by decide) (by decide) (ci := 9) rfl hH.1 w5_89 w5_91 w0_44 w1_10 w5_92 qyX9_gives rfl (Nat.le_of_ble_eq_true rfl) dX9_loads_90 ?_
          refine v_bnv (fun S_16 eS_16 => ?_)
          exact v_vret G rfl rfl dX9_loads_93
      · exact v_vret G rfl rfl dX9_loads_30
    · refine v_aload_n G 0 dX9_loads_10 rfl ?_
      refine v_bipush G (v := (11 : Int32)) dX9_loads_11 (by decide) ?_
      refine v_puti G (ci := 9) (T := TX9) (j := 12) inX9 rfl hH.1 tyX9_ok nmX9 rfl (by decide) rfl rfl rfl w4_11 dX9_loads_13 (fun S_17 eS_17 => ?_)
      exact v_vret G rfl rfl dX9_loads_16
/-! SensorNodeModel$Guest.stores -/
theorem nb_H_isRam (S : St) (kg kx kr ko n : Nat) (a : Int32) : narrow .boolean (.int (f_H_isRam S kg kx kr ko n a)) = .int (f_H_isRam S kg kx kr ko n a) := by
  unfold f_H_isRam
  split <;> rfl
theorem nb2_H_isRam (S : St) (kg kx kr ko n : Nat) (a : Int32) : fits .boolean (.int (f_H_isRam S kg kx kr ko n a)) = true := by
  unfold f_H_isRam
  split <;> rfl
theorem qyX9_stores : yX9_stores.cls ≠ "java/lang/invoke/MethodHandle" ∧ yX9_stores.cls ≠ "java/lang/invoke/VarHandle" ∧ (parseMethodDescriptor yX9_stores.desc).map (fun d => d.parameters.length) = some 3 := by decide +kernel
noncomputable def f_H_stores (S : St) (kg kx kr ko n : Nat) (a1 : Int32) (a2 : Int32) (a3 : Int32) : St := (if (2 : Int32) < a3 then bnv (st_up S kg 12 (11 : Int32)) (fun S_37 => S_37) else bnd (f_H_reaches S kg kx kr ko n a1 ((1 : Int32) <<< (a3 &&& 31))) (fun r_3 S_2 => (if r_3 = 0 then S_2 else (if a3 = 0 then bnx ((8 : Int32) * (a1 &&& (3 : Int32))) (fun x_27 => bnv (st_up S_2 kg 15 (((f_H_wordAt S_2 kg kx kr ko n a1) &&& (((255 : Int32) <<< (x_27 &&& 31)) ^^^ (-1 : Int32))) ||| ((a2 &&& (255 : Int32)) <<< (x_27 &&& 31)))) (fun S_28 => bnv (st_up S_28 kg 19 (f_H_isRam S_28 kg kx kr ko n a1)) (fun S_29 => (if (S_29 kg 19) = 0 then bnv (st_up S_29 kg 16 ((((a1.toInt64 &&& (4294967295 : Int64)) - (1073741824 : Int64)) >>> ((2 : Int32).toInt64 &&& 63)).toInt32)) (fun S_31 => (if (S_31 kg 19) = 0 then bnv (st_up S_31 kg 13 (1 : Int32)) (fun S_33 => S_33) else S_31)) else bnv (st_up S_29 kg 16 (ush a1 (2 : Int32))) (fun S_34 => (if (S_34 kg 19) = 0 then bnv (st_up S_34 kg 13 (1 : Int32)) (fun S_36 => S_36) else S_34)))))) else (if a3 = (1 : Int32) then bnx ((8 : Int32) * (a1 &&& (3 : Int32))) (fun x_17 => bnv (st_up S_2 kg 15 (((f_H_wordAt S_2 kg kx kr ko n a1) &&& (((65535 : Int32) <<< (x_17 &&& 31)) ^^^ (-1 : Int32))) ||| ((a2 &&& (65535 : Int32)) <<< (x_17 &&& 31)))) (fun S_18 => bnv (st_up S_18 kg 19 (f_H_isRam S_18 kg kx kr ko n a1)) (fun S_19 => (if (S_19 kg 19) = 0 then bnv (st_up S_19 kg 16 ((((a1.toInt64 &&& (4294967295 : Int64)) - (1073741824 : Int64)) >>> ((2 : Int32).toInt64 &&& 63)).toInt32)) (fun S_21 => (if (S_21 kg 19) = 0 then bnv (st_up S_21 kg 13 (1 : Int32)) (fun S_23 => S_23) else S_21)) else bnv (st_up S_19 kg 16 (ush a1 (2 : Int32))) (fun S_24 => (if (S_24 kg 19) = 0 then bnv (st_up S_24 kg 13 (1 : Int32)) (fun S_26 => S_26) else S_24)))))) else bnx ((8 : Int32) * (a1 &&& (3 : Int32))) (fun x_7 => bnv (st_up S_2 kg 15 (((f_H_wordAt S_2 kg kx kr ko n a1) &&& (((-1 : Int32) <<< (x_7 &&& 31)) ^^^ (-1 : Int32))) ||| ((a2 &&& (-1 : Int32)) <<< (x_7 &&& 31)))) (fun S_8 => bnv (st_up S_8 kg 19 (f_H_isRam S_8 kg kx kr ko n a1)) (fun S_9 => (if (S_9 kg 19) = 0 then bnv (st_up S_9 kg 16 ((((a1.toInt64 &&& (4294967295 : Int64)) - (1073741824 : Int64)) >>> ((2 : Int32).toInt64 &&& 63)).toInt32)) (fun S_11 => (if (S_11 kg 19) = 0 then bnv (st_up S_11 kg 13 (1 : Int32)) (fun S_13 => S_13) else S_11)) else bnv (st_up S_9 kg 16 (ush a1 (2 : Int32))) (fun S_14 => (if (S_14 kg 19) = 0 then bnv (st_up S_14 kg 13 (1 : Int32)) (fun S_16 => S_16) else S_14)))))))))))
def k_H_stores (S : St) (kg kx kr ko n : Nat) (a1 : Int32) (a2 : Int32) (a3 : Int32) : Prop := (if (2 : Int32) < a3 then True else bnd (f_H_reaches S kg kx kr ko n a1 ((1 : Int32) <<< (a3 &&& 31))) (fun r_3 S_2 => (if r_3 = 0 then True else (if a3 = 0 then bnx ((8 : Int32) * (a1 &&& (3 : Int32))) (fun x_27 => k_H_wordAt S_2 kg kx kr ko n a1) else (if a3 = (1 : Int32) then bnx ((8 : Int32) * (a1 &&& (3 : Int32))) (fun x_17 => k_H_wordAt S_2 kg kx kr ko n a1) else bnx ((8 : Int32) * (a1 &&& (3 : Int32))) (fun x_7 => k_H_wordAt S_2 kg kx kr ko n a1))))))
set_option linter.unusedVariables false in
set_option maxHeartbeats 4000000 in
set_option maxRecDepth 100000 in
theorem c_H_stores (l : Launch) {X : vD} (hJ : sh_J X) (hX : shp X = shM) (kg kx kr ko n : Nat) (hH : isH kg kx kr ko n) (S : St) (a1 : Int32) (a2 : Int32) (a3 : Int32) (hk : k_H_stores S kg kx kr ko n a1 a2 a3) : Con l X yX9_stores cX9_stores 6 none 2 [.ref (adr X kg), .int a1, .int a2, .int a3] S (none, f_H_stores S kg kx kr ko n a1 a2 a3) := by
  refine con_of (ρ := (fun S : St => ((none, S) : Option Value × St))) (K := f_H_stores S kg kx kr ko n a1 a2 a3) hJ hX (by decide) (Nat.le_of_ble_eq_true rfl) (lv := [(0, .ref (adr X kg)), (1, .int a1), (2, .int a2), (3, .int a3)]) rfl ?_
  intro p e s m below meth c G
  have G : vG p s m _ meth c X shM "SensorNodeModel$Guest" cX9_stores 6 none := G
  unfold f_H_stores
  unfold k_H_stores at hk
  refine v_iload_n G 3 dX9_stores_0 rfl ?_
  refine v_iconst G (v := (2 : Int32)) dX9_stores_1 (by decide) ?_
  refine v_icmp_le G (tgt := 12) dX9_stores_2 (by decide) (fun c_1 => ?_) (fun c_1 => ?_)
  · replace hk := ok_f c_1 hk
    refine v_aload_n G 0 dX9_stores_12 rfl ?_
    refine v_iload_n G 1 dX9_stores_13 rfl ?_
    refine v_iconst G (v := (1 : Int32)) dX9_stores_14 (by decide) ?_
    refine v_iload_n G 3 dX9_stores_15 rfl ?_
    refine v_ishl G dX9_stores_16 ?_
    refine v_callVi G (As := [.int a1, .int ((1 : Int32) <<< (a3 &&& 31))]) (st := []) (c_H_reaches l hJ hX kg kx kr ko n hH S a1 ((1 : Int32) <<< (a3 &&& 31))) (by decide) (by decide) (ci := 9) rfl hH.1 w5_109 w5_111 w0_48 w1_10 w5_112 qyX9_reaches rfl (Nat.le_of_ble_eq_true rfl) dX9_stores_17 ?_
    refine v_bnd (fun r_3 S_2 eS_2 => ?_)
    replace hk := ok_d eS_2 hk
    refine v_if_ne G (tgt := 24) dX9_stores_20 (by decide) (fun c_4 => ?_) (fun c_4 => ?_)
    · replace hk := ok_f c_4 hk
      refine v_iload_n G 3 dX9_stores_24 rfl ?_
      refine v_if_ne G (tgt := 34) dX9_stores_25 (by decide) (fun c_5 => ?_) (fun c_5 => ?_)
      · replace hk := ok_f c_5 hk
        refine v_iload_n G 3 dX9_stores_34 rfl ?_
        refine v_iconst G (v := (1 : Int32)) dX9_stores_35 (by decide) ?_
        refine v_icmp_ne G (tgt := 44) dX9_stores_36 (by decide) (fun c_6 => ?_) (fun c_6 => ?_)
        · replace hk := ok_f c_6 hk
          refine v_iconst G (v := (-1 : Int32)) dX9_stores_44 (by decide) ?_
          refine v_istore G [(4, .int (-1 : Int32)), (0, .ref (adr X kg)), (1, .int a1), (2, .int a2), (3, .int a3)] dX9_stores_45 (by decide) rfl ?_
          refine v_bipush G (v := (8 : Int32)) dX9_stores_47 (by decide) ?_
          refine v_iload_n G 2 dX9_stores_49 rfl ?_
          refine v_iconst G (v := (3 : Int32)) dX9_stores_50 (by decide) ?_
          refine v_iand G dX9_stores_51 ?_
          refine v_imul G dX9_stores_52 ?_
          refine v_namei (fun x_7 ex_7 => ?_)
          replace hk := ok_x ex_7 hk
          refine v_istore G [(5, .int x_7), (4, .int (-1 : Int32)), (0, .ref (adr X kg)), (1, .int a1), (2, .int a2), (3, .int a3)] dX9_stores_53 (by decide) rfl ?_
          refine v_aload_n G 2 dX9_stores_55 rfl ?_
          refine v_aload_n G 2 dX9_stores_56 rfl ?_
          refine v_iload_n G 3 dX9_stores_57 rfl ?_
          refine v_callVi G (As := [.int a1]) (st := [.ref (adr X kg)]) (c_H_wordAt l hJ hX kg kx kr ko n hH S_2 a1 hk) (by decide) (by decide) (ci := 9) rfl hH.1 w5_47 w5_48 w5_49 w1_10 w5_50 qyX9_wordAt rfl (Nat.le_of_ble_eq_true rfl) dX9_stores_58 ?_
          refine v_iload G 1 dX9_stores_61 rfl ?_
          refine v_iload G 0 dX9_stores_63 rfl ?_
          refine v_ishl G dX9_stores_65 ?_
          refine v_iconst G (v := (-1 : Int32)) dX9_stores_66 (by decide) ?_
          refine v_ixor G dX9_stores_67 ?_
          refine v_iand G dX9_stores_68 ?_
          refine v_iload_n G 4 dX9_stores_69 rfl ?_
          refine v_iload G 1 dX9_stores_70 rfl ?_
          refine v_iand G dX9_stores_72 ?_
          refine v_iload G 0 dX9_stores_73 rfl ?_
          refine v_ishl G dX9_stores_75 ?_
          refine v_ior G dX9_stores_76 ?_
          refine v_puti G (ci := 9) (T := TX9) (j := 15) inX9 rfl hH.1 tyX9_ok nmX9 rfl (by decide) rfl rfl rfl w4_16 dX9_stores_77 (fun S_8 eS_8 => ?_)
          refine v_aload_n G 2 dX9_stores_80 rfl ?_
          refine v_aload_n G 2 dX9_stores_81 rfl ?_
          refine v_iload_n G 3 dX9_stores_82 rfl ?_
          refine v_callVi G (As := [.int a1]) (st := [.ref (adr X kg)]) (c_H_isRam l hJ hX kg kx kr ko n hH S_8 a1) (by decide) (by decide) (ci := 9) rfl hH.1 w5_51 w5_53 w0_40 w1_10 w5_54 qyX9_isRam rfl (Nat.le_of_ble_eq_true rfl) dX9_stores_83 ?_
          refine v_puti G (ci := 9) (T := TX9) (j := 19) inX9 rfl hH.1 tyX9_ok nmX9 rfl (by decide) rfl (nb_H_isRam _ _ _ _ _ _ _) (nb2_H_isRam _ _ _ _ _ _ _) w4_21 dX9_stores_86 (fun S_9 eS_9 => ?_)
          refine v_aload_n G 2 dX9_stores_89 rfl ?_
          refine v_aload_n G 2 dX9_stores_90 rfl ?_
          refine v_geti G (ci := 9) (T := TX9) (j := 19) inX9 rfl hH.1 rfl (by decide) w4_21 dX9_stores_91 ?_
          refine v_if_eq G (tgt := 103) dX9_stores_94 (by decide) (fun c_10 => ?_) (fun c_10 => ?_)
          · refine v_iload_n G 3 dX9_stores_103 rfl ?_
            refine v_i2l G dX9_stores_104 ?_
            refine v_ldc2 G (v := (4294967295 : Int64)) dX9_stores_105 w5_55 ?_
            refine v_land G dX9_stores_108 ?_
            refine v_ldc2 G (v := (1073741824 : Int64)) dX9_stores_109 w5_56 ?_
            refine v_lsub G dX9_stores_112 ?_
            refine v_iconst G (v := (2 : Int32)) dX9_stores_113 (by decide) ?_
            refine v_lshr G dX9_stores_114 ?_
            refine v_l2i G dX9_stores_115 ?_
            refine v_puti G (ci := 9) (T := TX9) (j := 16) inX9 rfl hH.1 tyX9_ok nmX9 rfl (by decide) rfl rfl rfl w4_18 dX9_stores_116 (fun S_11 eS_11 => ?_)
            refine v_aload_n G 2 dX9_stores_119 rfl ?_
            refine v_geti G (ci := 9) (T := TX9) (j := 19) inX9 rfl hH.1 rfl (by decide) w4_21 dX9_stores_120 ?_
            refine v_if_ne G (tgt := 131) dX9_stores_123 (by decide) (fun c_12 => ?_) (fun c_12 => ?_)
            · exact v_vret G rfl rfl dX9_stores_131
            · refine v_aload_n G 2 dX9_stores_126 rfl ?_
              refine v_iconst G (v := (1 : Int32)) dX9_stores_127 (by decide) ?_
              refine v_puti G (ci := 9) (T := TX9) (j := 13) inX9 rfl hH.1 tyX9_ok nmX9 rfl (by decide) rfl rfl rfl w4_13 dX9_stores_128 (fun S_13 eS_13 => ?_)
              exact v_vret G rfl rfl dX9_stores_131
          · refine v_iload_n G 3 dX9_stores_97 rfl ?_
            refine v_iconst G (v := (2 : Int32)) dX9_stores_98 (by decide) ?_
            refine v_iushr G dX9_stores_99 ?_
            refine v_goto G (tgt := 116) dX9_stores_100 (by decide) ?_
            refine v_puti G (ci := 9) (T := TX9) (j := 16) inX9 rfl hH.1 tyX9_ok nmX9 rfl (by decide) rfl rfl rfl w4_18 dX9_stores_116 (fun S_14 eS_14 => ?_)
            refine v_aload_n G 2 dX9_stores_119 rfl ?_
            refine v_geti G (ci := 9) (T := TX9) (j := 19) inX9 rfl hH.1 rfl (by decide) w4_21 dX9_stores_120 ?_
            refine v_if_ne G (tgt := 131) dX9_stores_123 (by decide) (fun c_15 => ?_) (fun c_15 => ?_)
            · exact v_vret G rfl rfl dX9_stores_131
            · refine v_aload_n G 2 dX9_stores_126 rfl ?_
              refine v_iconst G (v := (1 : Int32)) dX9_stores_127 (by decide) ?_
              refine v_puti G (ci := 9) (T := TX9) (j := 13) inX9 rfl hH.1 tyX9_ok nmX9 rfl (by decide) rfl rfl rfl w4_13 dX9_stores_128 (fun S_16 eS_16 => ?_)
              exact v_vret G rfl rfl dX9_stores_131
        · replace hk := ok_t c_6 hk
          refine v_ldc G (v := (65535 : Int32)) dX9_stores_39 w5_113 ?_
          refine v_goto G (tgt := 45) dX9_stores_41 (by decide) ?_
          refine v_istore G [(4, .int (65535 : Int32)), (0, .ref (adr X kg)), (1, .int a1), (2, .int a2), (3, .int a3)] dX9_stores_45 (by decide) rfl ?_
          refine v_bipush G (v := (8 : Int32)) dX9_stores_47 (by decide) ?_
          refine v_iload_n G 2 dX9_stores_49 rfl ?_
          refine v_iconst G (v := (3 : Int32)) dX9_stores_50 (by decide) ?_
          refine v_iand G dX9_stores_51 ?_
          refine v_imul G dX9_stores_52 ?_
          refine v_namei (fun x_17 ex_17 => ?_)
          replace hk := ok_x ex_17 hk
          refine v_istore G [(5, .int x_17), (4, .int (65535 : Int32)), (0, .ref (adr X kg)), (1, .int a1), (2, .int a2), (3, .int a3)] dX9_stores_53 (by decide) rfl ?_
          refine v_aload_n G 2 dX9_stores_55 rfl ?_
          refine v_aload_n G 2 dX9_stores_56 rfl ?_
          refine v_iload_n G 3 dX9_stores_57 rfl ?_
          refine v_callVi G (As := [.int a1]) (st := [.ref (adr X kg)]) (c_H_wordAt l hJ hX kg kx kr ko n hH S_2 a1 hk) (by decide) (by decide) (ci := 9) rfl hH.1 w5_47 w5_48 w5_49 w1_10 w5_50 qyX9_wordAt rfl (Nat.le_of_ble_eq_true rfl) dX9_stores_58 ?_
          refine v_iload G 1 dX9_stores_61 rfl ?_
          refine v_iload G 0 dX9_stores_63 rfl ?_
          refine v_ishl G dX9_stores_65 ?_
          refine v_iconst G (v := (-1 : Int32)) dX9_stores_66 (by decide) ?_
          refine v_ixor G dX9_stores_67 ?_
          refine v_iand G dX9_stores_68 ?_
          refine v_iload_n G 4 dX9_stores_69 rfl ?_
          refine v_iload G 1 dX9_stores_70 rfl ?_
          refine v_iand G dX9_stores_72 ?_
          refine v_iload G 0 dX9_stores_73 rfl ?_
          refine v_ishl G dX9_stores_75 ?_
          refine v_ior G dX9_stores_76 ?_
          refine v_puti G (ci := 9) (T := TX9) (j := 15) inX9 rfl hH.1 tyX9_ok nmX9 rfl (by decide) rfl rfl rfl w4_16 dX9_stores_77 (fun S_18 eS_18 => ?_)
          refine v_aload_n G 2 dX9_stores_80 rfl ?_
          refine v_aload_n G 2 dX9_stores_81 rfl ?_
          refine v_iload_n G 3 dX9_stores_82 rfl ?_
          refine v_callVi G (As := [.int a1]) (st := [.ref (adr X kg)]) (c_H_isRam l hJ hX kg kx kr ko n hH S_18 a1) (by decide) (by decide) (ci := 9) rfl hH.1 w5_51 w5_53 w0_40 w1_10 w5_54 qyX9_isRam rfl (Nat.le_of_ble_eq_true rfl) dX9_stores_83 ?_
          refine v_puti G (ci := 9) (T := TX9) (j := 19) inX9 rfl hH.1 tyX9_ok nmX9 rfl (by decide) rfl (nb_H_isRam _ _ _ _ _ _ _) (nb2_H_isRam _ _ _ _ _ _ _) w4_21 dX9_stores_86 (fun S_19 eS_19 => ?_)
          refine v_aload_n G 2 dX9_stores_89 rfl ?_
          refine v_aload_n G 2 dX9_stores_90 rfl ?_
          refine v_geti G (ci := 9) (T := TX9) (j := 19) inX9 rfl hH.1 rfl (by decide) w4_21 dX9_stores_91 ?_
          refine v_if_eq G (tgt := 103) dX9_stores_94 (by decide) (fun c_20 => ?_) (fun c_20 => ?_)
          · refine v_iload_n G 3 dX9_stores_103 rfl ?_
            refine v_i2l G dX9_stores_104 ?_
            refine v_ldc2 G (v := (4294967295 : Int64)) dX9_stores_105 w5_55 ?_
            refine v_land G dX9_stores_108 ?_
            refine v_ldc2 G (v := (1073741824 : Int64)) dX9_stores_109 w5_56 ?_
            refine v_lsub G dX9_stores_112 ?_
            refine v_iconst G (v := (2 : Int32)) dX9_stores_113 (by decide) ?_
            refine v_lshr G dX9_stores_114 ?_
            refine v_l2i G dX9_stores_115 ?_
            refine v_puti G (ci := 9) (T := TX9) (j := 16) inX9 rfl hH.1 tyX9_ok nmX9 rfl (by decide) rfl rfl rfl w4_18 dX9_stores_116 (fun S_21 eS_21 => ?_)
            refine v_aload_n G 2 dX9_stores_119 rfl ?_
            refine v_geti G (ci := 9) (T := TX9) (j := 19) inX9 rfl hH.1 rfl (by decide) w4_21 dX9_stores_120 ?_
            refine v_if_ne G (tgt := 131) dX9_stores_123 (by decide) (fun c_22 => ?_) (fun c_22 => ?_)
            · exact v_vret G rfl rfl dX9_stores_131
            · refine v_aload_n G 2 dX9_stores_126 rfl ?_
              refine v_iconst G (v := (1 : Int32)) dX9_stores_127 (by decide) ?_
              refine v_puti G (ci := 9) (T := TX9) (j := 13) inX9 rfl hH.1 tyX9_ok nmX9 rfl (by decide) rfl rfl rfl w4_13 dX9_stores_128 (fun S_23 eS_23 => ?_)
              exact v_vret G rfl rfl dX9_stores_131
          · refine v_iload_n G 3 dX9_stores_97 rfl ?_
            refine v_iconst G (v := (2 : Int32)) dX9_stores_98 (by decide) ?_
            refine v_iushr G dX9_stores_99 ?_
            refine v_goto G (tgt := 116) dX9_stores_100 (by decide) ?_
            refine v_puti G (ci := 9) (T := TX9) (j := 16) inX9 rfl hH.1 tyX9_ok nmX9 rfl (by decide) rfl rfl rfl w4_18 dX9_stores_116 (fun S_24 eS_24 => ?_)
            refine v_aload_n G 2 dX9_stores_119 rfl ?_
            refine v_geti G (ci := 9) (T := TX9) (j := 19) inX9 rfl hH.1 rfl (by decide) w4_21 dX9_stores_120 ?_
            refine v_if_ne G (tgt := 131) dX9_stores_123 (by decide) (fun c_25 => ?_) (fun c_25 => ?_)
            · exact v_vret G rfl rfl dX9_stores_131
            · refine v_aload_n G 2 dX9_stores_126 rfl ?_
              refine v_iconst G (v := (1 : Int32)) dX9_stores_127 (by decide) ?_
              refine v_puti G (ci := 9) (T := TX9) (j := 13) inX9 rfl hH.1 tyX9_ok nmX9 rfl (by decide) rfl rfl rfl w4_13 dX9_stores_128 (fun S_26 eS_26 => ?_)
              exact v_vret G rfl rfl dX9_stores_131
      · replace hk := ok_t c_5 hk
        refine v_sipush G (v := (255 : Int32)) dX9_stores_28 (by decide) ?_
        refine v_goto G (tgt := 45) dX9_stores_31 (by decide) ?_
        refine v_istore G [(4, .int (255 : Int32)), (0, .ref (adr X kg)), (1, .int a1), (2, .int a2), (3, .int a3)] dX9_stores_45 (by decide) rfl ?_
        refine v_bipush G (v := (8 : Int32)) dX9_stores_47 (by decide) ?_
        refine v_iload_n G 2 dX9_stores_49 rfl ?_
        refine v_iconst G (v := (3 : Int32)) dX9_stores_50 (by decide) ?_
        refine v_iand G dX9_stores_51 ?_
        refine v_imul G dX9_stores_52 ?_
        refine v_namei (fun x_27 ex_27 => ?_)
        replace hk := ok_x ex_27 hk
        refine v_istore G [(5, .int x_27), (4, .int (255 : Int32)), (0, .ref (adr X kg)), (1, .int a1), (2, .int a2), (3, .int a3)] dX9_stores_53 (by decide) rfl ?_
        refine v_aload_n G 2 dX9_stores_55 rfl ?_
        refine v_aload_n G 2 dX9_stores_56 rfl ?_
        refine v_iload_n G 3 dX9_stores_57 rfl ?_
        refine v_callVi G (As := [.int a1]) (st := [.ref (adr X kg)]) (c_H_wordAt l hJ hX kg kx kr ko n hH S_2 a1 hk) (by decide) (by decide) (ci := 9) rfl hH.1 w5_47 w5_48 w5_49 w1_10 w5_50 qyX9_wordAt rfl (Nat.le_of_ble_eq_true rfl) dX9_stores_58 ?_
        refine v_iload G 1 dX9_stores_61 rfl ?_
        refine v_iload G 0 dX9_stores_63 rfl ?_
        refine v_ishl G dX9_stores_65 ?_
        refine v_iconst G (v := (-1 : Int32)) dX9_stores_66 (by decide) ?_
        refine v_ixor G dX9_stores_67 ?_
        refine v_iand G dX9_stores_68 ?_
        refine v_iload_n G 4 dX9_stores_69 rfl ?_
        refine v_iload G 1 dX9_stores_70 rfl ?_
        refine v_iand G dX9_stores_72 ?_
        refine v_iload G 0 dX9_stores_73 rfl ?_
        refine v_ishl G dX9_stores_75 ?_
        refine v_ior G dX9_stores_76 ?_
        refine v_puti G (ci := 9) (T := TX9) (j := 15) inX9 rfl hH.1 tyX9_ok nmX9 rfl (by decide) rfl rfl rfl w4_16 dX9_stores_77 (fun S_28 eS_28 => ?_)
        refine v_aload_n G 2 dX9_stores_80 rfl ?_
        refine v_aload_n G 2 dX9_stores_81 rfl ?_
        refine v_iload_n G 3 dX9_stores_82 rfl ?_
        refine v_callVi G (As := [.int a1]) (st := [.ref (adr X kg)]) (c_H_isRam l hJ hX kg kx kr ko n hH S_28 a1) (by decide) (by decide) (ci := 9) rfl hH.1 w5_51 w5_53 w0_40 w1_10 w5_54 qyX9_isRam rfl (Nat.le_of_ble_eq_true rfl) dX9_stores_83 ?_
        refine v_puti G (ci := 9) (T := TX9) (j := 19) inX9 rfl hH.1 tyX9_ok nmX9 rfl (by decide) rfl (nb_H_isRam _ _ _ _ _ _ _) (nb2_H_isRam _ _ _ _ _ _ _) w4_21 dX9_stores_86 (fun S_29 eS_29 => ?_)
        refine v_aload_n G 2 dX9_stores_89 rfl ?_
        refine v_aload_n G 2 dX9_stores_90 rfl ?_
        refine v_geti G (ci := 9) (T := TX9) (j := 19) inX9 rfl hH.1 rfl (by decide) w4_21 dX9_stores_91 ?_
        refine v_if_eq G (tgt := 103) dX9_stores_94 (by decide) (fun c_30 => ?_) (fun c_30 => ?_)
        · refine v_iload_n G 3 dX9_stores_103 rfl ?_
          refine v_i2l G dX9_stores_104 ?_
          refine v_ldc2 G (v := (4294967295 : Int64)) dX9_stores_105 w5_55 ?_
          refine v_land G dX9_stores_108 ?_
          refine v_ldc2 G (v := (1073741824 : Int64)) dX9_stores_109 w5_56 ?_
          refine v_lsub G dX9_stores_112 ?_
          refine v_iconst G (v := (2 : Int32)) dX9_stores_113 (by decide) ?_
          refine v_lshr G dX9_stores_114 ?_
          refine v_l2i G dX9_stores_115 ?_
          refine v_puti G (ci := 9) (T := TX9) (j := 16) inX9 rfl hH.1 tyX9_ok nmX9 rfl (by decide) rfl rfl rfl w4_18 dX9_stores_116 (fun S_31 eS_31 => ?_)
          refine v_aload_n G 2 dX9_stores_119 rfl ?_
          refine v_geti G (ci := 9) (T := TX9) (j := 19) inX9 rfl hH.1 rfl (by decide) w4_21 dX9_stores_120 ?_
          refine v_if_ne G (tgt := 131) dX9_stores_123 (by decide) (fun c_32 => ?_) (fun c_32 => ?_)
          · exact v_vret G rfl rfl dX9_stores_131
          · refine v_aload_n G 2 dX9_stores_126 rfl ?_
            refine v_iconst G (v := (1 : Int32)) dX9_stores_127 (by decide) ?_
            refine v_puti G (ci := 9) (T := TX9) (j := 13) inX9 rfl hH.1 tyX9_ok nmX9 rfl (by decide) rfl rfl rfl w4_13 dX9_stores_128 (fun S_33 eS_33 => ?_)
            exact v_vret G rfl rfl dX9_stores_131
        · refine v_iload_n G 3 dX9_stores_97 rfl ?_
          refine v_iconst G (v := (2 : Int32)) dX9_stores_98 (by decide) ?_
          refine v_iushr G dX9_stores_99 ?_
          refine v_goto G (tgt := 116) dX9_stores_100 (by decide) ?_
          refine v_puti G (ci := 9) (T := TX9) (j := 16) inX9 rfl hH.1 tyX9_ok nmX9 rfl (by decide) rfl rfl rfl w4_18 dX9_stores_116 (fun S_34 eS_34 => ?_)
          refine v_aload_n G 2 dX9_stores_119 rfl ?_
          refine v_geti G (ci := 9) (T := TX9) (j := 19) inX9 rfl hH.1 rfl (by decide) w4_21 dX9_stores_120 ?_
          refine v_if_ne G (tgt := 131) dX9_stores_123 (by decide) (fun c_35 => ?_) (fun c_35 => ?_)
          · exact v_vret G rfl rfl dX9_stores_131
          · refine v_aload_n G 2 dX9_stores_126 rfl ?_
            refine v_iconst G (v := (1 : Int32)) dX9_stores_127 (by decide) ?_
            refine v_puti G (ci := 9) (T := TX9) (j := 13) inX9 rfl hH.1 tyX9_ok nmX9 rfl (by decide) rfl rfl rfl w4_13 dX9_stores_128 (fun S_36 eS_36 => ?_)
            exact v_vret G rfl rfl dX9_stores_131
    · exact v_vret G rfl rfl dX9_stores_23
  · refine v_aload_n G 0 dX9_stores_5 rfl ?_
    refine v_bipush G (v := (11 : Int32)) dX9_stores_6 (by decide) ?_
    refine v_puti G (ci := 9) (T := TX9) (j := 12) inX9 rfl hH.1 tyX9_ok nmX9 rfl (by decide) rfl rfl rfl w4_11 dX9_stores_8 (fun S_37 eS_37 => ?_)
    exact v_vret G rfl rfl dX9_stores_11
/-! SensorNodeModel$Guest.calls -/
theorem qyX9_calls : yX9_calls.cls ≠ "java/lang/invoke/MethodHandle" ∧ yX9_calls.cls ≠ "java/lang/invoke/VarHandle" ∧ (parseMethodDescriptor yX9_calls.desc).map (fun d => d.parameters.length) = some 0 := by decide +kernel
noncomputable def f_H_calls (S : St) (kg kx kr ko n : Nat) : St := (if (S kx (17 : Int32).toNatClampNeg) = (3 : Int32) then bnv (st_up S kg 12 (6 : Int32)) (fun S_12 => S_12) else (if (S kx (17 : Int32).toNatClampNeg) = (2 : Int32) then bnv (st_up S kg 13 (2 : Int32)) (fun S_5 => bnv (st_up S_5 kg 17 (S_5 kx (11 : Int32).toNatClampNeg)) (fun S_6 => (if (f_H_isBelow S_6 (64 : Int32) (S_6 kg 17)) = 0 then (if 0 < (S_6 kg 17) then (if (f_H_isIn S_6 kg kx kr ko n (S_6 kx (10 : Int32).toNatClampNeg) ((S_6 kg 17).toInt64)) = 0 then bnv (st_up S_6 kg 12 (13 : Int32)) (fun S_10 => S_10) else S_6) else S_6) else bnv (st_up S_6 kg 12 (14 : Int32)) (fun S_11 => S_11)))) else (if (S kx (17 : Int32).toNatClampNeg) = (1 : Int32) then S else bnv (st_up S kg 12 (11 : Int32)) (fun S_4 => S_4))))
set_option linter.unusedVariables false in
set_option maxHeartbeats 4000000 in
set_option maxRecDepth 100000 in
theorem c_H_calls (l : Launch) {X : vD} (hJ : sh_J X) (hX : shp X = shM) (kg kx kr ko n : Nat) (hH : isH kg kx kr ko n) (S : St)  : Con l X yX9_calls cX9_calls 1 none 1 [.ref (adr X kg)] S (none, f_H_calls S kg kx kr ko n) := by
  refine con_of (ρ := (fun S : St => ((none, S) : Option Value × St))) (K := f_H_calls S kg kx kr ko n) hJ hX (by decide) (Nat.le_of_ble_eq_true rfl) (lv := [(0, .ref (adr X kg))]) rfl ?_
  intro p e s m below meth c G
  have G : vG p s m _ meth c X shM "SensorNodeModel$Guest" cX9_calls 1 none := G
  unfold f_H_calls
  refine v_aload_n G 0 dX9_calls_0 rfl ?_
  refine v_getr G (ci := 9) (T := TX9) (j := 0) inX9 rfl hH.1 rfl (by decide) w3_228 dX9_calls_1 ?_
  refine v_bipush G (v := (17 : Int32)) dX9_calls_4 (by decide) ?_
  refine v_iald G hH.2.1 (by unfold vp_in; decide) dX9_calls_6 ?_
  refine v_iconst G (v := (3 : Int32)) dX9_calls_7 (by decide) ?_
  refine v_icmp_ne G (tgt := 20) dX9_calls_8 (by decide) (fun c_1 => ?_) (fun c_1 => ?_)
  · refine v_aload_n G 0 dX9_calls_20 rfl ?_
    refine v_getr G (ci := 9) (T := TX9) (j := 0) inX9 rfl hH.1 rfl (by decide) w3_228 dX9_calls_21 ?_
    refine v_bipush G (v := (17 : Int32)) dX9_calls_24 (by decide) ?_
    refine v_iald G hH.2.1 (by unfold vp_in; decide) dX9_calls_26 ?_
    refine v_iconst G (v := (2 : Int32)) dX9_calls_27 (by decide) ?_
    refine v_icmp_ne G (tgt := 103) dX9_calls_28 (by decide) (fun c_2 => ?_) (fun c_2 => ?_)
    · refine v_aload_n G 0 dX9_calls_103 rfl ?_
      refine v_getr G (ci := 9) (T := TX9) (j := 0) inX9 rfl hH.1 rfl (by decide) w3_228 dX9_calls_104 ?_
      refine v_bipush G (v := (17 : Int32)) dX9_calls_107 (by decide) ?_
      refine v_iald G hH.2.1 (by unfold vp_in; decide) dX9_calls_109 ?_
      refine v_iconst G (v := (1 : Int32)) dX9_calls_110 (by decide) ?_
      refine v_icmp_eq G (tgt := 120) dX9_calls_111 (by decide) (fun c_3 => ?_) (fun c_3 => ?_)
      · exact v_vret G rfl rfl dX9_calls_120
      · refine v_aload_n G 0 dX9_calls_114 rfl ?_
        refine v_bipush G (v := (11 : Int32)) dX9_calls_115 (by decide) ?_
        refine v_puti G (ci := 9) (T := TX9) (j := 12) inX9 rfl hH.1 tyX9_ok nmX9 rfl (by decide) rfl rfl rfl w4_11 dX9_calls_117 (fun S_4 eS_4 => ?_)
        exact v_vret G rfl rfl dX9_calls_120
    · refine v_aload_n G 0 dX9_calls_31 rfl ?_
      refine v_iconst G (v := (2 : Int32)) dX9_calls_32 (by decide) ?_
      refine v_puti G (ci := 9) (T := TX9) (j := 13) inX9 rfl hH.1 tyX9_ok nmX9 rfl (by decide) rfl rfl rfl w4_13 dX9_calls_33 (fun S_5 eS_5 => ?_)
      refine v_aload_n G 0 dX9_calls_36 rfl ?_
      refine v_aload_n G 0 dX9_calls_37 rfl ?_
      refine v_getr G (ci := 9) (T := TX9) (j := 0) inX9 rfl hH.1 rfl (by decide) w3_228 dX9_calls_38 ?_
      refine v_bipush G (v := (11 : Int32)) dX9_calls_41 (by decide) ?_
      refine v_iald G hH.2.1 (by unfold vp_in; decide) dX9_calls_43 ?_
      refine v_puti G (ci := 9) (T := TX9) (j := 17) inX9 rfl hH.1 tyX9_ok nmX9 rfl (by decide) rfl rfl rfl w4_19 dX9_calls_44 (fun S_6 eS_6 => ?_)
      refine v_bipush G (v := (64 : Int32)) dX9_calls_47 (by decide) ?_
      refine v_aload_n G 0 dX9_calls_49 rfl ?_
      refine v_geti G (ci := 9) (T := TX9) (j := 17) inX9 rfl hH.1 rfl (by decide) w4_19 dX9_calls_50 ?_
      refine v_callSi G (As := [.int (64 : Int32), .int (S_6 kg 17)]) (st := []) (c_H_isBelow l hJ hX S_6 (64 : Int32) (S_6 kg 17)) (by decide) (by decide) w5_102 w5_103 w1_10 w5_104 qyX9_isBelow rfl (Nat.le_of_ble_eq_true rfl) dX9_calls_53 ?_
      refine v_if_eq G (tgt := 68) dX9_calls_56 (by decide) (fun c_7 => ?_) (fun c_7 => ?_)
      · refine v_aload_n G 0 dX9_calls_68 rfl ?_
        refine v_geti G (ci := 9) (T := TX9) (j := 17) inX9 rfl hH.1 rfl (by decide) w4_19 dX9_calls_69 ?_
        refine v_if_le G (tgt := 120) dX9_calls_72 (by decide) (fun c_8 => ?_) (fun c_8 => ?_)
        · exact v_vret G rfl rfl dX9_calls_120
        · refine v_aload_n G 0 dX9_calls_75 rfl ?_
          refine v_aload_n G 0 dX9_calls_76 rfl ?_
          refine v_getr G (ci := 9) (T := TX9) (j := 0) inX9 rfl hH.1 rfl (by decide) w3_228 dX9_calls_77 ?_
          refine v_bipush G (v := (10 : Int32)) dX9_calls_80 (by decide) ?_
          refine v_iald G hH.2.1 (by unfold vp_in; decide) dX9_calls_82 ?_
          refine v_aload_n G 0 dX9_calls_83 rfl ?_
          refine v_geti G (ci := 9) (T := TX9) (j := 17) inX9 rfl hH.1 rfl (by decide) w4_19 dX9_calls_84 ?_
          refine v_i2l G dX9_calls_87 ?_
          refine v_callVi G (As := [.int (S_6 kx (10 : Int32).toNatClampNeg), .long ((S_6 kg 17).toInt64)]) (st := []) (c_H_isIn l hJ hX kg kx kr ko n hH S_6 (S_6 kx (10 : Int32).toNatClampNeg) ((S_6 kg 17).toInt64)) (by decide) (by decide) (ci := 9) rfl hH.1 w5_81 w5_82 w5_83 w1_10 w5_84 qyX9_isIn rfl (Nat.le_of_ble_eq_true rfl) dX9_calls_88 ?_
          refine v_if_ne G (tgt := 120) dX9_calls_91 (by decide) (fun c_9 => ?_) (fun c_9 => ?_)
          · exact v_vret G rfl rfl dX9_calls_120
          · refine v_aload_n G 0 dX9_calls_94 rfl ?_
            refine v_bipush G (v := (13 : Int32)) dX9_calls_95 (by decide) ?_
            refine v_puti G (ci := 9) (T := TX9) (j := 12) inX9 rfl hH.1 tyX9_ok nmX9 rfl (by decide) rfl rfl rfl w4_11 dX9_calls_97 (fun S_10 eS_10 => ?_)
            refine v_goto G (tgt := 120) dX9_calls_100 (by decide) ?_
            exact v_vret G rfl rfl dX9_calls_120
      · refine v_aload_n G 0 dX9_calls_59 rfl ?_
        refine v_bipush G (v := (14 : Int32)) dX9_calls_60 (by decide) ?_
        refine v_puti G (ci := 9) (T := TX9) (j := 12) inX9 rfl hH.1 tyX9_ok nmX9 rfl (by decide) rfl rfl rfl w4_11 dX9_calls_62 (fun S_11 eS_11 => ?_)
        refine v_goto G (tgt := 120) dX9_calls_65 (by decide) ?_
        exact v_vret G rfl rfl dX9_calls_120
  · refine v_aload_n G 0 dX9_calls_11 rfl ?_
    refine v_bipush G (v := (6 : Int32)) dX9_calls_12 (by decide) ?_
    refine v_puti G (ci := 9) (T := TX9) (j := 12) inX9 rfl hH.1 tyX9_ok nmX9 rfl (by decide) rfl rfl rfl w4_11 dX9_calls_14 (fun S_12 eS_12 => ?_)
    refine v_goto G (tgt := 120) dX9_calls_17 (by decide) ?_
    exact v_vret G rfl rfl dX9_calls_120

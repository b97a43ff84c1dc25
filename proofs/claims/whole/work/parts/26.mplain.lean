/-! SensorNodeModel.plain -/
theorem qyX10_plain : yX10_plain.cls ≠ "java/lang/invoke/MethodHandle" ∧ yX10_plain.cls ≠ "java/lang/invoke/VarHandle" ∧ (parseMethodDescriptor yX10_plain.desc).map (fun d => d.parameters.length) = some 1 := by decide +kernel
noncomputable def f_M_plain_105 : Nat → St → Int32 → Int32 × St
  | 0, S, _ => (0, S)
  | fn + 1, S, v1 => (if (S 7 4) < v1 then (if (S 7 12) = 0 then (if (S 7 13) = (2 : Int32) then bnv (f_H_sendTo S 7 8 9 10 2048 16 17 18 19 20 (0 : Int32)) (fun S_1111 => bnv (f_H_perform S_1111 7 8 9 10 2048) (fun S_1112 => bnv (f_H_look S_1112 7 8 9 10 2048) (fun S_1113 => (f_M_plain_105 fn S_1113 v1)))) else bnv (f_H_perform S 7 8 9 10 2048) (fun S_1109 => bnv (f_H_look S_1109 7 8 9 10 2048) (fun S_1110 => (f_M_plain_105 fn S_1110 v1)))) else (S 7 4, S)) else (S 7 4, S))
def k_M_plain_105 : Nat → St → Int32 → Prop
  | 0, _, _ => False
  | fn + 1, S, v1 => (if (S 7 4) < v1 then (if (S 7 12) = 0 then (if (S 7 13) = (2 : Int32) then (k_H_sendTo S 7 8 9 10 2048 16 17 18 19 20 (0 : Int32) ∧ bnv (f_H_sendTo S 7 8 9 10 2048 16 17 18 19 20 (0 : Int32)) (fun S_1111 => (k_H_perform S_1111 7 8 9 10 2048 ∧ bnv (f_H_perform S_1111 7 8 9 10 2048) (fun S_1112 => (k_H_look S_1112 7 8 9 10 2048 ∧ bnv (f_H_look S_1112 7 8 9 10 2048) (fun S_1113 => (k_M_plain_105 fn S_1113 v1))))))) else (k_H_perform S 7 8 9 10 2048 ∧ bnv (f_H_perform S 7 8 9 10 2048) (fun S_1109 => (k_H_look S_1109 7 8 9 10 2048 ∧ bnv (f_H_look S_1109 7 8 9 10 2048) (fun S_1110 => (k_M_plain_105 fn S_1110 v1)))))) else True) else True)
set_option linter.unusedVariables false in
set_option maxHeartbeats 4000000 in
set_option maxRecDepth 100000 in
theorem v_M_plain_105 {p : Program} {l : Launch} {e : Env} {s : State} {m : MethodId} {args : Array Value} {below : List Frame} {meth : Method} {c : Code} {X : vD} {ρ : Int32 × St → Option Value × St} (hρ : ∀ q : Int32 × St, ρ q = ((some (.int q.1), q.2) : Option Value × St))  (hJ : sh_J X) (hX : shp X = shM) (G : vG p s m args meth c X shM "SensorNodeModel" cX10_plain 3 (some .int))  : ∀ (fuel : Nat) (S : St) (v1 : Int32) , k_M_plain_105 fuel S v1 → V p l e 5 s m args below meth c X 3 ρ S 105 [(0, .ref (adr X 0)), (1, .int v1)] [] (f_M_plain_105 fuel S v1) := by
  intro fuel
  induction fuel with
  | zero =>
    intro S v1 hk
    exact hk.elim
  | succ fn ih =>
    intro S v1 hk
    rw [f_M_plain_105]
    rw [k_M_plain_105] at hk
    refine v_aload_n G 0 dX10_plain_105 rfl ?_
    refine v_getr G (ci := 10) (T := TX10) (j := 15) inX10 rfl rfl rfl (by decide) w4_110 dX10_plain_106 ?_
    refine v_geti G (ci := 9) (T := TX9) (j := 4) inX9 rfl rfl rfl (by decide) w3_237 dX10_plain_109 ?_
    refine v_iload_n G 1 dX10_plain_112 rfl ?_
    refine v_icmp_ge G (tgt := 166) dX10_plain_113 (by decide) (fun c_1106 => ?_) (fun c_1106 => ?_)
    · refine v_aload_n G 0 dX10_plain_166 rfl ?_
      refine v_getr G (ci := 10) (T := TX10) (j := 15) inX10 rfl rfl rfl (by decide) w4_110 dX10_plain_167 ?_
      refine v_geti G (ci := 9) (T := TX9) (j := 4) inX9 rfl rfl rfl (by decide) w3_237 dX10_plain_170 ?_
      exact v_iret G rfl (hρ _) dX10_plain_173
    · replace hk := ok_t c_1106 hk
      refine v_aload_n G 0 dX10_plain_116 rfl ?_
      refine v_getr G (ci := 10) (T := TX10) (j := 15) inX10 rfl rfl rfl (by decide) w4_110 dX10_plain_117 ?_
      refine v_geti G (ci := 9) (T := TX9) (j := 12) inX9 rfl rfl rfl (by decide) w4_12 dX10_plain_120 ?_
      refine v_if_ne G (tgt := 166) dX10_plain_123 (by decide) (fun c_1107 => ?_) (fun c_1107 => ?_)
      · refine v_aload_n G 0 dX10_plain_166 rfl ?_
        refine v_getr G (ci := 10) (T := TX10) (j := 15) inX10 rfl rfl rfl (by decide) w4_110 dX10_plain_167 ?_
        refine v_geti G (ci := 9) (T := TX9) (j := 4) inX9 rfl rfl rfl (by decide) w3_237 dX10_plain_170 ?_
        exact v_iret G rfl (hρ _) dX10_plain_173
      · replace hk := ok_t c_1107 hk
        refine v_aload_n G 0 dX10_plain_126 rfl ?_
        refine v_getr G (ci := 10) (T := TX10) (j := 15) inX10 rfl rfl rfl (by decide) w4_110 dX10_plain_127 ?_
        refine v_geti G (ci := 9) (T := TX9) (j := 13) inX9 rfl rfl rfl (by decide) w4_14 dX10_plain_130 ?_
        refine v_iconst G (v := (2 : Int32)) dX10_plain_133 (by decide) ?_
        refine v_icmp_ne G (tgt := 149) dX10_plain_134 (by decide) (fun c_1108 => ?_) (fun c_1108 => ?_)
        · replace hk := ok_f c_1108 hk
          refine v_aload_n G 0 dX10_plain_149 rfl ?_
          refine v_getr G (ci := 10) (T := TX10) (j := 15) inX10 rfl rfl rfl (by decide) w4_110 dX10_plain_150 ?_
          refine v_callVv G (As := []) (st := []) (c_H_perform l hJ hX 7 8 9 10 2048 ⟨rfl, rfl, rfl, rfl⟩ S hk.1) (by decide) (by decide) (ci := 9) rfl rfl w5_43 w5_44 w5_45 w1_10 w5_46 qyX9_perform rfl (Nat.le_of_ble_eq_true rfl) dX10_plain_153 ?_
          replace hk := hk.2
          refine v_bnv (fun S_1109 eS_1109 => ?_)
          replace hk := ok_v eS_1109 hk
          refine v_aload_n G 0 dX10_plain_156 rfl ?_
          refine v_getr G (ci := 10) (T := TX10) (j := 15) inX10 rfl rfl rfl (by decide) w4_110 dX10_plain_157 ?_
          refine v_callVv G (As := []) (st := []) (c_H_look l hJ hX 7 8 9 10 2048 ⟨rfl, rfl, rfl, rfl⟩ S_1109 hk.1) (by decide) (by decide) (ci := 9) rfl rfl w5_76 w5_77 w5_78 w1_10 w5_79 qyX9_look rfl (Nat.le_of_ble_eq_true rfl) dX10_plain_160 ?_
          replace hk := hk.2
          refine v_bnv (fun S_1110 eS_1110 => ?_)
          replace hk := ok_v eS_1110 hk
          refine v_goto G (tgt := 105) dX10_plain_163 (by decide) ?_
          exact v_sub (lv' := [(0, .ref (adr X 0)), (1, .int v1)]) [0, 1] rfl (ih S_1110 v1 hk)
        · replace hk := ok_t c_1108 hk
          refine v_aload_n G 0 dX10_plain_137 rfl ?_
          refine v_getr G (ci := 10) (T := TX10) (j := 15) inX10 rfl rfl rfl (by decide) w4_110 dX10_plain_138 ?_
          refine v_aload_n G 0 dX10_plain_141 rfl ?_
          refine v_getr G (ci := 10) (T := TX10) (j := 19) inX10 rfl rfl rfl (by decide) w4_114 dX10_plain_142 ?_
          refine v_iconst G (v := (0 : Int32)) dX10_plain_145 (by decide) ?_
          refine v_callVv G (As := [.ref (adr X 16), .int (0 : Int32)]) (st := []) (c_H_sendTo l hJ hX 7 8 9 10 2048 16 17 18 19 20 ⟨rfl, rfl, rfl, rfl⟩ ⟨rfl, rfl, rfl, rfl, rfl⟩ S (0 : Int32) hk.1) (by decide) (by decide) (ci := 9) rfl rfl w5_64 w5_65 w5_66 w1_10 w5_67 qyX9_sendTo rfl (Nat.le_of_ble_eq_true rfl) dX10_plain_146 ?_
          replace hk := hk.2
          refine v_bnv (fun S_1111 eS_1111 => ?_)
          replace hk := ok_v eS_1111 hk
          refine v_aload_n G 0 dX10_plain_149 rfl ?_
          refine v_getr G (ci := 10) (T := TX10) (j := 15) inX10 rfl rfl rfl (by decide) w4_110 dX10_plain_150 ?_
          refine v_callVv G (As := []) (st := []) (c_H_perform l hJ hX 7 8 9 10 2048 ⟨rfl, rfl, rfl, rfl⟩ S_1111 hk.1) (by decide) (by decide) (ci := 9) rfl rfl w5_43 w5_44 w5_45 w1_10 w5_46 qyX9_perform rfl (Nat.le_of_ble_eq_true rfl) dX10_plain_153 ?_
          replace hk := hk.2
          refine v_bnv (fun S_1112 eS_1112 => ?_)
          replace hk := ok_v eS_1112 hk
          refine v_aload_n G 0 dX10_plain_156 rfl ?_
          refine v_getr G (ci := 10) (T := TX10) (j := 15) inX10 rfl rfl rfl (by decide) w4_110 dX10_plain_157 ?_
          refine v_callVv G (As := []) (st := []) (c_H_look l hJ hX 7 8 9 10 2048 ⟨rfl, rfl, rfl, rfl⟩ S_1112 hk.1) (by decide) (by decide) (ci := 9) rfl rfl w5_76 w5_77 w5_78 w1_10 w5_79 qyX9_look rfl (Nat.le_of_ble_eq_true rfl) dX10_plain_160 ?_
          replace hk := hk.2
          refine v_bnv (fun S_1113 eS_1113 => ?_)
          replace hk := ok_v eS_1113 hk
          refine v_goto G (tgt := 105) dX10_plain_163 (by decide) ?_
          exact v_sub (lv' := [(0, .ref (adr X 0)), (1, .int v1)]) [0, 1] rfl (ih S_1113 v1 hk)
noncomputable def f_M_plain_35 : Nat → St → Int32 → Int32 → Int32 × St
  | 0, S, _, _ => (0, S)
  | fn + 1, S, v1, v2 => (if v2 < (2048 : Int32) then bnv (st_up S 10 v2.toNatClampNeg (S 2 v2.toNatClampNeg)) (fun S_1041 => (f_M_plain_35 fn S_1041 v1 (v2 + (1 : Int32)))) else bnv (st_up S 7 8 1) (fun S_1037 => bnv (st_up S_1037 7 9 (0 : Int32)) (fun S_1038 => bnv (f_H_begin S_1038 7 8 9 10 2048 (S_1038 0 3) (S_1038 0 4) (S_1038 0 7)) (fun S_1039 => bnv (f_H_look S_1039 7 8 9 10 2048) (fun S_1040 => (f_M_plain_105 fuP S_1040 v1))))))
def k_M_plain_35 : Nat → St → Int32 → Int32 → Prop
  | 0, _, _, _ => True
  | fn + 1, S, v1, v2 => (if v2 < (2048 : Int32) then bnv (st_up S 10 v2.toNatClampNeg (S 2 v2.toNatClampNeg)) (fun S_1041 => (k_M_plain_35 fn S_1041 v1 (v2 + (1 : Int32)))) else bnv (st_up S 7 8 1) (fun S_1037 => bnv (st_up S_1037 7 9 (0 : Int32)) (fun S_1038 => bnv (f_H_begin S_1038 7 8 9 10 2048 (S_1038 0 3) (S_1038 0 4) (S_1038 0 7)) (fun S_1039 => (k_H_look S_1039 7 8 9 10 2048 ∧ bnv (f_H_look S_1039 7 8 9 10 2048) (fun S_1040 => (k_M_plain_105 fuP S_1040 v1)))))))
set_option linter.unusedVariables false in
set_option maxHeartbeats 4000000 in
set_option maxRecDepth 100000 in
theorem v_M_plain_35 {p : Program} {l : Launch} {e : Env} {s : State} {m : MethodId} {args : Array Value} {below : List Frame} {meth : Method} {c : Code} {X : vD} {ρ : Int32 × St → Option Value × St} (hρ : ∀ q : Int32 × St, ρ q = ((some (.int q.1), q.2) : Option Value × St))  (hJ : sh_J X) (hX : shp X = shM) (G : vG p s m args meth c X shM "SensorNodeModel" cX10_plain 3 (some .int))  : ∀ (fuel : Nat) (S : St) (v1 v2 : Int32) , (((2048 : Int32)).toInt - v2.toInt).toNat < fuel → ¬ v2 < 0 → k_M_plain_35 fuel S v1 v2 → V p l e 5 s m args below meth c X 3 ρ S 35 [(0, .ref (adr X 0)), (1, .int v1), (2, .int v2)] [] (f_M_plain_35 fuel S v1 v2) := by
  intro fuel
  induction fuel with
  | zero =>
    intro S v1 v2 hm hi hk
    exact absurd hm (Nat.not_lt_zero _)
  | succ fn ih =>
    intro S v1 v2 hm hi hk
    rw [f_M_plain_35]
    rw [k_M_plain_35] at hk
    refine v_iload_n G 2 dX10_plain_35 rfl ?_
    refine v_sipush G (v := (2048 : Int32)) dX10_plain_36 (by decide) ?_
    refine v_icmp_ge G (tgt := 60) dX10_plain_39 (by decide) (fun c_1036 => ?_) (fun c_1036 => ?_)
    · replace hk := ok_f c_1036 hk
      refine v_aload_n G 0 dX10_plain_60 rfl ?_
      refine v_getr G (ci := 10) (T := TX10) (j := 15) inX10 rfl rfl rfl (by decide) w4_110 dX10_plain_61 ?_
      refine v_aload_n G 0 dX10_plain_64 rfl ?_
      refine v_getr G (ci := 10) (T := TX10) (j := 16) inX10 rfl rfl rfl (by decide) w4_111 dX10_plain_65 ?_
      refine v_putq G (ci := 9) (T := TX9) (j := 8) inX9 rfl rfl tyX9_ok nmX9 rfl (by decide) rfl (fun _ => rfl) (fun _ => rfl) w4_5 dX10_plain_68 (fun S_1037 eS_1037 => ?_)
      replace hk := ok_v eS_1037 hk
      refine v_aload_n G 0 dX10_plain_71 rfl ?_
      refine v_getr G (ci := 10) (T := TX10) (j := 15) inX10 rfl rfl rfl (by decide) w4_110 dX10_plain_72 ?_
      refine v_iconst G (v := (0 : Int32)) dX10_plain_75 (by decide) ?_
      refine v_puti G (ci := 9) (T := TX9) (j := 9) inX9 rfl rfl tyX9_ok nmX9 rfl (by decide) rfl rfl rfl w4_7 dX10_plain_76 (fun S_1038 eS_1038 => ?_)
      replace hk := ok_v eS_1038 hk
      refine v_aload_n G 0 dX10_plain_79 rfl ?_
      refine v_getr G (ci := 10) (T := TX10) (j := 15) inX10 rfl rfl rfl (by decide) w4_110 dX10_plain_80 ?_
      refine v_aload_n G 0 dX10_plain_83 rfl ?_
      refine v_geti G (ci := 10) (T := TX10) (j := 3) inX10 rfl rfl rfl (by decide) w4_98 dX10_plain_84 ?_
      refine v_aload_n G 0 dX10_plain_87 rfl ?_
      refine v_geti G (ci := 10) (T := TX10) (j := 4) inX10 rfl rfl rfl (by decide) w4_99 dX10_plain_88 ?_
      refine v_aload_n G 0 dX10_plain_91 rfl ?_
      refine v_geti G (ci := 10) (T := TX10) (j := 7) inX10 rfl rfl rfl (by decide) w4_102 dX10_plain_92 ?_
      refine v_callVv G (As := [.int (S_1038 0 3), .int (S_1038 0 4), .int (S_1038 0 7)]) (st := []) (c_H_begin l hJ hX 7 8 9 10 2048 ⟨rfl, rfl, rfl, rfl⟩ S_1038 (S_1038 0 3) (S_1038 0 4) (S_1038 0 7)) (by decide) (by decide) (ci := 9) rfl rfl w5_181 w5_182 w5_183 w1_10 w5_184 qyX9_begin rfl (Nat.le_of_ble_eq_true rfl) dX10_plain_95 ?_
      refine v_bnv (fun S_1039 eS_1039 => ?_)
      replace hk := ok_v eS_1039 hk
      refine v_aload_n G 0 dX10_plain_98 rfl ?_
      refine v_getr G (ci := 10) (T := TX10) (j := 15) inX10 rfl rfl rfl (by decide) w4_110 dX10_plain_99 ?_
      refine v_callVv G (As := []) (st := []) (c_H_look l hJ hX 7 8 9 10 2048 ⟨rfl, rfl, rfl, rfl⟩ S_1039 hk.1) (by decide) (by decide) (ci := 9) rfl rfl w5_76 w5_77 w5_78 w1_10 w5_79 qyX9_look rfl (Nat.le_of_ble_eq_true rfl) dX10_plain_102 ?_
      replace hk := hk.2
      refine v_bnv (fun S_1040 eS_1040 => ?_)
      replace hk := ok_v eS_1040 hk
      exact v_sub (lv' := [(0, .ref (adr X 0)), (1, .int v1)]) [0, 1] rfl (v_M_plain_105 hρ hJ hX G fuP S_1040 v1 hk)
    · replace hk := ok_t c_1036 hk
      refine v_aload_n G 0 dX10_plain_42 rfl ?_
      refine v_getr G (ci := 10) (T := TX10) (j := 16) inX10 rfl rfl rfl (by decide) w4_111 dX10_plain_43 ?_
      refine v_iload_n G 2 dX10_plain_46 rfl ?_
      refine v_aload_n G 0 dX10_plain_47 rfl ?_
      refine v_getr G (ci := 10) (T := TX10) (j := 12) inX10 rfl rfl rfl (by decide) w4_107 dX10_plain_48 ?_
      refine v_iload_n G 2 dX10_plain_51 rfl ?_
      refine v_iald G rfl (vi_br hi (by assumption) (by decide)) dX10_plain_52 ?_
      refine v_iast G rfl (vi_br hi (by assumption) (by decide)) dX10_plain_53 (fun S_1041 eS_1041 => ?_)
      replace hk := ok_v eS_1041 hk
      refine v_iinc G (v := v2 + (1 : Int32)) 2 [(2, .int (v2 + (1 : Int32))), (0, .ref (adr X 0)), (1, .int v1)] dX10_plain_54 rfl rfl (by decide) rfl ?_
      refine v_goto G (tgt := 35) dX10_plain_57 (by decide) ?_
      exact v_sub (lv' := [(0, .ref (adr X 0)), (1, .int v1), (2, .int (v2 + (1 : Int32)))]) [1, 2, 0] rfl (ih S_1041 v1 (v2 + (1 : Int32)) (lp_m (by assumption) hm) (lp_nn (by assumption) hi) hk)
noncomputable def f_M_plain (S : St) (a1 : Int32) : Int32 × St := (if (S 0 0) = 0 then ((-1 : Int32), S) else (if a1 < 0 then ((-1 : Int32), S) else (if (20000 : Int32) < a1 then ((-1 : Int32), S) else bnv (st_up S 0 17 (1 : Int32)) (fun S_4 => bnv (st_up S_4 16 0 (0 : Int32)) (fun S_5 => (f_M_plain_35 fuz S_5 a1 (0 : Int32)))))))
def k_M_plain (S : St) (a1 : Int32) : Prop := (if (S 0 0) = 0 then True else (if a1 < 0 then True else (if (20000 : Int32) < a1 then True else bnv (st_up S 0 17 (1 : Int32)) (fun S_4 => bnv (st_up S_4 16 0 (0 : Int32)) (fun S_5 => (k_M_plain_35 fuz S_5 a1 (0 : Int32)))))))
set_option linter.unusedVariables false in
set_option maxHeartbeats 4000000 in
set_option maxRecDepth 100000 in
theorem c_M_plain (l : Launch) {X : vD} (hJ : sh_J X) (hX : shp X = shM)  (S : St) (a1 : Int32) (hk : k_M_plain S a1) : Con l X yX10_plain cX10_plain 3 (some .int) 5 [.ref (adr X 0), .int a1] S (some (.int (f_M_plain S a1).1), (f_M_plain S a1).2) := by
  refine con_of (ρ := (fun q : Int32 × St => ((some (.int q.1), q.2) : Option Value × St))) (K := f_M_plain S a1) hJ hX (by decide) (Nat.le_of_ble_eq_true rfl) (lv := [(0, .ref (adr X 0)), (1, .int a1)]) rfl ?_
  intro p e s m below meth c G
  generalize hρ0 : (fun q : Int32 × St => ((some (.int q.1), q.2) : Option Value × St)) = ρ
  have hρ : ∀ q : Int32 × St, ρ q = ((some (.int q.1), q.2) : Option Value × St) := fun q => by rw [← hρ0]
  have G : vG p s m _ meth c X shM "SensorNodeModel" cX10_plain 3 (some .int) := G
  unfold f_M_plain
  unfold k_M_plain at hk
  refine v_aload_n G 0 dX10_plain_0 rfl ?_
  refine v_geti G (ci := 10) (T := TX10) (j := 0) inX10 rfl rfl rfl (by decide) w4_95 dX10_plain_1 ?_
  refine v_if_eq G (tgt := 18) dX10_plain_4 (by decide) (fun c_1 => ?_) (fun c_1 => ?_)
  · refine v_iconst G (v := (-1 : Int32)) dX10_plain_18 (by decide) ?_
    exact v_iret G rfl (hρ _) dX10_plain_19
  · replace hk := ok_f c_1 hk
    refine v_iload_n G 1 dX10_plain_7 rfl ?_
    refine v_if_lt G (tgt := 18) dX10_plain_8 (by decide) (fun c_2 => ?_) (fun c_2 => ?_)
    · refine v_iconst G (v := (-1 : Int32)) dX10_plain_18 (by decide) ?_
      exact v_iret G rfl (hρ _) dX10_plain_19
    · replace hk := ok_f c_2 hk
      refine v_iload_n G 1 dX10_plain_11 rfl ?_
      refine v_sipush G (v := (20000 : Int32)) dX10_plain_12 (by decide) ?_
      refine v_icmp_le G (tgt := 20) dX10_plain_15 (by decide) (fun c_3 => ?_) (fun c_3 => ?_)
      · replace hk := ok_f c_3 hk
        refine v_aload_n G 0 dX10_plain_20 rfl ?_
        refine v_iconst G (v := (1 : Int32)) dX10_plain_21 (by decide) ?_
        refine v_puti G (ci := 10) (T := TX10) (j := 17) inX10 rfl rfl tyX10_ok nmX10 rfl (by decide) rfl rfl rfl w4_112 dX10_plain_22 (fun S_4 eS_4 => ?_)
        replace hk := ok_v eS_4 hk
        refine v_aload_n G 0 dX10_plain_25 rfl ?_
        refine v_getr G (ci := 10) (T := TX10) (j := 19) inX10 rfl rfl rfl (by decide) w4_114 dX10_plain_26 ?_
        refine v_iconst G (v := (0 : Int32)) dX10_plain_29 (by decide) ?_
        refine v_puti G (ci := 8) (T := TX8) (j := 0) inX8 rfl rfl tyX8_ok nmX8 rfl (by decide) rfl rfl rfl w4_70 dX10_plain_30 (fun S_5 eS_5 => ?_)
        replace hk := ok_v eS_5 hk
        refine v_iconst G (v := (0 : Int32)) dX10_plain_33 (by decide) ?_
        refine v_istore_n G [(2, .int (0 : Int32)), (0, .ref (adr X 0)), (1, .int a1)] dX10_plain_34 (by decide) rfl ?_
        exact v_sub (lv' := [(0, .ref (adr X 0)), (1, .int a1), (2, .int (0 : Int32))]) [1, 2, 0] rfl (v_M_plain_35 hρ hJ hX G fuz S_5 a1 (0 : Int32) (lp_z _ _) (by decide) hk)
      · refine v_iconst G (v := (-1 : Int32)) dX10_plain_18 (by decide) ?_
        exact v_iret G rfl (hρ _) dX10_plain_19

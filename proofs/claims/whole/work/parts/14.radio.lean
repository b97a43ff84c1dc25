/-! SensorNode$Radio.clear -/
theorem qyX5_clear : yX5_clear.cls ≠ "java/lang/invoke/MethodHandle" ∧ yX5_clear.cls ≠ "java/lang/invoke/VarHandle" ∧ (parseMethodDescriptor yX5_clear.desc).map (fun d => d.parameters.length) = some 0 := by decide +kernel
noncomputable def f_R_clear (S : St) (kr kn kl kc kb kp : Nat) : St := bnv (st_up S kr 4 (0 : Int32)) (fun S_1 => bnv (st_up S_1 kr 5 (0 : Int32)) (fun S_2 => S_2))
set_option linter.unusedVariables false in
set_option maxHeartbeats 4000000 in
set_option maxRecDepth 100000 in
theorem c_R_clear (l : Launch) {X : vD} (hJ : sh_J X) (hX : shp X = shX) (kr kn kl kc kb kp : Nat) (hR : isR kr kn kl kc kb kp) (S : St)  : Con l X yX5_clear cX5_clear 1 none 0 [.ref (adr X kr)] S (none, f_R_clear S kr kn kl kc kb kp) := by
  refine con_of (ρ := (fun S : St => ((none, S) : Option Value × St))) (K := f_R_clear S kr kn kl kc kb kp) hJ hX (by decide) (Nat.le_of_ble_eq_true rfl) (lv := [(0, .ref (adr X kr))]) rfl ?_
  intro p e s m below meth c G
  have G : vG p s m _ meth c X shX "SensorNode$Radio" cX5_clear 1 none := G
  unfold f_R_clear
  refine v_aload_n G 0 dX5_clear_0 rfl ?_
  refine v_iconst G (v := (0 : Int32)) dX5_clear_1 (by decide) ?_
  refine v_puti G (ci := 5) (T := TX5) (j := 4) inX5 rfl hR.1 tyX5_ok nmX5 rfl (by decide) rfl rfl rfl w1_107 dX5_clear_2 (fun S_1 eS_1 => ?_)
  refine v_aload_n G 0 dX5_clear_5 rfl ?_
  refine v_iconst G (v := (0 : Int32)) dX5_clear_6 (by decide) ?_
  refine v_puti G (ci := 5) (T := TX5) (j := 5) inX5 rfl hR.1 tyX5_ok nmX5 rfl (by decide) rfl rfl rfl w1_108 dX5_clear_7 (fun S_2 eS_2 => ?_)
  exact v_vret G rfl rfl dX5_clear_10
/-! SensorNode$Radio.send -/
theorem qyX5_send : yX5_send.cls ≠ "java/lang/invoke/MethodHandle" ∧ yX5_send.cls ≠ "java/lang/invoke/VarHandle" ∧ (parseMethodDescriptor yX5_send.desc).map (fun d => d.parameters.length) = some 3 := by decide +kernel
noncomputable def f_R_send_65 : Nat → St → Nat → Nat → Nat → Nat → Nat → Nat → Nat → Nat → Nat → Nat → Nat → Int32 → Int32 → Int32 → Int32 → St
  | 0, S, _, _, _, _, _, _, _, _, _, _, _, _, _, _, _ => S
  | fn + 1, S, kr, kn, kl, kc, kb, kp, kg, ko, km, ks, n, v2, v3, v4, v5 => (if v5 < (f_G_sendLength S kg ko km ks n) then (if v5 < (64 : Int32) then bnv (f_B_put S kb kp 6400 ((v4 * (64 : Int32)) + v5) (f_G_byteAt S kg ko km ks n ((f_G_sendPlace S kg ko km ks n) + v5))) (fun S_1068 => (f_R_send_65 fn S_1068 kr kn kl kc kb kp kg ko km ks n v2 v3 v4 (v5 + (1 : Int32)))) else S) else S)
set_option linter.unusedVariables false in
set_option maxHeartbeats 4000000 in
set_option maxRecDepth 100000 in
theorem v_R_send_65 {p : Program} {l : Launch} {e : Env} {s : State} {m : MethodId} {args : Array Value} {below : List Frame} {meth : Method} {c : Code} {X : vD}  (hJ : sh_J X) (hX : shp X = shX) {kr kn kl kc kb kp kg ko km ks n : Nat} (G : vG p s m args meth c X shX "SensorNode$Radio" cX5_send 6 none) (hR : isR kr kn kl kc kb kp) (hG : isG kg ko km ks n) : ∀ (fuel : Nat) (S : St) (v2 v3 v4 v5 : Int32) , (((64 : Int32)).toInt - v5.toInt).toNat < fuel → V p l e 3 s m args below meth c X 6 (fun S : St => ((none, S) : Option Value × St)) S 65 [(0, .ref (adr X kr)), (1, .ref (adr X kg)), (2, .int v2), (3, .int v3), (4, .int v4), (5, .int v5)] [] (f_R_send_65 fuel S kr kn kl kc kb kp kg ko km ks n v2 v3 v4 v5) := by
  intro fuel
  induction fuel with
  | zero =>
    intro S v2 v3 v4 v5 hm
    exact absurd hm (Nat.not_lt_zero _)
  | succ fn ih =>
    intro S v2 v3 v4 v5 hm
    rw [f_R_send_65]
    refine v_iload G 5 dX5_send_65 rfl ?_
    refine v_aload_n G 1 dX5_send_67 rfl ?_
    refine v_callVi G (As := []) (st := [.int v5]) (c_G_sendLength l hJ hX kg ko km ks n hG S) (by decide) (by decide) (ci := 1) rfl hG.1 w3_35 w3_36 w3_37 w1_7 w3_38 qyX1_sendLength rfl (Nat.le_of_ble_eq_true rfl) dX5_send_68 ?_
    refine v_icmp_ge G (tgt := 113) dX5_send_71 (by decide) (fun c_1066 => ?_) (fun c_1066 => ?_)
    · exact v_vret G rfl rfl dX5_send_113
    · refine v_iload G 5 dX5_send_74 rfl ?_
      refine v_bipush G (v := (64 : Int32)) dX5_send_76 (by decide) ?_
      refine v_icmp_ge G (tgt := 113) dX5_send_78 (by decide) (fun c_1067 => ?_) (fun c_1067 => ?_)
      · exact v_vret G rfl rfl dX5_send_113
      · refine v_aload_n G 0 dX5_send_81 rfl ?_
        refine v_getr G (ci := 5) (T := TX5) (j := 3) inX5 rfl hR.1 rfl (by decide) w1_106 dX5_send_82 ?_
        refine v_iload G 4 dX5_send_85 rfl ?_
        refine v_bipush G (v := (64 : Int32)) dX5_send_87 (by decide) ?_
        refine v_imul G dX5_send_89 ?_
        refine v_iload G 5 dX5_send_90 rfl ?_
        refine v_iadd G dX5_send_92 ?_
        refine v_aload_n G 1 dX5_send_93 rfl ?_
        refine v_aload_n G 1 dX5_send_94 rfl ?_
        refine v_callVi G (As := []) (st := [.ref (adr X kg), .int ((v4 * (64 : Int32)) + v5), .ref (adr X kb)]) (c_G_sendPlace l hJ hX kg ko km ks n hG S) (by decide) (by decide) (ci := 1) rfl hG.1 w3_39 w3_40 w3_41 w1_7 w3_42 qyX1_sendPlace rfl (Nat.le_of_ble_eq_true rfl) dX5_send_95 ?_
        refine v_iload G 5 dX5_send_98 rfl ?_
        refine v_iadd G dX5_send_100 ?_
        refine v_callVi G (As := [.int ((f_G_sendPlace S kg ko km ks n) + v5)]) (st := [.int ((v4 * (64 : Int32)) + v5), .ref (adr X kb)]) (c_G_byteAt l hJ hX kg ko km ks n hG S ((f_G_sendPlace S kg ko km ks n) + v5)) (by decide) (by decide) (ci := 1) rfl hG.1 w3_43 w3_44 w3_45 w1_7 w3_46 qyX1_byteAt rfl (Nat.le_of_ble_eq_true rfl) dX5_send_101 ?_
        refine v_callVv G (As := [.int ((v4 * (64 : Int32)) + v5), .int (f_G_byteAt S kg ko km ks n ((f_G_sendPlace S kg ko km ks n) + v5))]) (st := []) (c_B_put l hJ hX kb kp 6400 hR.2.2.2.2 S ((v4 * (64 : Int32)) + v5) (f_G_byteAt S kg ko km ks n ((f_G_sendPlace S kg ko km ks n) + v5))) (by decide) (by decide) (ci := 0) rfl hR.2.2.2.2.1 w3_47 w2_21 w2_22 w1_4 w2_23 qyX0_put rfl (Nat.le_of_ble_eq_true rfl) dX5_send_104 ?_
        refine v_bnv (fun S_1068 eS_1068 => ?_)
        refine v_iinc G (v := v5 + (1 : Int32)) 5 [(5, .int (v5 + (1 : Int32))), (0, .ref (adr X kr)), (1, .ref (adr X kg)), (2, .int v2), (3, .int v3), (4, .int v4)] dX5_send_107 rfl rfl (by decide) rfl ?_
        refine v_goto G (tgt := 65) dX5_send_110 (by decide) ?_
        exact v_sub (lv' := [(0, .ref (adr X kr)), (1, .ref (adr X kg)), (2, .int v2), (3, .int v3), (4, .int v4), (5, .int (v5 + (1 : Int32)))]) [1, 2, 3, 4, 5, 0] rfl (ih S_1068 v2 v3 v4 (v5 + (1 : Int32)) (lp_m (by assumption) hm))
noncomputable def f_R_send (S : St) (kr kn kl kc kb kp kg ko km ks n : Nat) (a2 : Int32) (a3 : Int32) : St := bnx (S kr 4) (fun x_1 => bnv (st_up S kr 4 ((S kr 4) + (1 : Int32))) (fun S_2 => bnv (st_up S_2 kr 5 a2) (fun S_3 => (if x_1 < 0 then S_3 else (if x_1 < (400 : Int32) then bnv (st_up S_3 kn x_1.toNatClampNeg a2) (fun S_6 => bnv (st_up S_6 kc x_1.toNatClampNeg a3) (fun S_7 => bnv (st_up S_7 kl x_1.toNatClampNeg (f_G_sendLength S_7 kg ko km ks n)) (fun S_8 => (f_R_send_65 fuz S_8 kr kn kl kc kb kp kg ko km ks n a2 a3 x_1 (0 : Int32))))) else S_3)))))
set_option linter.unusedVariables false in
set_option maxHeartbeats 4000000 in
set_option maxRecDepth 100000 in
theorem c_R_send (l : Launch) {X : vD} (hJ : sh_J X) (hX : shp X = shX) (kr kn kl kc kb kp kg ko km ks n : Nat) (hR : isR kr kn kl kc kb kp) (hG : isG kg ko km ks n) (S : St) (a2 : Int32) (a3 : Int32)  : Con l X yX5_send cX5_send 6 none 3 [.ref (adr X kr), .ref (adr X kg), .int a2, .int a3] S (none, f_R_send S kr kn kl kc kb kp kg ko km ks n a2 a3) := by
  refine con_of (ρ := (fun S : St => ((none, S) : Option Value × St))) (K := f_R_send S kr kn kl kc kb kp kg ko km ks n a2 a3) hJ hX (by decide) (Nat.le_of_ble_eq_true rfl) (lv := [(0, .ref (adr X kr)), (1, .ref (adr X kg)), (2, .int a2), (3, .int a3)]) rfl ?_
  intro p e s m below meth c G
  have G : vG p s m _ meth c X shX "SensorNode$Radio" cX5_send 6 none := G
  unfold f_R_send
  refine v_aload_n G 0 dX5_send_0 rfl ?_
  refine v_geti G (ci := 5) (T := TX5) (j := 4) inX5 rfl hR.1 rfl (by decide) w1_107 dX5_send_1 ?_
  refine v_namei (fun x_1 ex_1 => ?_)
  refine v_istore G [(4, .int x_1), (0, .ref (adr X kr)), (1, .ref (adr X kg)), (2, .int a2), (3, .int a3)] dX5_send_4 (by decide) rfl ?_
  refine v_aload_n G 1 dX5_send_6 rfl ?_
  refine v_dup G dX5_send_7 rfl ?_
  refine v_geti G (ci := 5) (T := TX5) (j := 4) inX5 rfl hR.1 rfl (by decide) w1_107 dX5_send_8 ?_
  refine v_iconst G (v := (1 : Int32)) dX5_send_11 (by decide) ?_
  refine v_iadd G dX5_send_12 ?_
  refine v_puti G (ci := 5) (T := TX5) (j := 4) inX5 rfl hR.1 tyX5_ok nmX5 rfl (by decide) rfl rfl rfl w1_107 dX5_send_13 (fun S_2 eS_2 => ?_)
  refine v_aload_n G 1 dX5_send_16 rfl ?_
  refine v_iload_n G 3 dX5_send_17 rfl ?_
  refine v_puti G (ci := 5) (T := TX5) (j := 5) inX5 rfl hR.1 tyX5_ok nmX5 rfl (by decide) rfl rfl rfl w1_108 dX5_send_18 (fun S_3 eS_3 => ?_)
  refine v_iload G 0 dX5_send_21 rfl ?_
  refine v_if_lt G (tgt := 34) dX5_send_23 (by decide) (fun c_4 => ?_) (fun c_4 => ?_)
  · exact v_vret G rfl rfl dX5_send_34
  · refine v_iload G 0 dX5_send_26 rfl ?_
    refine v_sipush G (v := (400 : Int32)) dX5_send_28 (by decide) ?_
    refine v_icmp_lt G (tgt := 35) dX5_send_31 (by decide) (fun c_5 => ?_) (fun c_5 => ?_)
    · refine v_aload_n G 1 dX5_send_35 rfl ?_
      refine v_getr G (ci := 5) (T := TX5) (j := 0) inX5 rfl hR.1 rfl (by decide) w1_103 dX5_send_36 ?_
      refine v_iload G 0 dX5_send_39 rfl ?_
      refine v_iload_n G 3 dX5_send_41 rfl ?_
      refine v_iast G hR.2.1 (vi_br (by assumption) (by assumption) (by decide)) dX5_send_42 (fun S_6 eS_6 => ?_)
      refine v_aload_n G 1 dX5_send_43 rfl ?_
      refine v_getr G (ci := 5) (T := TX5) (j := 2) inX5 rfl hR.1 rfl (by decide) w1_105 dX5_send_44 ?_
      refine v_iload G 0 dX5_send_47 rfl ?_
      refine v_iload_n G 4 dX5_send_49 rfl ?_
      refine v_iast G hR.2.2.2.1 (vi_br (by assumption) (by assumption) (by decide)) dX5_send_50 (fun S_7 eS_7 => ?_)
      refine v_aload_n G 1 dX5_send_51 rfl ?_
      refine v_getr G (ci := 5) (T := TX5) (j := 1) inX5 rfl hR.1 rfl (by decide) w1_104 dX5_send_52 ?_
      refine v_iload G 0 dX5_send_55 rfl ?_
      refine v_aload_n G 2 dX5_send_57 rfl ?_
      refine v_callVi G (As := []) (st := [.int x_1, .ref (adr X kl)]) (c_G_sendLength l hJ hX kg ko km ks n hG S_7) (by decide) (by decide) (ci := 1) rfl hG.1 w3_35 w3_36 w3_37 w1_7 w3_38 qyX1_sendLength rfl (Nat.le_of_ble_eq_true rfl) dX5_send_58 ?_
      refine v_iast G hR.2.2.1 (vi_br (by assumption) (by assumption) (by decide)) dX5_send_61 (fun S_8 eS_8 => ?_)
      refine v_iconst G (v := (0 : Int32)) dX5_send_62 (by decide) ?_
      refine v_istore G [(5, .int (0 : Int32)), (4, .int x_1), (0, .ref (adr X kr)), (1, .ref (adr X kg)), (2, .int a2), (3, .int a3)] dX5_send_63 (by decide) rfl ?_
      exact v_sub (lv' := [(0, .ref (adr X kr)), (1, .ref (adr X kg)), (2, .int a2), (3, .int a3), (4, .int x_1), (5, .int (0 : Int32))]) [2, 3, 4, 5, 1, 0] rfl (v_R_send_65 hJ hX G hR hG fuz S_8 a2 a3 x_1 (0 : Int32) (lp_z _ _))
    · exact v_vret G rfl rfl dX5_send_34
/-! SensorNode$Radio.keeps -/
theorem qyX5_keeps : yX5_keeps.cls ≠ "java/lang/invoke/MethodHandle" ∧ yX5_keeps.cls ≠ "java/lang/invoke/VarHandle" ∧ (parseMethodDescriptor yX5_keeps.desc).map (fun d => d.parameters.length) = some 1 := by decide +kernel
noncomputable def f_R_keeps (S : St) (kr kn kl kc kb kp : Nat) (a1 : Int32) : Int32 := (if a1 < 0 then (0 : Int32) else (if a1 < (S kr 4) then (if a1 < (400 : Int32) then (1 : Int32) else (0 : Int32)) else (0 : Int32)))
set_option linter.unusedVariables false in
set_option maxHeartbeats 4000000 in
set_option maxRecDepth 100000 in
theorem c_R_keeps (l : Launch) {X : vD} (hJ : sh_J X) (hX : shp X = shX) (kr kn kl kc kb kp : Nat) (hR : isR kr kn kl kc kb kp) (S : St) (a1 : Int32)  : Con l X yX5_keeps cX5_keeps 2 (some .boolean) 0 [.ref (adr X kr), .int a1] S (some (.int (f_R_keeps S kr kn kl kc kb kp a1)), S) := by
  refine con_of (ρ := (fun r : Int32 => ((some (.int r), S) : Option Value × St))) (K := f_R_keeps S kr kn kl kc kb kp a1) hJ hX (by decide) (Nat.le_of_ble_eq_true rfl) (lv := [(0, .ref (adr X kr)), (1, .int a1)]) rfl ?_
  intro p e s m below meth c G
  have G : vG p s m _ meth c X shX "SensorNode$Radio" cX5_keeps 2 (some .boolean) := G
  unfold f_R_keeps
  refine v_iload_n G 1 dX5_keeps_0 rfl ?_
  refine v_if_lt G (tgt := 23) dX5_keeps_1 (by decide) (fun c_1 => ?_) (fun c_1 => ?_)
  · refine v_iconst G (v := (0 : Int32)) dX5_keeps_23 (by decide) ?_
    exact v_zret G rfl rfl rfl dX5_keeps_24
  · refine v_iload_n G 1 dX5_keeps_4 rfl ?_
    refine v_aload_n G 0 dX5_keeps_5 rfl ?_
    refine v_geti G (ci := 5) (T := TX5) (j := 4) inX5 rfl hR.1 rfl (by decide) w1_107 dX5_keeps_6 ?_
    refine v_icmp_ge G (tgt := 23) dX5_keeps_9 (by decide) (fun c_2 => ?_) (fun c_2 => ?_)
    · refine v_iconst G (v := (0 : Int32)) dX5_keeps_23 (by decide) ?_
      exact v_zret G rfl rfl rfl dX5_keeps_24
    · refine v_iload_n G 1 dX5_keeps_12 rfl ?_
      refine v_sipush G (v := (400 : Int32)) dX5_keeps_13 (by decide) ?_
      refine v_icmp_ge G (tgt := 23) dX5_keeps_16 (by decide) (fun c_3 => ?_) (fun c_3 => ?_)
      · refine v_iconst G (v := (0 : Int32)) dX5_keeps_23 (by decide) ?_
        exact v_zret G rfl rfl rfl dX5_keeps_24
      · refine v_iconst G (v := (1 : Int32)) dX5_keeps_19 (by decide) ?_
        refine v_goto G (tgt := 24) dX5_keeps_20 (by decide) ?_
        exact v_zret G rfl rfl rfl dX5_keeps_24
/-! SensorNode$Radio.total -/
theorem qyX5_total : yX5_total.cls ≠ "java/lang/invoke/MethodHandle" ∧ yX5_total.cls ≠ "java/lang/invoke/VarHandle" ∧ (parseMethodDescriptor yX5_total.desc).map (fun d => d.parameters.length) = some 0 := by decide +kernel
noncomputable def f_R_total (S : St) (kr kn kl kc kb kp : Nat) : Int32 := S kr 4
set_option linter.unusedVariables false in
set_option maxHeartbeats 4000000 in
set_option maxRecDepth 100000 in
theorem c_R_total (l : Launch) {X : vD} (hJ : sh_J X) (hX : shp X = shX) (kr kn kl kc kb kp : Nat) (hR : isR kr kn kl kc kb kp) (S : St)  : Con l X yX5_total cX5_total 1 (some .int) 0 [.ref (adr X kr)] S (some (.int (f_R_total S kr kn kl kc kb kp)), S) := by
  refine con_of (ρ := (fun r : Int32 => ((some (.int r), S) : Option Value × St))) (K := f_R_total S kr kn kl kc kb kp) hJ hX (by decide) (Nat.le_of_ble_eq_true rfl) (lv := [(0, .ref (adr X kr))]) rfl ?_
  intro p e s m below meth c G
  have G : vG p s m _ meth c X shX "SensorNode$Radio" cX5_total 1 (some .int) := G
  unfold f_R_total
  refine v_aload_n G 0 dX5_total_0 rfl ?_
  refine v_geti G (ci := 5) (T := TX5) (j := 4) inX5 rfl hR.1 rfl (by decide) w1_107 dX5_total_1 ?_
  exact v_iret G rfl rfl dX5_total_4
/-! SensorNode$Radio.newest -/
theorem qyX5_newest : yX5_newest.cls ≠ "java/lang/invoke/MethodHandle" ∧ yX5_newest.cls ≠ "java/lang/invoke/VarHandle" ∧ (parseMethodDescriptor yX5_newest.desc).map (fun d => d.parameters.length) = some 0 := by decide +kernel
noncomputable def f_R_newest (S : St) (kr kn kl kc kb kp : Nat) : Int32 := S kr 5
set_option linter.unusedVariables false in
set_option maxHeartbeats 4000000 in
set_option maxRecDepth 100000 in
theorem c_R_newest (l : Launch) {X : vD} (hJ : sh_J X) (hX : shp X = shX) (kr kn kl kc kb kp : Nat) (hR : isR kr kn kl kc kb kp) (S : St)  : Con l X yX5_newest cX5_newest 1 (some .int) 0 [.ref (adr X kr)] S (some (.int (f_R_newest S kr kn kl kc kb kp)), S) := by
  refine con_of (ρ := (fun r : Int32 => ((some (.int r), S) : Option Value × St))) (K := f_R_newest S kr kn kl kc kb kp) hJ hX (by decide) (Nat.le_of_ble_eq_true rfl) (lv := [(0, .ref (adr X kr))]) rfl ?_
  intro p e s m below meth c G
  have G : vG p s m _ meth c X shX "SensorNode$Radio" cX5_newest 1 (some .int) := G
  unfold f_R_newest
  refine v_aload_n G 0 dX5_newest_0 rfl ?_
  refine v_geti G (ci := 5) (T := TX5) (j := 5) inX5 rfl hR.1 rfl (by decide) w1_108 dX5_newest_1 ?_
  exact v_iret G rfl rfl dX5_newest_4
/-! SensorNode$Radio.number -/
theorem R_keeps_in {S : St} {kr kn kl kc kb kp : Nat} {a : Int32} (h : ¬ f_R_keeps S kr kn kl kc kb kp a = 0) : vp_in a 400 := by
  unfold f_R_keeps at h
  split at h
  · exact absurd rfl h
  split at h
  · split at h
    · exact vi_br (by assumption) (by assumption) (by decide)
    · exact absurd rfl h
  · exact absurd rfl h
theorem qyX5_number : yX5_number.cls ≠ "java/lang/invoke/MethodHandle" ∧ yX5_number.cls ≠ "java/lang/invoke/VarHandle" ∧ (parseMethodDescriptor yX5_number.desc).map (fun d => d.parameters.length) = some 1 := by decide +kernel
noncomputable def f_R_number (S : St) (kr kn kl kc kb kp : Nat) (a1 : Int32) : Int32 := (if (f_R_keeps S kr kn kl kc kb kp a1) = 0 then (-1 : Int32) else S kn a1.toNatClampNeg)
set_option linter.unusedVariables false in
set_option maxHeartbeats 4000000 in
set_option maxRecDepth 100000 in
theorem c_R_number (l : Launch) {X : vD} (hJ : sh_J X) (hX : shp X = shX) (kr kn kl kc kb kp : Nat) (hR : isR kr kn kl kc kb kp) (S : St) (a1 : Int32)  : Con l X yX5_number cX5_number 2 (some .int) 1 [.ref (adr X kr), .int a1] S (some (.int (f_R_number S kr kn kl kc kb kp a1)), S) := by
  refine con_of (ρ := (fun r : Int32 => ((some (.int r), S) : Option Value × St))) (K := f_R_number S kr kn kl kc kb kp a1) hJ hX (by decide) (Nat.le_of_ble_eq_true rfl) (lv := [(0, .ref (adr X kr)), (1, .int a1)]) rfl ?_
  intro p e s m below meth c G
  have G : vG p s m _ meth c X shX "SensorNode$Radio" cX5_number 2 (some .int) := G
  unfold f_R_number
  refine v_aload_n G 0 dX5_number_0 rfl ?_
  refine v_iload_n G 1 dX5_number_1 rfl ?_
  refine v_callVi G (As := [.int a1]) (st := []) (c_R_keeps l hJ hX kr kn kl kc kb kp hR S a1) (by decide) (by decide) (ci := 5) rfl hR.1 w3_127 w3_129 w0_26 w1_6 w3_130 qyX5_keeps rfl (Nat.le_of_ble_eq_true rfl) dX5_number_2 ?_
  refine v_if_eq G (tgt := 17) dX5_number_5 (by decide) (fun c_1 => ?_) (fun c_1 => ?_)
  · refine v_iconst G (v := (-1 : Int32)) dX5_number_17 (by decide) ?_
    exact v_iret G rfl rfl dX5_number_18
  · refine v_aload_n G 0 dX5_number_8 rfl ?_
    refine v_getr G (ci := 5) (T := TX5) (j := 0) inX5 rfl hR.1 rfl (by decide) w1_103 dX5_number_9 ?_
    refine v_iload_n G 1 dX5_number_12 rfl ?_
    refine v_iald G hR.2.1 (R_keeps_in (by assumption)) dX5_number_13 ?_
    refine v_goto G (tgt := 18) dX5_number_14 (by decide) ?_
    exact v_iret G rfl rfl dX5_number_18
/-! SensorNode$Radio.length -/
theorem qyX5_length : yX5_length.cls ≠ "java/lang/invoke/MethodHandle" ∧ yX5_length.cls ≠ "java/lang/invoke/VarHandle" ∧ (parseMethodDescriptor yX5_length.desc).map (fun d => d.parameters.length) = some 1 := by decide +kernel
noncomputable def f_R_length (S : St) (kr kn kl kc kb kp : Nat) (a1 : Int32) : Int32 := (if (f_R_keeps S kr kn kl kc kb kp a1) = 0 then (-1 : Int32) else S kl a1.toNatClampNeg)
set_option linter.unusedVariables false in
set_option maxHeartbeats 4000000 in
set_option maxRecDepth 100000 in
theorem c_R_length (l : Launch) {X : vD} (hJ : sh_J X) (hX : shp X = shX) (kr kn kl kc kb kp : Nat) (hR : isR kr kn kl kc kb kp) (S : St) (a1 : Int32)  : Con l X yX5_length cX5_length 2 (some .int) 1 [.ref (adr X kr), .int a1] S (some (.int (f_R_length S kr kn kl kc kb kp a1)), S) := by
  refine con_of (ρ := (fun r : Int32 => ((some (.int r), S) : Option Value × St))) (K := f_R_length S kr kn kl kc kb kp a1) hJ hX (by decide) (Nat.le_of_ble_eq_true rfl) (lv := [(0, .ref (adr X kr)), (1, .int a1)]) rfl ?_
  intro p e s m below meth c G
  have G : vG p s m _ meth c X shX "SensorNode$Radio" cX5_length 2 (some .int) := G
  unfold f_R_length
  refine v_aload_n G 0 dX5_length_0 rfl ?_
  refine v_iload_n G 1 dX5_length_1 rfl ?_
  refine v_callVi G (As := [.int a1]) (st := []) (c_R_keeps l hJ hX kr kn kl kc kb kp hR S a1) (by decide) (by decide) (ci := 5) rfl hR.1 w3_127 w3_129 w0_26 w1_6 w3_130 qyX5_keeps rfl (Nat.le_of_ble_eq_true rfl) dX5_length_2 ?_
  refine v_if_eq G (tgt := 17) dX5_length_5 (by decide) (fun c_1 => ?_) (fun c_1 => ?_)
  · refine v_iconst G (v := (-1 : Int32)) dX5_length_17 (by decide) ?_
    exact v_iret G rfl rfl dX5_length_18
  · refine v_aload_n G 0 dX5_length_8 rfl ?_
    refine v_getr G (ci := 5) (T := TX5) (j := 1) inX5 rfl hR.1 rfl (by decide) w1_104 dX5_length_9 ?_
    refine v_iload_n G 1 dX5_length_12 rfl ?_
    refine v_iald G hR.2.2.1 (R_keeps_in (by assumption)) dX5_length_13 ?_
    refine v_goto G (tgt := 18) dX5_length_14 (by decide) ?_
    exact v_iret G rfl rfl dX5_length_18
/-! SensorNode$Radio.cutsBefore -/
theorem qyX5_cutsBefore : yX5_cutsBefore.cls ≠ "java/lang/invoke/MethodHandle" ∧ yX5_cutsBefore.cls ≠ "java/lang/invoke/VarHandle" ∧ (parseMethodDescriptor yX5_cutsBefore.desc).map (fun d => d.parameters.length) = some 1 := by decide +kernel
noncomputable def f_R_cutsBefore (S : St) (kr kn kl kc kb kp : Nat) (a1 : Int32) : Int32 := (if (f_R_keeps S kr kn kl kc kb kp a1) = 0 then (-1 : Int32) else S kc a1.toNatClampNeg)
set_option linter.unusedVariables false in
set_option maxHeartbeats 4000000 in
set_option maxRecDepth 100000 in
theorem c_R_cutsBefore (l : Launch) {X : vD} (hJ : sh_J X) (hX : shp X = shX) (kr kn kl kc kb kp : Nat) (hR : isR kr kn kl kc kb kp) (S : St) (a1 : Int32)  : Con l X yX5_cutsBefore cX5_cutsBefore 2 (some .int) 1 [.ref (adr X kr), .int a1] S (some (.int (f_R_cutsBefore S kr kn kl kc kb kp a1)), S) := by
  refine con_of (ρ := (fun r : Int32 => ((some (.int r), S) : Option Value × St))) (K := f_R_cutsBefore S kr kn kl kc kb kp a1) hJ hX (by decide) (Nat.le_of_ble_eq_true rfl) (lv := [(0, .ref (adr X kr)), (1, .int a1)]) rfl ?_
  intro p e s m below meth c G
  have G : vG p s m _ meth c X shX "SensorNode$Radio" cX5_cutsBefore 2 (some .int) := G
  unfold f_R_cutsBefore
  refine v_aload_n G 0 dX5_cutsBefore_0 rfl ?_
  refine v_iload_n G 1 dX5_cutsBefore_1 rfl ?_
  refine v_callVi G (As := [.int a1]) (st := []) (c_R_keeps l hJ hX kr kn kl kc kb kp hR S a1) (by decide) (by decide) (ci := 5) rfl hR.1 w3_127 w3_129 w0_26 w1_6 w3_130 qyX5_keeps rfl (Nat.le_of_ble_eq_true rfl) dX5_cutsBefore_2 ?_
  refine v_if_eq G (tgt := 17) dX5_cutsBefore_5 (by decide) (fun c_1 => ?_) (fun c_1 => ?_)
  · refine v_iconst G (v := (-1 : Int32)) dX5_cutsBefore_17 (by decide) ?_
    exact v_iret G rfl rfl dX5_cutsBefore_18
  · refine v_aload_n G 0 dX5_cutsBefore_8 rfl ?_
    refine v_getr G (ci := 5) (T := TX5) (j := 2) inX5 rfl hR.1 rfl (by decide) w1_105 dX5_cutsBefore_9 ?_
    refine v_iload_n G 1 dX5_cutsBefore_12 rfl ?_
    refine v_iald G hR.2.2.2.1 (R_keeps_in (by assumption)) dX5_cutsBefore_13 ?_
    refine v_goto G (tgt := 18) dX5_cutsBefore_14 (by decide) ?_
    exact v_iret G rfl rfl dX5_cutsBefore_18
/-! SensorNode$Radio.byteOf -/
theorem qyX5_byteOf : yX5_byteOf.cls ≠ "java/lang/invoke/MethodHandle" ∧ yX5_byteOf.cls ≠ "java/lang/invoke/VarHandle" ∧ (parseMethodDescriptor yX5_byteOf.desc).map (fun d => d.parameters.length) = some 2 := by decide +kernel
noncomputable def f_R_byteOf (S : St) (kr kn kl kc kb kp : Nat) (a1 : Int32) (a2 : Int32) : Int32 := (if a2 < 0 then (-1 : Int32) else (if a2 < (f_R_length S kr kn kl kc kb kp a1) then f_B_get S kb kp 6400 ((a1 * (64 : Int32)) + a2) else (-1 : Int32)))
set_option linter.unusedVariables false in
set_option maxHeartbeats 4000000 in
set_option maxRecDepth 100000 in
theorem c_R_byteOf (l : Launch) {X : vD} (hJ : sh_J X) (hX : shp X = shX) (kr kn kl kc kb kp : Nat) (hR : isR kr kn kl kc kb kp) (S : St) (a1 : Int32) (a2 : Int32)  : Con l X yX5_byteOf cX5_byteOf 3 (some .int) 2 [.ref (adr X kr), .int a1, .int a2] S (some (.int (f_R_byteOf S kr kn kl kc kb kp a1 a2)), S) := by
  refine con_of (ρ := (fun r : Int32 => ((some (.int r), S) : Option Value × St))) (K := f_R_byteOf S kr kn kl kc kb kp a1 a2) hJ hX (by decide) (Nat.le_of_ble_eq_true rfl) (lv := [(0, .ref (adr X kr)), (1, .int a1), (2, .int a2)]) rfl ?_
  intro p e s m below meth c G
  have G : vG p s m _ meth c X shX "SensorNode$Radio" cX5_byteOf 3 (some .int) := G
  unfold f_R_byteOf
  refine v_iload_n G 2 dX5_byteOf_0 rfl ?_
  refine v_if_lt G (tgt := 29) dX5_byteOf_1 (by decide) (fun c_1 => ?_) (fun c_1 => ?_)
  · refine v_iconst G (v := (-1 : Int32)) dX5_byteOf_29 (by decide) ?_
    exact v_iret G rfl rfl dX5_byteOf_30
  · refine v_iload_n G 2 dX5_byteOf_4 rfl ?_
    refine v_aload_n G 0 dX5_byteOf_5 rfl ?_
    refine v_iload_n G 1 dX5_byteOf_6 rfl ?_
    refine v_callVi G (As := [.int a1]) (st := [.int a2]) (c_R_length l hJ hX kr kn kl kc kb kp hR S a1) (by decide) (by decide) (ci := 5) rfl hR.1 w3_147 w3_132 w3_133 w1_6 w3_134 qyX5_length rfl (Nat.le_of_ble_eq_true rfl) dX5_byteOf_7 ?_
    refine v_icmp_ge G (tgt := 29) dX5_byteOf_10 (by decide) (fun c_2 => ?_) (fun c_2 => ?_)
    · refine v_iconst G (v := (-1 : Int32)) dX5_byteOf_29 (by decide) ?_
      exact v_iret G rfl rfl dX5_byteOf_30
    · refine v_aload_n G 0 dX5_byteOf_13 rfl ?_
      refine v_getr G (ci := 5) (T := TX5) (j := 3) inX5 rfl hR.1 rfl (by decide) w1_106 dX5_byteOf_14 ?_
      refine v_iload_n G 1 dX5_byteOf_17 rfl ?_
      refine v_bipush G (v := (64 : Int32)) dX5_byteOf_18 (by decide) ?_
      refine v_imul G dX5_byteOf_20 ?_
      refine v_iload_n G 2 dX5_byteOf_21 rfl ?_
      refine v_iadd G dX5_byteOf_22 ?_
      refine v_callVi G (As := [.int ((a1 * (64 : Int32)) + a2)]) (st := []) (c_B_get l hJ hX kb kp 6400 hR.2.2.2.2 S ((a1 * (64 : Int32)) + a2)) (by decide) (by decide) (ci := 0) rfl hR.2.2.2.2.1 w3_148 w2_57 w2_58 w1_4 w2_59 qyX0_get rfl (Nat.le_of_ble_eq_true rfl) dX5_byteOf_23 ?_
      refine v_goto G (tgt := 30) dX5_byteOf_26 (by decide) ?_
      exact v_iret G rfl rfl dX5_byteOf_30

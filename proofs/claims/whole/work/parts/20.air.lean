/-! SensorNodeModel$Air.has -/
theorem qyX8_has : yX8_has.cls ≠ "java/lang/invoke/MethodHandle" ∧ yX8_has.cls ≠ "java/lang/invoke/VarHandle" ∧ (parseMethodDescriptor yX8_has.desc).map (fun d => d.parameters.length) = some 1 := by decide +kernel
noncomputable def f_A_has (S : St) (ka kn kl kb ky : Nat) (a1 : Int32) : Int32 := (if a1 < 0 then (0 : Int32) else (if a1 < (S ka 0) then (if a1 < (400 : Int32) then (1 : Int32) else (0 : Int32)) else (0 : Int32)))
set_option linter.unusedVariables false in
set_option maxHeartbeats 4000000 in
set_option maxRecDepth 100000 in
theorem c_A_has (l : Launch) {X : vD} (hJ : sh_J X) (hX : shp X = shM) (ka kn kl kb ky : Nat) (hA : isA ka kn kl kb ky) (S : St) (a1 : Int32)  : Con l X yX8_has cX8_has 2 (some .boolean) 0 [.ref (adr X ka), .int a1] S (some (.int (f_A_has S ka kn kl kb ky a1)), S) := by
  refine con_of (ρ := (fun r : Int32 => ((some (.int r), S) : Option Value × St))) (K := f_A_has S ka kn kl kb ky a1) hJ hX (by decide) (Nat.le_of_ble_eq_true rfl) (lv := [(0, .ref (adr X ka)), (1, .int a1)]) rfl ?_
  intro p e s m below meth c G
  have G : vG p s m _ meth c X shM "SensorNodeModel$Air" cX8_has 2 (some .boolean) := G
  unfold f_A_has
  refine v_iload_n G 1 dX8_has_0 rfl ?_
  refine v_if_lt G (tgt := 23) dX8_has_1 (by decide) (fun c_1 => ?_) (fun c_1 => ?_)
  · refine v_iconst G (v := (0 : Int32)) dX8_has_23 (by decide) ?_
    exact v_zret G rfl rfl rfl dX8_has_24
  · refine v_iload_n G 1 dX8_has_4 rfl ?_
    refine v_aload_n G 0 dX8_has_5 rfl ?_
    refine v_geti G (ci := 8) (T := TX8) (j := 0) inX8 rfl hA.1 rfl (by decide) w4_69 dX8_has_6 ?_
    refine v_icmp_ge G (tgt := 23) dX8_has_9 (by decide) (fun c_2 => ?_) (fun c_2 => ?_)
    · refine v_iconst G (v := (0 : Int32)) dX8_has_23 (by decide) ?_
      exact v_zret G rfl rfl rfl dX8_has_24
    · refine v_iload_n G 1 dX8_has_12 rfl ?_
      refine v_sipush G (v := (400 : Int32)) dX8_has_13 (by decide) ?_
      refine v_icmp_ge G (tgt := 23) dX8_has_16 (by decide) (fun c_3 => ?_) (fun c_3 => ?_)
      · refine v_iconst G (v := (0 : Int32)) dX8_has_23 (by decide) ?_
        exact v_zret G rfl rfl rfl dX8_has_24
      · refine v_iconst G (v := (1 : Int32)) dX8_has_19 (by decide) ?_
        refine v_goto G (tgt := 24) dX8_has_20 (by decide) ?_
        exact v_zret G rfl rfl rfl dX8_has_24
/-! SensorNodeModel$Air.at -/
theorem qyX8_at : yX8_at.cls ≠ "java/lang/invoke/MethodHandle" ∧ yX8_at.cls ≠ "java/lang/invoke/VarHandle" ∧ (parseMethodDescriptor yX8_at.desc).map (fun d => d.parameters.length) = some 2 := by decide +kernel
noncomputable def f_A_at (S : St) (ka kn kl kb ky : Nat) (a1 : Int32) (a2 : Int32) : Int32 := (if (f_A_has S ka kn kl kb ky a1) = 0 then (-1 : Int32) else (if a2 < 0 then (-1 : Int32) else (if a2 < (S kl a1.toNatClampNeg) then (S ky (((64 : Int32) * a1) + a2).toNatClampNeg) &&& (255 : Int32) else (-1 : Int32))))
def k_A_at (S : St) (ka kn kl kb ky : Nat) (a1 : Int32) (a2 : Int32) : Prop := (if (f_A_has S ka kn kl kb ky a1) = 0 then True else (if a2 < 0 then True else (vp_in a1 400 ∧ (if a2 < (S kl a1.toNatClampNeg) then vp_in (((64 : Int32) * a1) + a2) 25600 else True))))
set_option linter.unusedVariables false in
set_option maxHeartbeats 4000000 in
set_option maxRecDepth 100000 in
theorem c_A_at (l : Launch) {X : vD} (hJ : sh_J X) (hX : shp X = shM) (ka kn kl kb ky : Nat) (hA : isA ka kn kl kb ky) (S : St) (a1 : Int32) (a2 : Int32) (hk : k_A_at S ka kn kl kb ky a1 a2) : Con l X yX8_at cX8_at 3 (some .int) 1 [.ref (adr X ka), .int a1, .int a2] S (some (.int (f_A_at S ka kn kl kb ky a1 a2)), S) := by
  refine con_of (ρ := (fun r : Int32 => ((some (.int r), S) : Option Value × St))) (K := f_A_at S ka kn kl kb ky a1 a2) hJ hX (by decide) (Nat.le_of_ble_eq_true rfl) (lv := [(0, .ref (adr X ka)), (1, .int a1), (2, .int a2)]) rfl ?_
  intro p e s m below meth c G
  have G : vG p s m _ meth c X shM "SensorNodeModel$Air" cX8_at 3 (some .int) := G
  unfold f_A_at
  unfold k_A_at at hk
  refine v_aload_n G 0 dX8_at_0 rfl ?_
  refine v_iload_n G 1 dX8_at_1 rfl ?_
  refine v_callVi G (As := [.int a1]) (st := []) (c_A_has l hJ hX ka kn kl kb ky hA S a1) (by decide) (by decide) (ci := 8) rfl hA.1 w5_172 w5_161 w5_162 w1_11 w5_163 qyX8_has rfl (Nat.le_of_ble_eq_true rfl) dX8_at_2 ?_
  refine v_if_eq G (tgt := 40) dX8_at_5 (by decide) (fun c_1 => ?_) (fun c_1 => ?_)
  · refine v_iconst G (v := (-1 : Int32)) dX8_at_40 (by decide) ?_
    exact v_iret G rfl rfl dX8_at_41
  · replace hk := ok_f c_1 hk
    refine v_iload_n G 2 dX8_at_8 rfl ?_
    refine v_if_lt G (tgt := 40) dX8_at_9 (by decide) (fun c_2 => ?_) (fun c_2 => ?_)
    · refine v_iconst G (v := (-1 : Int32)) dX8_at_40 (by decide) ?_
      exact v_iret G rfl rfl dX8_at_41
    · replace hk := ok_f c_2 hk
      refine v_iload_n G 2 dX8_at_12 rfl ?_
      refine v_aload_n G 0 dX8_at_13 rfl ?_
      refine v_getr G (ci := 8) (T := TX8) (j := 2) inX8 rfl hA.1 rfl (by decide) w4_75 dX8_at_14 ?_
      refine v_iload_n G 1 dX8_at_17 rfl ?_
      refine v_iald G hA.2.2.1 hk.1 dX8_at_18 ?_
      replace hk := hk.2
      refine v_icmp_ge G (tgt := 40) dX8_at_19 (by decide) (fun c_3 => ?_) (fun c_3 => ?_)
      · refine v_iconst G (v := (-1 : Int32)) dX8_at_40 (by decide) ?_
        exact v_iret G rfl rfl dX8_at_41
      · replace hk := ok_t c_3 hk
        refine v_aload_n G 0 dX8_at_22 rfl ?_
        refine v_getr G (ci := 8) (T := TX8) (j := 4) inX8 rfl hA.1 rfl (by decide) w4_81 dX8_at_23 ?_
        refine v_bipush G (v := (64 : Int32)) dX8_at_26 (by decide) ?_
        refine v_iload_n G 1 dX8_at_28 rfl ?_
        refine v_imul G dX8_at_29 ?_
        refine v_iload_n G 2 dX8_at_30 rfl ?_
        refine v_iadd G dX8_at_31 ?_
        refine v_bald G hA.2.2.2.2 hk dX8_at_32 ?_
        refine v_sipush G (v := (255 : Int32)) dX8_at_33 (by decide) ?_
        refine v_iand G dX8_at_36 ?_
        refine v_goto G (tgt := 41) dX8_at_37 (by decide) ?_
        exact v_iret G rfl rfl dX8_at_41

/-! SensorNodeModel.four -/
theorem qyX10_four : yX10_four.cls ≠ "java/lang/invoke/MethodHandle" ∧ yX10_four.cls ≠ "java/lang/invoke/VarHandle" ∧ (parseMethodDescriptor yX10_four.desc).map (fun d => d.parameters.length) = some 1 := by decide +kernel
noncomputable def f_M_four (S : St) (a1 : Int32) : St := bnv (st_up S 22 (S 0 34).toNatClampNeg (vp_nar .byte ((a1 >>> ((24 : Int32) &&& 31)).toInt8.toInt32))) (fun S_1 => bnv (st_up S_1 0 34 ((S_1 0 34) + (1 : Int32))) (fun S_2 => bnv (st_up S_2 22 (S_2 0 34).toNatClampNeg (vp_nar .byte ((a1 >>> ((16 : Int32) &&& 31)).toInt8.toInt32))) (fun S_3 => bnv (st_up S_3 0 34 ((S_3 0 34) + (1 : Int32))) (fun S_4 => bnv (st_up S_4 22 (S_4 0 34).toNatClampNeg (vp_nar .byte ((a1 >>> ((8 : Int32) &&& 31)).toInt8.toInt32))) (fun S_5 => bnv (st_up S_5 0 34 ((S_5 0 34) + (1 : Int32))) (fun S_6 => bnv (st_up S_6 22 (S_6 0 34).toNatClampNeg (vp_nar .byte ((a1 >>> ((0 : Int32) &&& 31)).toInt8.toInt32))) (fun S_7 => bnv (st_up S_7 0 34 ((S_7 0 34) + (1 : Int32))) (fun S_8 => S_8))))))))
def k_M_four (S : St) (a1 : Int32) : Prop := (vp_in (S 0 34) 8200 ∧ bnv (st_up S 22 (S 0 34).toNatClampNeg (vp_nar .byte ((a1 >>> ((24 : Int32) &&& 31)).toInt8.toInt32))) (fun S_1 => bnv (st_up S_1 0 34 ((S_1 0 34) + (1 : Int32))) (fun S_2 => (vp_in (S_2 0 34) 8200 ∧ bnv (st_up S_2 22 (S_2 0 34).toNatClampNeg (vp_nar .byte ((a1 >>> ((16 : Int32) &&& 31)).toInt8.toInt32))) (fun S_3 => bnv (st_up S_3 0 34 ((S_3 0 34) + (1 : Int32))) (fun S_4 => (vp_in (S_4 0 34) 8200 ∧ bnv (st_up S_4 22 (S_4 0 34).toNatClampNeg (vp_nar .byte ((a1 >>> ((8 : Int32) &&& 31)).toInt8.toInt32))) (fun S_5 => bnv (st_up S_5 0 34 ((S_5 0 34) + (1 : Int32))) (fun S_6 => vp_in (S_6 0 34) 8200)))))))))
set_option linter.unusedVariables false in
set_option maxHeartbeats 4000000 in
set_option maxRecDepth 100000 in
theorem c_M_four (l : Launch) {X : vD} (hJ : sh_J X) (hX : shp X = shM)  (S : St) (a1 : Int32) (hk : k_M_four S a1) : Con l X yX10_four cX10_four 3 none 0 [.ref (adr X 0), .int a1] S (none, f_M_four S a1) := by
  refine con_of (ρ := (fun S : St => ((none, S) : Option Value × St))) (K := f_M_four S a1) hJ hX (by decide) (Nat.le_of_ble_eq_true rfl) (lv := [(0, .ref (adr X 0)), (1, .int a1)]) rfl ?_
  intro p e s m below meth c G
  have G : vG p s m _ meth c X shM "SensorNodeModel" cX10_four 3 none := G
  unfold f_M_four
  unfold k_M_four at hk
  refine v_bipush G (v := (24 : Int32)) dX10_four_0 (by decide) ?_
  refine v_istore_n G [(2, .int (24 : Int32)), (0, .ref (adr X 0)), (1, .int a1)] dX10_four_2 (by decide) rfl ?_
  refine v_iload_n G 0 dX10_four_3 rfl ?_
  refine v_if_lt_f G (tgt := 36) dX10_four_4 (by decide) (by decide) ?_
  refine v_aload_n G 1 dX10_four_7 rfl ?_
  refine v_getr G (ci := 10) (T := TX10) (j := 33) inX10 rfl rfl rfl (by decide) w4_128 dX10_four_8 ?_
  refine v_aload_n G 1 dX10_four_11 rfl ?_
  refine v_geti G (ci := 10) (T := TX10) (j := 34) inX10 rfl rfl rfl (by decide) w4_129 dX10_four_12 ?_
  refine v_iload_n G 2 dX10_four_15 rfl ?_
  refine v_iload_n G 0 dX10_four_16 rfl ?_
  refine v_ishr G dX10_four_17 ?_
  refine v_i2b G dX10_four_18 ?_
  refine v_bast G rfl hk.1 dX10_four_19 (fun S_1 eS_1 => ?_)
  replace hk := hk.2
  replace hk := ok_v eS_1 hk
  refine v_aload_n G 1 dX10_four_20 rfl ?_
  refine v_dup G dX10_four_21 rfl ?_
  refine v_geti G (ci := 10) (T := TX10) (j := 34) inX10 rfl rfl rfl (by decide) w4_129 dX10_four_22 ?_
  refine v_iconst G (v := (1 : Int32)) dX10_four_25 (by decide) ?_
  refine v_iadd G dX10_four_26 ?_
  refine v_puti G (ci := 10) (T := TX10) (j := 34) inX10 rfl rfl tyX10_ok nmX10 rfl (by decide) rfl rfl rfl w4_129 dX10_four_27 (fun S_2 eS_2 => ?_)
  replace hk := ok_v eS_2 hk
  refine v_iinc G (v := (16 : Int32)) 0 [(2, .int (16 : Int32)), (0, .ref (adr X 0)), (1, .int a1)] dX10_four_30 rfl (by decide) (by decide) rfl ?_
  refine v_goto G (tgt := 3) dX10_four_33 (by decide) ?_
  refine v_iload_n G 0 dX10_four_3 rfl ?_
  refine v_if_lt_f G (tgt := 36) dX10_four_4 (by decide) (by decide) ?_
  refine v_aload_n G 1 dX10_four_7 rfl ?_
  refine v_getr G (ci := 10) (T := TX10) (j := 33) inX10 rfl rfl rfl (by decide) w4_128 dX10_four_8 ?_
  refine v_aload_n G 1 dX10_four_11 rfl ?_
  refine v_geti G (ci := 10) (T := TX10) (j := 34) inX10 rfl rfl rfl (by decide) w4_129 dX10_four_12 ?_
  refine v_iload_n G 2 dX10_four_15 rfl ?_
  refine v_iload_n G 0 dX10_four_16 rfl ?_
  refine v_ishr G dX10_four_17 ?_
  refine v_i2b G dX10_four_18 ?_
  refine v_bast G rfl hk.1 dX10_four_19 (fun S_3 eS_3 => ?_)
  replace hk := hk.2
  replace hk := ok_v eS_3 hk
  refine v_aload_n G 1 dX10_four_20 rfl ?_
  refine v_dup G dX10_four_21 rfl ?_
  refine v_geti G (ci := 10) (T := TX10) (j := 34) inX10 rfl rfl rfl (by decide) w4_129 dX10_four_22 ?_
  refine v_iconst G (v := (1 : Int32)) dX10_four_25 (by decide) ?_
  refine v_iadd G dX10_four_26 ?_
  refine v_puti G (ci := 10) (T := TX10) (j := 34) inX10 rfl rfl tyX10_ok nmX10 rfl (by decide) rfl rfl rfl w4_129 dX10_four_27 (fun S_4 eS_4 => ?_)
  replace hk := ok_v eS_4 hk
  refine v_iinc G (v := (8 : Int32)) 0 [(2, .int (8 : Int32)), (0, .ref (adr X 0)), (1, .int a1)] dX10_four_30 rfl (by decide) (by decide) rfl ?_
  refine v_goto G (tgt := 3) dX10_four_33 (by decide) ?_
  refine v_iload_n G 0 dX10_four_3 rfl ?_
  refine v_if_lt_f G (tgt := 36) dX10_four_4 (by decide) (by decide) ?_
  refine v_aload_n G 1 dX10_four_7 rfl ?_
  refine v_getr G (ci := 10) (T := TX10) (j := 33) inX10 rfl rfl rfl (by decide) w4_128 dX10_four_8 ?_
  refine v_aload_n G 1 dX10_four_11 rfl ?_
  refine v_geti G (ci := 10) (T := TX10) (j := 34) inX10 rfl rfl rfl (by decide) w4_129 dX10_four_12 ?_
  refine v_iload_n G 2 dX10_four_15 rfl ?_
  refine v_iload_n G 0 dX10_four_16 rfl ?_
  refine v_ishr G dX10_four_17 ?_
  refine v_i2b G dX10_four_18 ?_
  refine v_bast G rfl hk.1 dX10_four_19 (fun S_5 eS_5 => ?_)
  replace hk := hk.2
  replace hk := ok_v eS_5 hk
  refine v_aload_n G 1 dX10_four_20 rfl ?_
  refine v_dup G dX10_four_21 rfl ?_
  refine v_geti G (ci := 10) (T := TX10) (j := 34) inX10 rfl rfl rfl (by decide) w4_129 dX10_four_22 ?_
  refine v_iconst G (v := (1 : Int32)) dX10_four_25 (by decide) ?_
  refine v_iadd G dX10_four_26 ?_
  refine v_puti G (ci := 10) (T := TX10) (j := 34) inX10 rfl rfl tyX10_ok nmX10 rfl (by decide) rfl rfl rfl w4_129 dX10_four_27 (fun S_6 eS_6 => ?_)
  replace hk := ok_v eS_6 hk
  refine v_iinc G (v := (0 : Int32)) 0 [(2, .int (0 : Int32)), (0, .ref (adr X 0)), (1, .int a1)] dX10_four_30 rfl (by decide) (by decide) rfl ?_
  refine v_goto G (tgt := 3) dX10_four_33 (by decide) ?_
  refine v_iload_n G 0 dX10_four_3 rfl ?_
  refine v_if_lt_f G (tgt := 36) dX10_four_4 (by decide) (by decide) ?_
  refine v_aload_n G 1 dX10_four_7 rfl ?_
  refine v_getr G (ci := 10) (T := TX10) (j := 33) inX10 rfl rfl rfl (by decide) w4_128 dX10_four_8 ?_
  refine v_aload_n G 1 dX10_four_11 rfl ?_
  refine v_geti G (ci := 10) (T := TX10) (j := 34) inX10 rfl rfl rfl (by decide) w4_129 dX10_four_12 ?_
  refine v_iload_n G 2 dX10_four_15 rfl ?_
  refine v_iload_n G 0 dX10_four_16 rfl ?_
  refine v_ishr G dX10_four_17 ?_
  refine v_i2b G dX10_four_18 ?_
  refine v_bast G rfl hk dX10_four_19 (fun S_7 eS_7 => ?_)
  refine v_aload_n G 1 dX10_four_20 rfl ?_
  refine v_dup G dX10_four_21 rfl ?_
  refine v_geti G (ci := 10) (T := TX10) (j := 34) inX10 rfl rfl rfl (by decide) w4_129 dX10_four_22 ?_
  refine v_iconst G (v := (1 : Int32)) dX10_four_25 (by decide) ?_
  refine v_iadd G dX10_four_26 ?_
  refine v_puti G (ci := 10) (T := TX10) (j := 34) inX10 rfl rfl tyX10_ok nmX10 rfl (by decide) rfl rfl rfl w4_129 dX10_four_27 (fun S_8 eS_8 => ?_)
  refine v_iinc G (v := (-8 : Int32)) 0 [(2, .int (-8 : Int32)), (0, .ref (adr X 0)), (1, .int a1)] dX10_four_30 rfl (by decide) (by decide) rfl ?_
  refine v_goto G (tgt := 3) dX10_four_33 (by decide) ?_
  refine v_iload_n G 0 dX10_four_3 rfl ?_
  refine v_if_lt_t G (tgt := 36) dX10_four_4 (by decide) (by decide) ?_
  exact v_vret G rfl rfl dX10_four_36
/-! SensorNodeModel.feed -/
theorem qyX10_feed : yX10_feed.cls ≠ "java/lang/invoke/MethodHandle" ∧ yX10_feed.cls ≠ "java/lang/invoke/VarHandle" ∧ (parseMethodDescriptor yX10_feed.desc).map (fun d => d.parameters.length) = some 5 := by decide +kernel
noncomputable def f_M_feed (S : St) (a1 : Int32) (a2 : Int32) (a3 : Int32) (a4 : Int32) (a5 : Int32) : Int32 × St := (if (8200 : Int32) < ((S 0 34) + (20 : Int32)) then ((-1 : Int32), S) else (if (65536 : Int32) < ((S 0 35) + (20 : Int32)) then ((-1 : Int32), S) else bnv (f_M_four S a1) (fun S_3 => bnv (f_M_four S_3 a2) (fun S_4 => bnv (f_M_four S_4 a3) (fun S_5 => bnv (f_M_four S_5 a4) (fun S_6 => bnv (f_M_four S_6 a5) (fun S_7 => bnv (st_up S_7 0 35 ((S_7 0 35) + (20 : Int32))) (fun S_8 => (S_8 0 34, S_8)))))))))
def k_M_feed (S : St) (a1 : Int32) (a2 : Int32) (a3 : Int32) (a4 : Int32) (a5 : Int32) : Prop := (if (8200 : Int32) < ((S 0 34) + (20 : Int32)) then True else (if (65536 : Int32) < ((S 0 35) + (20 : Int32)) then True else (k_M_four S a1 ∧ bnv (f_M_four S a1) (fun S_3 => (k_M_four S_3 a2 ∧ bnv (f_M_four S_3 a2) (fun S_4 => (k_M_four S_4 a3 ∧ bnv (f_M_four S_4 a3) (fun S_5 => (k_M_four S_5 a4 ∧ bnv (f_M_four S_5 a4) (fun S_6 => k_M_four S_6 a5))))))))))
set_option linter.unusedVariables false in
set_option maxHeartbeats 4000000 in
set_option maxRecDepth 100000 in
theorem c_M_feed (l : Launch) {X : vD} (hJ : sh_J X) (hX : shp X = shM)  (S : St) (a1 : Int32) (a2 : Int32) (a3 : Int32) (a4 : Int32) (a5 : Int32) (hk : k_M_feed S a1 a2 a3 a4 a5) : Con l X yX10_feed cX10_feed 6 (some .int) 1 [.ref (adr X 0), .int a1, .int a2, .int a3, .int a4, .int a5] S (some (.int (f_M_feed S a1 a2 a3 a4 a5).1), (f_M_feed S a1 a2 a3 a4 a5).2) := by
  refine con_of (ρ := (fun q : Int32 × St => ((some (.int q.1), q.2) : Option Value × St))) (K := f_M_feed S a1 a2 a3 a4 a5) hJ hX (by decide) (Nat.le_of_ble_eq_true rfl) (lv := [(0, .ref (adr X 0)), (1, .int a1), (2, .int a2), (3, .int a3), (4, .int a4), (5, .int a5)]) rfl ?_
  intro p e s m below meth c G
  generalize hρ0 : (fun q : Int32 × St => ((some (.int q.1), q.2) : Option Value × St)) = ρ
  have hρ : ∀ q : Int32 × St, ρ q = ((some (.int q.1), q.2) : Option Value × St) := fun q => by rw [← hρ0]
  have G : vG p s m _ meth c X shM "SensorNodeModel" cX10_feed 6 (some .int) := G
  unfold f_M_feed
  unfold k_M_feed at hk
  refine v_aload_n G 0 dX10_feed_0 rfl ?_
  refine v_geti G (ci := 10) (T := TX10) (j := 34) inX10 rfl rfl rfl (by decide) w4_129 dX10_feed_1 ?_
  refine v_bipush G (v := (20 : Int32)) dX10_feed_4 (by decide) ?_
  refine v_iadd G dX10_feed_6 ?_
  refine v_sipush G (v := (8200 : Int32)) dX10_feed_7 (by decide) ?_
  refine v_icmp_gt G (tgt := 25) dX10_feed_10 (by decide) (fun c_1 => ?_) (fun c_1 => ?_)
  · refine v_iconst G (v := (-1 : Int32)) dX10_feed_25 (by decide) ?_
    exact v_iret G rfl (hρ _) dX10_feed_26
  · replace hk := ok_f c_1 hk
    refine v_aload_n G 0 dX10_feed_13 rfl ?_
    refine v_geti G (ci := 10) (T := TX10) (j := 35) inX10 rfl rfl rfl (by decide) w4_130 dX10_feed_14 ?_
    refine v_bipush G (v := (20 : Int32)) dX10_feed_17 (by decide) ?_
    refine v_iadd G dX10_feed_19 ?_
    refine v_ldc G (v := (65536 : Int32)) dX10_feed_20 w4_209 ?_
    refine v_icmp_le G (tgt := 27) dX10_feed_22 (by decide) (fun c_2 => ?_) (fun c_2 => ?_)
    · replace hk := ok_f c_2 hk
      refine v_aload_n G 0 dX10_feed_27 rfl ?_
      refine v_iload_n G 1 dX10_feed_28 rfl ?_
      refine v_callVv G (As := [.int a1]) (st := []) (c_M_four l hJ hX S a1 hk.1) (by decide) (by decide) (ci := 10) rfl rfl w4_210 w4_212 w0_28 w1_9 w4_213 qyX10_four rfl (Nat.le_of_ble_eq_true rfl) dX10_feed_29 ?_
      replace hk := hk.2
      refine v_bnv (fun S_3 eS_3 => ?_)
      replace hk := ok_v eS_3 hk
      refine v_aload_n G 0 dX10_feed_32 rfl ?_
      refine v_iload_n G 2 dX10_feed_33 rfl ?_
      refine v_callVv G (As := [.int a2]) (st := []) (c_M_four l hJ hX S_3 a2 hk.1) (by decide) (by decide) (ci := 10) rfl rfl w4_210 w4_212 w0_28 w1_9 w4_213 qyX10_four rfl (Nat.le_of_ble_eq_true rfl) dX10_feed_34 ?_
      replace hk := hk.2
      refine v_bnv (fun S_4 eS_4 => ?_)
      replace hk := ok_v eS_4 hk
      refine v_aload_n G 0 dX10_feed_37 rfl ?_
      refine v_iload_n G 3 dX10_feed_38 rfl ?_
      refine v_callVv G (As := [.int a3]) (st := []) (c_M_four l hJ hX S_4 a3 hk.1) (by decide) (by decide) (ci := 10) rfl rfl w4_210 w4_212 w0_28 w1_9 w4_213 qyX10_four rfl (Nat.le_of_ble_eq_true rfl) dX10_feed_39 ?_
      replace hk := hk.2
      refine v_bnv (fun S_5 eS_5 => ?_)
      replace hk := ok_v eS_5 hk
      refine v_aload_n G 0 dX10_feed_42 rfl ?_
      refine v_iload G 4 dX10_feed_43 rfl ?_
      refine v_callVv G (As := [.int a4]) (st := []) (c_M_four l hJ hX S_5 a4 hk.1) (by decide) (by decide) (ci := 10) rfl rfl w4_210 w4_212 w0_28 w1_9 w4_213 qyX10_four rfl (Nat.le_of_ble_eq_true rfl) dX10_feed_45 ?_
      replace hk := hk.2
      refine v_bnv (fun S_6 eS_6 => ?_)
      replace hk := ok_v eS_6 hk
      refine v_aload_n G 0 dX10_feed_48 rfl ?_
      refine v_iload G 5 dX10_feed_49 rfl ?_
      refine v_callVv G (As := [.int a5]) (st := []) (c_M_four l hJ hX S_6 a5 hk) (by decide) (by decide) (ci := 10) rfl rfl w4_210 w4_212 w0_28 w1_9 w4_213 qyX10_four rfl (Nat.le_of_ble_eq_true rfl) dX10_feed_51 ?_
      refine v_bnv (fun S_7 eS_7 => ?_)
      refine v_aload_n G 0 dX10_feed_54 rfl ?_
      refine v_dup G dX10_feed_55 rfl ?_
      refine v_geti G (ci := 10) (T := TX10) (j := 35) inX10 rfl rfl rfl (by decide) w4_130 dX10_feed_56 ?_
      refine v_bipush G (v := (20 : Int32)) dX10_feed_59 (by decide) ?_
      refine v_iadd G dX10_feed_61 ?_
      refine v_puti G (ci := 10) (T := TX10) (j := 35) inX10 rfl rfl tyX10_ok nmX10 rfl (by decide) rfl rfl rfl w4_130 dX10_feed_62 (fun S_8 eS_8 => ?_)
      refine v_aload_n G 0 dX10_feed_65 rfl ?_
      refine v_geti G (ci := 10) (T := TX10) (j := 34) inX10 rfl rfl rfl (by decide) w4_129 dX10_feed_66 ?_
      exact v_iret G rfl (hρ _) dX10_feed_69
    · refine v_iconst G (v := (-1 : Int32)) dX10_feed_25 (by decide) ?_
      exact v_iret G rfl (hρ _) dX10_feed_26
/-! SensorNodeModel.end -/
theorem qyX10_end : yX10_end.cls ≠ "java/lang/invoke/MethodHandle" ∧ yX10_end.cls ≠ "java/lang/invoke/VarHandle" ∧ (parseMethodDescriptor yX10_end.desc).map (fun d => d.parameters.length) = some 1 := by decide +kernel
noncomputable def f_M_end (S : St) (a1 : Int32) : Int32 × St := (if a1 < 0 then ((0 : Int32), S) else (if (S 0 34) < a1 then ((0 : Int32), S) else bnv (st_up S 0 34 a1) (fun S_3 => ((1 : Int32), S_3))))
set_option linter.unusedVariables false in
set_option maxHeartbeats 4000000 in
set_option maxRecDepth 100000 in
theorem c_M_end (l : Launch) {X : vD} (hJ : sh_J X) (hX : shp X = shM)  (S : St) (a1 : Int32)  : Con l X yX10_end cX10_end 2 (some .boolean) 0 [.ref (adr X 0), .int a1] S (some (.int (f_M_end S a1).1), (f_M_end S a1).2) := by
  refine con_of (ρ := (fun q : Int32 × St => ((some (.int q.1), q.2) : Option Value × St))) (K := f_M_end S a1) hJ hX (by decide) (Nat.le_of_ble_eq_true rfl) (lv := [(0, .ref (adr X 0)), (1, .int a1)]) rfl ?_
  intro p e s m below meth c G
  generalize hρ0 : (fun q : Int32 × St => ((some (.int q.1), q.2) : Option Value × St)) = ρ
  have hρ : ∀ q : Int32 × St, ρ q = ((some (.int q.1), q.2) : Option Value × St) := fun q => by rw [← hρ0]
  have G : vG p s m _ meth c X shM "SensorNodeModel" cX10_end 2 (some .boolean) := G
  unfold f_M_end
  refine v_iload_n G 1 dX10_end_0 rfl ?_
  refine v_if_lt G (tgt := 12) dX10_end_1 (by decide) (fun c_1 => ?_) (fun c_1 => ?_)
  · refine v_iconst G (v := (0 : Int32)) dX10_end_12 (by decide) ?_
    exact v_zret G rfl rfl (hρ _) dX10_end_13
  · refine v_iload_n G 1 dX10_end_4 rfl ?_
    refine v_aload_n G 0 dX10_end_5 rfl ?_
    refine v_geti G (ci := 10) (T := TX10) (j := 34) inX10 rfl rfl rfl (by decide) w4_129 dX10_end_6 ?_
    refine v_icmp_le G (tgt := 14) dX10_end_9 (by decide) (fun c_2 => ?_) (fun c_2 => ?_)
    · refine v_aload_n G 0 dX10_end_14 rfl ?_
      refine v_iload_n G 1 dX10_end_15 rfl ?_
      refine v_puti G (ci := 10) (T := TX10) (j := 34) inX10 rfl rfl tyX10_ok nmX10 rfl (by decide) rfl rfl rfl w4_129 dX10_end_16 (fun S_3 eS_3 => ?_)
      refine v_iconst G (v := (1 : Int32)) dX10_end_19 (by decide) ?_
      exact v_zret G rfl rfl (hρ _) dX10_end_20
    · refine v_iconst G (v := (0 : Int32)) dX10_end_12 (by decide) ?_
      exact v_zret G rfl rfl (hρ _) dX10_end_13

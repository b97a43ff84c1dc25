/-! SensorNodeModel.four -/
theorem qyX10_four : yX10_four.cls ≠ "java/lang/invoke/MethodHandle" ∧ yX10_four.cls ≠ "java/lang/invoke/VarHandle" ∧ (parseMethodDescriptor yX10_four.desc).map (fun d => d.parameters.length) = some 1 := by decide +kernel
def f_M_four (S : St) (a1 : Int32) : St := (if (24 : Int32) < 0 then S else bnv (st_up S 22 (S 0 34).toNatClampNeg (vp_nar .byte ((a1 >>> ((24 : Int32) &&& 31)).toInt8.toInt32))) (fun S_2 => bnv (st_up S_2 0 34 ((S_2 0 34) + (1 : Int32))) (fun S_3 => (if (16 : Int32) < 0 then S_3 else bnv (st_up S_3 22 (S_3 0 34).toNatClampNeg (vp_nar .byte ((a1 >>> ((16 : Int32) &&& 31)).toInt8.toInt32))) (fun S_5 => bnv (st_up S_5 0 34 ((S_5 0 34) + (1 : Int32))) (fun S_6 => (if (8 : Int32) < 0 then S_6 else bnv (st_up S_6 22 (S_6 0 34).toNatClampNeg (vp_nar .byte ((a1 >>> ((8 : Int32) &&& 31)).toInt8.toInt32))) (fun S_8 => bnv (st_up S_8 0 34 ((S_8 0 34) + (1 : Int32))) (fun S_9 => (if (0 : Int32) < 0 then S_9 else bnv (st_up S_9 22 (S_9 0 34).toNatClampNeg (vp_nar .byte ((a1 >>> ((0 : Int32) &&& 31)).toInt8.toInt32))) (fun S_11 => bnv (st_up S_11 0 34 ((S_11 0 34) + (1 : Int32))) (fun S_12 => (if (-8 : Int32) < 0 then S_12 else S_12)))))))))))))
def k_M_four (S : St) (a1 : Int32) : Prop := (if (24 : Int32) < 0 then True else (vp_in (S 0 34) 8200 ∧ bnv (st_up S 22 (S 0 34).toNatClampNeg (vp_nar .byte ((a1 >>> ((24 : Int32) &&& 31)).toInt8.toInt32))) (fun S_2 => bnv (st_up S_2 0 34 ((S_2 0 34) + (1 : Int32))) (fun S_3 => (if (16 : Int32) < 0 then True else (vp_in (S_3 0 34) 8200 ∧ bnv (st_up S_3 22 (S_3 0 34).toNatClampNeg (vp_nar .byte ((a1 >>> ((16 : Int32) &&& 31)).toInt8.toInt32))) (fun S_5 => bnv (st_up S_5 0 34 ((S_5 0 34) + (1 : Int32))) (fun S_6 => (if (8 : Int32) < 0 then True else (vp_in (S_6 0 34) 8200 ∧ bnv (st_up S_6 22 (S_6 0 34).toNatClampNeg (vp_nar .byte ((a1 >>> ((8 : Int32) &&& 31)).toInt8.toInt32))) (fun S_8 => bnv (st_up S_8 0 34 ((S_8 0 34) + (1 : Int32))) (fun S_9 => (if (0 : Int32) < 0 then True else vp_in (S_9 0 34) 8200)))))))))))))
set_option maxHeartbeats 4000000 in
set_option maxRecDepth 100000 in
theorem c_M_four (l : Launch) {X : vD} (hJ : sh_J X) (hX : shp X = shM)  (S : St) (a1 : Int32) (hk : k_M_four S a1) : Con l X yX10_four cX10_four 3 none 0 [.ref (adr X 0), .int a1] S (none, f_M_four S a1) := by
  refine con_of (ρ := (fun S : St => ((none, S) : Option Value × St))) (K := f_M_four S a1) hJ hX (by decide) (Nat.le_of_ble_eq_true rfl) (lv := [(0, .ref (adr X 0)), (1, .int a1)]) rfl ?_
  intro p e s m below meth c G
  have G : vG p s m _ meth c X shM "SensorNodeModel" cX10_four 3 none := G
  unfold f_M_four
  unfold k_M_four at hk
  refine v_bipush G (v := (24 : Int32)) dX10_four_0 (by decide) ?_
  refine v_istore_n G [(2, .int (24 : Int32)), (0, .ref (adr X 0)), (1, .int a1)] dX10_four_2 (by decide) rfl ?_
  refine v_iload_n G 0 dX10_four_3 rfl ?_
  refine v_if_lt G (tgt := 36) dX10_four_4 (by decide) (fun h => absurd h (by decide)) (fun c_1 => ?_)
  have hk := ok_f c_1 hk
  refine v_aload_n G 1 dX10_four_7 rfl ?_
  refine v_getr G (ci := 10) (T := TX10) (j := 33) inX10 rfl rfl rfl (by decide) w4_128 dX10_four_8 ?_
  refine v_aload_n G 1 dX10_four_11 rfl ?_
  refine v_geti G (ci := 10) (T := TX10) (j := 34) inX10 rfl rfl rfl (by decide) w4_129 dX10_four_12 ?_
  refine v_iload_n G 2 dX10_four_15 rfl ?_
  refine v_iload_n G 0 dX10_four_16 rfl ?_
  refine v_ishr G dX10_four_17 ?_
  refine v_i2b G dX10_four_18 ?_
  refine v_bast G rfl hk.1 dX10_four_19 (fun S_2 eS_2 => ?_)
  have hk := hk.2
  have hk := ok_v eS_2 hk
  refine v_aload_n G 1 dX10_four_20 rfl ?_
  refine v_dup G dX10_four_21 rfl ?_
  refine v_geti G (ci := 10) (T := TX10) (j := 34) inX10 rfl rfl rfl (by decide) w4_129 dX10_four_22 ?_
  refine v_iconst G (v := (1 : Int32)) dX10_four_25 (by decide) ?_
  refine v_iadd G dX10_four_26 ?_
  refine v_puti G (ci := 10) (T := TX10) (j := 34) inX10 rfl rfl tyX10_ok nmX10 rfl (by decide) rfl rfl rfl w4_129 dX10_four_27 (fun S_3 eS_3 => ?_)
  have hk := ok_v eS_3 hk
  refine v_iinc G (v := (16 : Int32)) 0 [(2, .int (16 : Int32)), (0, .ref (adr X 0)), (1, .int a1)] dX10_four_30 rfl (by decide) (by decide) rfl ?_
  refine v_goto G (tgt := 3) dX10_four_33 (by decide) ?_
  refine v_iload_n G 0 dX10_four_3 rfl ?_
  refine v_if_lt G (tgt := 36) dX10_four_4 (by decide) (fun h => absurd h (by decide)) (fun c_4 => ?_)
  have hk := ok_f c_4 hk
  refine v_aload_n G 1 dX10_four_7 rfl ?_
  refine v_getr G (ci := 10) (T := TX10) (j := 33) inX10 rfl rfl rfl (by decide) w4_128 dX10_four_8 ?_
  refine v_aload_n G 1 dX10_four_11 rfl ?_
  refine v_geti G (ci := 10) (T := TX10) (j := 34) inX10 rfl rfl rfl (by decide) w4_129 dX10_four_12 ?_
  refine v_iload_n G 2 dX10_four_15 rfl ?_
  refine v_iload_n G 0 dX10_four_16 rfl ?_
  refine v_ishr G dX10_four_17 ?_
  refine v_i2b G dX10_four_18 ?_
  refine v_bast G rfl hk.1 dX10_four_19 (fun S_5 eS_5 => ?_)
  have hk := hk.2
  have hk := ok_v eS_5 hk
  refine v_aload_n G 1 dX10_four_20 rfl ?_
  refine v_dup G dX10_four_21 rfl ?_
  refine v_geti G (ci := 10) (T := TX10) (j := 34) inX10 rfl rfl rfl (by decide) w4_129 dX10_four_22 ?_
  refine v_iconst G (v := (1 : Int32)) dX10_four_25 (by decide) ?_
  refine v_iadd G dX10_four_26 ?_
  refine v_puti G (ci := 10) (T := TX10) (j := 34) inX10 rfl rfl tyX10_ok nmX10 rfl (by decide) rfl rfl rfl w4_129 dX10_four_27 (fun S_6 eS_6 => ?_)
  have hk := ok_v eS_6 hk
  refine v_iinc G (v := (8 : Int32)) 0 [(2, .int (8 : Int32)), (0, .ref (adr X 0)), (1, .int a1)] dX10_four_30 rfl (by decide) (by decide) rfl ?_
  refine v_goto G (tgt := 3) dX10_four_33 (by decide) ?_
  refine v_iload_n G 0 dX10_four_3 rfl ?_
  refine v_if_lt G (tgt := 36) dX10_four_4 (by decide) (fun h => absurd h (by decide)) (fun c_7 => ?_)
  have hk := ok_f c_7 hk
  refine v_aload_n G 1 dX10_four_7 rfl ?_
  refine v_getr G (ci := 10) (T := TX10) (j := 33) inX10 rfl rfl rfl (by decide) w4_128 dX10_four_8 ?_
  refine v_aload_n G 1 dX10_four_11 rfl ?_
  refine v_geti G (ci := 10) (T := TX10) (j := 34) inX10 rfl rfl rfl (by decide) w4_129 dX10_four_12 ?_
  refine v_iload_n G 2 dX10_four_15 rfl ?_
  refine v_iload_n G 0 dX10_four_16 rfl ?_
  refine v_ishr G dX10_four_17 ?_
  refine v_i2b G dX10_four_18 ?_
  refine v_bast G rfl hk.1 dX10_four_19 (fun S_8 eS_8 => ?_)
  have hk := hk.2
  have hk := ok_v eS_8 hk
  refine v_aload_n G 1 dX10_four_20 rfl ?_
  refine v_dup G dX10_four_21 rfl ?_
  refine v_geti G (ci := 10) (T := TX10) (j := 34) inX10 rfl rfl rfl (by decide) w4_129 dX10_four_22 ?_
  refine v_iconst G (v := (1 : Int32)) dX10_four_25 (by decide) ?_
  refine v_iadd G dX10_four_26 ?_
  refine v_puti G (ci := 10) (T := TX10) (j := 34) inX10 rfl rfl tyX10_ok nmX10 rfl (by decide) rfl rfl rfl w4_129 dX10_four_27 (fun S_9 eS_9 => ?_)
  have hk := ok_v eS_9 hk
  refine v_iinc G (v := (0 : Int32)) 0 [(2, .int (0 : Int32)), (0, .ref (adr X 0)), (1, .int a1)] dX10_four_30 rfl (by decide) (by decide) rfl ?_
  refine v_goto G (tgt := 3) dX10_four_33 (by decide) ?_
  refine v_iload_n G 0 dX10_four_3 rfl ?_
  refine v_if_lt G (tgt := 36) dX10_four_4 (by decide) (fun h => absurd h (by decide)) (fun c_10 => ?_)
  have hk := ok_f c_10 hk
  refine v_aload_n G 1 dX10_four_7 rfl ?_
  refine v_getr G (ci := 10) (T := TX10) (j := 33) inX10 rfl rfl rfl (by decide) w4_128 dX10_four_8 ?_
  refine v_aload_n G 1 dX10_four_11 rfl ?_
  refine v_geti G (ci := 10) (T := TX10) (j := 34) inX10 rfl rfl rfl (by decide) w4_129 dX10_four_12 ?_
  refine v_iload_n G 2 dX10_four_15 rfl ?_
  refine v_iload_n G 0 dX10_four_16 rfl ?_
  refine v_ishr G dX10_four_17 ?_
  refine v_i2b G dX10_four_18 ?_
  refine v_bast G rfl hk dX10_four_19 (fun S_11 eS_11 => ?_)
  refine v_aload_n G 1 dX10_four_20 rfl ?_
  refine v_dup G dX10_four_21 rfl ?_
  refine v_geti G (ci := 10) (T := TX10) (j := 34) inX10 rfl rfl rfl (by decide) w4_129 dX10_four_22 ?_
  refine v_iconst G (v := (1 : Int32)) dX10_four_25 (by decide) ?_
  refine v_iadd G dX10_four_26 ?_
  refine v_puti G (ci := 10) (T := TX10) (j := 34) inX10 rfl rfl tyX10_ok nmX10 rfl (by decide) rfl rfl rfl w4_129 dX10_four_27 (fun S_12 eS_12 => ?_)
  refine v_iinc G (v := (-8 : Int32)) 0 [(2, .int (-8 : Int32)), (0, .ref (adr X 0)), (1, .int a1)] dX10_four_30 rfl (by decide) (by decide) rfl ?_
  refine v_goto G (tgt := 3) dX10_four_33 (by decide) ?_
  refine v_iload_n G 0 dX10_four_3 rfl ?_
  refine v_if_lt G (tgt := 36) dX10_four_4 (by decide) (fun c_13 => ?_) (fun h => absurd h (by decide))
  exact v_vret G rfl rfl dX10_four_36
/-! SensorNodeModel.feed -/
theorem qyX10_feed : yX10_feed.cls ≠ "java/lang/invoke/MethodHandle" ∧ yX10_feed.cls ≠ "java/lang/invoke/VarHandle" ∧ (parseMethodDescriptor yX10_feed.desc).map (fun d => d.parameters.length) = some 5 := by decide +kernel
def f_M_feed (S : St) (a1 : Int32) (a2 : Int32) (a3 : Int32) (a4 : Int32) (a5 : Int32) : Int32 × St := (if (8200 : Int32) < ((S 0 34) + (20 : Int32)) then ((-1 : Int32), S) else (if (65536 : Int32) < ((S 0 35) + (20 : Int32)) then ((-1 : Int32), S) else bnv (f_M_four S a1) (fun S_3 => bnv (f_M_four S_3 a2) (fun S_4 => bnv (f_M_four S_4 a3) (fun S_5 => bnv (f_M_four S_5 a4) (fun S_6 => bnv (f_M_four S_6 a5) (fun S_7 => bnv (st_up S_7 0 35 ((S_7 0 35) + (20 : Int32))) (fun S_8 => (S_8 0 34, S_8)))))))))
def k_M_feed (S : St) (a1 : Int32) (a2 : Int32) (a3 : Int32) (a4 : Int32) (a5 : Int32) : Prop := (if (8200 : Int32) < ((S 0 34) + (20 : Int32)) then True else (if (65536 : Int32) < ((S 0 35) + (20 : Int32)) then True else (k_M_four S a1 ∧ bnv (f_M_four S a1) (fun S_3 => (k_M_four S_3 a2 ∧ bnv (f_M_four S_3 a2) (fun S_4 => (k_M_four S_4 a3 ∧ bnv (f_M_four S_4 a3) (fun S_5 => (k_M_four S_5 a4 ∧ bnv (f_M_four S_5 a4) (fun S_6 => k_M_four S_6 a5))))))))))
set_option maxHeartbeats 4000000 in
set_option maxRecDepth 100000 in
theorem c_M_feed (l : Launch) {X : vD} (hJ : sh_J X) (hX : shp X = shM)  (S : St) (a1 : Int32) (a2 : Int32) (a3 : Int32) (a4 : Int32) (a5 : Int32) (hk : k_M_feed S a1 a2 a3 a4 a5) : Con l X yX10_feed cX10_feed 6 (some .int) 1 [.ref (adr X 0), .int a1, .int a2, .int a3, .int a4, .int a5] S (some (.int (f_M_feed S a1 a2 a3 a4 a5).1), (f_M_feed S a1 a2 a3 a4 a5).2) := by
  refine con_of (ρ := (fun q : Int32 × St => ((some (.int q.1), q.2) : Option Value × St))) (K := f_M_feed S a1 a2 a3 a4 a5) hJ hX (by decide) (Nat.le_of_ble_eq_true rfl) (lv := [(0, .ref (adr X 0)), (1, .int a1), (2, .int a2), (3, .int a3), (4, .int a4), (5, .int a5)]) rfl ?_
  intro p e s m below meth c G
  have G : vG p s m _ meth c X shM "SensorNodeModel" cX10_feed 6 (some .int) := G
  unfold f_M_feed
  unfold k_M_feed at hk
  refine v_aload_n G 0 dX10_feed_0 rfl ?_
  refine v_geti G (ci := 10) (T := TX10) (j := 34) inX10 rfl rfl rfl (by decide) w4_129 dX10_feed_1 ?_
  refine v_bipush G (v := (20 : Int32)) dX10_feed_4 (by decide) ?_
  refine v_iadd G dX10_feed_6 ?_
  refine v_sipush G (v := (8200 : Int32)) dX10_feed_7 (by decide) ?_
  refine v_icmp_gt G (tgt := 25) dX10_feed_10 (by decide) (fun c_1 => ?_) (fun c_1 => ?_)
  · refine v_iconst G (v := (-1 : Int32)) dX10_feed_25 (by decide) ?_
    exact v_iret G rfl rfl dX10_feed_26
  · have hk := ok_f c_1 hk
    refine v_aload_n G 0 dX10_feed_13 rfl ?_
    refine v_geti G (ci := 10) (T := TX10) (j := 35) inX10 rfl rfl rfl (by decide) w4_130 dX10_feed_14 ?_
    refine v_bipush G (v := (20 : Int32)) dX10_feed_17 (by decide) ?_
    refine v_iadd G dX10_feed_19 ?_
    refine v_ldc G (v := (65536 : Int32)) dX10_feed_20 w4_209 ?_
    refine v_icmp_le G (tgt := 27) dX10_feed_22 (by decide) (fun c_2 => ?_) (fun c_2 => ?_)
    · have hk := ok_f c_2 hk
      refine v_aload_n G 0 dX10_feed_27 rfl ?_
      refine v_iload_n G 1 dX10_feed_28 rfl ?_
      refine v_callVv G (As := [.int a1]) (st := []) (c_M_four l hJ hX S a1 hk.1) (by decide) (by decide) (ci := 10) rfl rfl w4_210 w4_212 w0_28 w1_9 w4_213 qyX10_four rfl (Nat.le_of_ble_eq_true rfl) dX10_feed_29 ?_
      have hk := hk.2
      refine v_bnv (fun S_3 eS_3 => ?_)
      have hk := ok_v eS_3 hk
      refine v_aload_n G 0 dX10_feed_32 rfl ?_
      refine v_iload_n G 2 dX10_feed_33 rfl ?_
      refine v_callVv G (As := [.int a2]) (st := []) (c_M_four l hJ hX S_3 a2 hk.1) (by decide) (by decide) (ci := 10) rfl rfl w4_210 w4_212 w0_28 w1_9 w4_213 qyX10_four rfl (Nat.le_of_ble_eq_true rfl) dX10_feed_34 ?_
      have hk := hk.2
      refine v_bnv (fun S_4 eS_4 => ?_)
      have hk := ok_v eS_4 hk
      refine v_aload_n G 0 dX10_feed_37 rfl ?_
      refine v_iload_n G 3 dX10_feed_38 rfl ?_
      refine v_callVv G (As := [.int a3]) (st := []) (c_M_four l hJ hX S_4 a3 hk.1) (by decide) (by decide) (ci := 10) rfl rfl w4_210 w4_212 w0_28 w1_9 w4_213 qyX10_four rfl (Nat.le_of_ble_eq_true rfl) dX10_feed_39 ?_
      have hk := hk.2
      refine v_bnv (fun S_5 eS_5 => ?_)
      have hk := ok_v eS_5 hk
      refine v_aload_n G 0 dX10_feed_42 rfl ?_
      refine v_iload G 4 dX10_feed_43 rfl ?_
      refine v_callVv G (As := [.int a4]) (st := []) (c_M_four l hJ hX S_5 a4 hk.1) (by decide) (by decide) (ci := 10) rfl rfl w4_210 w4_212 w0_28 w1_9 w4_213 qyX10_four rfl (Nat.le_of_ble_eq_true rfl) dX10_feed_45 ?_
      have hk := hk.2
      refine v_bnv (fun S_6 eS_6 => ?_)
      have hk := ok_v eS_6 hk
      refine v_aload_n G 0 dX10_feed_48 rfl ?_
      refine v_iload G 5 dX10_feed_49 rfl ?_
      refine v_callVv G (As := [.int a5]) (st := []) (c_M_four l hJ hX S_6 a5 hk) (by decide) (by decide) (ci := 10) rfl rfl w4_210 w4_212 w0_28 w1_9 w4_213 qyX10_four rfl (Nat.le_of_ble_eq_true rfl) dX10_feed_51 ?_
      refine v_bnv (fun S_7 eS_7 => ?_)
      refine v_aload_n G 0 dX10_feed_54 rfl ?_
      refine v_dup G dX10_feed_55 rfl ?_
      refine v_geti G (ci := 10) (T := TX10) (j := 35) inX10 rfl rfl rfl (by decide) w4_130 dX10_feed_56 ?_
      refine v_bipush G (v := (20 : Int32)) dX10_feed_59 (by decide) ?_
      refine v_iadd G dX10_feed_61 ?_
      refine v_puti G (ci := 10) (T := TX10) (j := 35) inX10 rfl rfl tyX10_ok nmX10 rfl (by decide) rfl rfl rfl w4_130 dX10_feed_62 (fun S_8 eS_8 => ?_)
      refine v_aload_n G 0 dX10_feed_65 rfl ?_
      refine v_geti G (ci := 10) (T := TX10) (j := 34) inX10 rfl rfl rfl (by decide) w4_129 dX10_feed_66 ?_
      exact v_iret G rfl rfl dX10_feed_69
    · refine v_iconst G (v := (-1 : Int32)) dX10_feed_25 (by decide) ?_
      exact v_iret G rfl rfl dX10_feed_26
/-! SensorNodeModel.end -/
theorem qyX10_end : yX10_end.cls ≠ "java/lang/invoke/MethodHandle" ∧ yX10_end.cls ≠ "java/lang/invoke/VarHandle" ∧ (parseMethodDescriptor yX10_end.desc).map (fun d => d.parameters.length) = some 1 := by decide +kernel
def f_M_end (S : St) (a1 : Int32) : Int32 × St := (if a1 < 0 then ((0 : Int32), S) else (if (S 0 34) < a1 then ((0 : Int32), S) else bnv (st_up S 0 34 a1) (fun S_3 => ((1 : Int32), S_3))))
set_option maxHeartbeats 4000000 in
set_option maxRecDepth 100000 in
theorem c_M_end (l : Launch) {X : vD} (hJ : sh_J X) (hX : shp X = shM)  (S : St) (a1 : Int32)  : Con l X yX10_end cX10_end 2 (some .boolean) 0 [.ref (adr X 0), .int a1] S (some (.int (f_M_end S a1).1), (f_M_end S a1).2) := by
  refine con_of (ρ := (fun q : Int32 × St => ((some (.int q.1), q.2) : Option Value × St))) (K := f_M_end S a1) hJ hX (by decide) (Nat.le_of_ble_eq_true rfl) (lv := [(0, .ref (adr X 0)), (1, .int a1)]) rfl ?_
  intro p e s m below meth c G
  have G : vG p s m _ meth c X shM "SensorNodeModel" cX10_end 2 (some .boolean) := G
  unfold f_M_end
  refine v_iload_n G 1 dX10_end_0 rfl ?_
  refine v_if_lt G (tgt := 12) dX10_end_1 (by decide) (fun c_1 => ?_) (fun c_1 => ?_)
  · refine v_iconst G (v := (0 : Int32)) dX10_end_12 (by decide) ?_
    exact v_zret G rfl rfl rfl dX10_end_13
  · refine v_iload_n G 1 dX10_end_4 rfl ?_
    refine v_aload_n G 0 dX10_end_5 rfl ?_
    refine v_geti G (ci := 10) (T := TX10) (j := 34) inX10 rfl rfl rfl (by decide) w4_129 dX10_end_6 ?_
    refine v_icmp_le G (tgt := 14) dX10_end_9 (by decide) (fun c_2 => ?_) (fun c_2 => ?_)
    · refine v_aload_n G 0 dX10_end_14 rfl ?_
      refine v_iload_n G 1 dX10_end_15 rfl ?_
      refine v_puti G (ci := 10) (T := TX10) (j := 34) inX10 rfl rfl tyX10_ok nmX10 rfl (by decide) rfl rfl rfl w4_129 dX10_end_16 (fun S_3 eS_3 => ?_)
      refine v_iconst G (v := (1 : Int32)) dX10_end_19 (by decide) ?_
      exact v_zret G rfl rfl rfl dX10_end_20
    · refine v_iconst G (v := (0 : Int32)) dX10_end_12 (by decide) ?_
      exact v_zret G rfl rfl rfl dX10_end_13
/-! SensorNodeModel.install -/
theorem qyX10_install : yX10_install.cls ≠ "java/lang/invoke/MethodHandle" ∧ yX10_install.cls ≠ "java/lang/invoke/VarHandle" ∧ (parseMethodDescriptor yX10_install.desc).map (fun d => d.parameters.length) = some 5 := by decide +kernel
def f_M_install_293 : Nat → St → Int32 → Int32 → Int32 → Int32 → Int32 → Int32 → Int32 → Int32 → Int32 × St
  | 0, S, _, _, _, _, _, _, _, _ => (0, S)
  | fn + 1, S, v1, v2, v3, v4, v5, v6, v7, v8 => (if v8 < ((S 0 4) / (4 : Int32)) then bnv (st_up S 1 ((S 0 10) + v8).toNatClampNeg (S 2 v8.toNatClampNeg)) (fun S_1314 => (f_M_install_293 fn S_1314 v1 v2 v3 v4 v5 v6 v7 (v8 + (1 : Int32)))) else bnv (st_up S 1 (35 : Int32).toNatClampNeg v5) (fun S_1295 => bnv (st_up S_1295 4 8 1) (fun S_1296 => bnv (st_up S_1296 4 9 (S_1296 0 10)) (fun S_1297 => bnv (st_up S_1297 4 6 (S_1297 0 3)) (fun S_1298 => bnv (st_up S_1298 4 7 (S_1298 0 4)) (fun S_1299 => bnv (st_up S_1299 4 11 (0 : Int32)) (fun S_1300 => bnv (st_up S_1300 7 11 (0 : Int32)) (fun S_1301 => bnv (st_up S_1301 11 0 (0 : Int32)) (fun S_1302 => bnv (st_up S_1302 16 0 (0 : Int32)) (fun S_1303 => bnv (st_up S_1303 0 20 (0 : Int32)) (fun S_1304 => bnv (st_up S_1304 0 21 (0 : Int32)) (fun S_1305 => bnv (st_up S_1305 0 22 (0 : Int32)) (fun S_1306 => bnv (st_up S_1306 0 25 (0 : Int32)) (fun S_1307 => bnv (st_up S_1307 0 26 (0 : Int32)) (fun S_1308 => bnv (st_up S_1308 0 27 (0 : Int32)) (fun S_1309 => bnv (st_up S_1309 0 28 (0 : Int32)) (fun S_1310 => bnv (st_up S_1310 0 29 (0 : Int32)) (fun S_1311 => bnv (st_up S_1311 0 30 (0 : Int32)) (fun S_1312 => bnv (st_up S_1312 0 31 (0 : Int32)) (fun S_1313 => ((0 : Int32), S_1313)))))))))))))))))))))
def k_M_install_293 : Nat → St → Int32 → Int32 → Int32 → Int32 → Int32 → Int32 → Int32 → Int32 → Prop
  | 0, _, _, _, _, _, _, _, _, _ => True
  | fn + 1, S, v1, v2, v3, v4, v5, v6, v7, v8 => (if v8 < ((S 0 4) / (4 : Int32)) then (vp_in v8 2048 ∧ (vp_in ((S 0 10) + v8) 6219 ∧ bnv (st_up S 1 ((S 0 10) + v8).toNatClampNeg (S 2 v8.toNatClampNeg)) (fun S_1314 => (k_M_install_293 fn S_1314 v1 v2 v3 v4 v5 v6 v7 (v8 + (1 : Int32)))))) else True)
set_option maxHeartbeats 4000000 in
set_option maxRecDepth 100000 in
theorem v_M_install_293 {p : Program} {l : Launch} {e : Env} {s : State} {m : MethodId} {args : Array Value} {below : List Frame} {meth : Method} {c : Code} {X : vD} (hJ : sh_J X) (hX : shp X = shM) (G : vG p s m args meth c X shM "SensorNodeModel" cX10_install 9 (some .int))  : ∀ (fuel : Nat) (S : St) (v1 v2 v3 v4 v5 v6 v7 v8 : Int32) , (2147483648 - v8.toInt).toNat < fuel → k_M_install_293 fuel S v1 v2 v3 v4 v5 v6 v7 v8 → V p l e 0 s m args below meth c X 9 (fun q : Int32 × St => ((some (.int q.1), q.2) : Option Value × St)) S 293 [(0, .ref (adr X 0)), (1, .int v1), (2, .int v2), (3, .int v3), (4, .int v4), (5, .int v5), (6, .int v6), (7, .int v7), (8, .int v8)] [] (f_M_install_293 fuel S v1 v2 v3 v4 v5 v6 v7 v8) := by
  intro fuel
  induction fuel with
  | zero =>
    intro S v1 v2 v3 v4 v5 v6 v7 v8 hm hk
    exact absurd hm (Nat.not_lt_zero _)
  | succ fn ih =>
    intro S v1 v2 v3 v4 v5 v6 v7 v8 hm hk
    rw [f_M_install_293]
    rw [k_M_install_293] at hk
    refine v_iload G 8 dX10_install_293 rfl ?_
    refine v_aload_n G 0 dX10_install_295 rfl ?_
    refine v_geti G (ci := 10) (T := TX10) (j := 4) inX10 rfl rfl rfl (by decide) w4_99 dX10_install_296 ?_
    refine v_iconst G (v := (4 : Int32)) dX10_install_299 (by decide) ?_
    refine v_idiv G dX10_install_300 (by decide) ?_
    refine v_icmp_ge G (tgt := 329) dX10_install_301 (by decide) (fun c_1294 => ?_) (fun c_1294 => ?_)
    · refine v_aload_n G 0 dX10_install_329 rfl ?_
      refine v_getr G (ci := 10) (T := TX10) (j := 11) inX10 rfl rfl rfl (by decide) w4_106 dX10_install_330 ?_
      refine v_bipush G (v := (35 : Int32)) dX10_install_333 (by decide) ?_
      refine v_iload G 5 dX10_install_335 rfl ?_
      refine v_iast G rfl (by unfold vp_in; decide) dX10_install_337 (fun S_1295 eS_1295 => ?_)
      refine v_aload_n G 0 dX10_install_338 rfl ?_
      refine v_getr G (ci := 10) (T := TX10) (j := 14) inX10 rfl rfl rfl (by decide) w4_109 dX10_install_339 ?_
      refine v_aload_n G 0 dX10_install_342 rfl ?_
      refine v_getr G (ci := 10) (T := TX10) (j := 11) inX10 rfl rfl rfl (by decide) w4_106 dX10_install_343 ?_
      refine v_putq G (ci := 9) (T := TX9) (j := 8) inX9 rfl rfl tyX9_ok nmX9 rfl (by decide) rfl (fun _ => rfl) (fun _ => rfl) w4_5 dX10_install_346 (fun S_1296 eS_1296 => ?_)
      refine v_aload_n G 0 dX10_install_349 rfl ?_
      refine v_getr G (ci := 10) (T := TX10) (j := 14) inX10 rfl rfl rfl (by decide) w4_109 dX10_install_350 ?_
      refine v_aload_n G 0 dX10_install_353 rfl ?_
      refine v_geti G (ci := 10) (T := TX10) (j := 10) inX10 rfl rfl rfl (by decide) w4_105 dX10_install_354 ?_
      refine v_puti G (ci := 9) (T := TX9) (j := 9) inX9 rfl rfl tyX9_ok nmX9 rfl (by decide) rfl rfl rfl w4_7 dX10_install_357 (fun S_1297 eS_1297 => ?_)
      refine v_aload_n G 0 dX10_install_360 rfl ?_
      refine v_getr G (ci := 10) (T := TX10) (j := 14) inX10 rfl rfl rfl (by decide) w4_109 dX10_install_361 ?_
      refine v_aload_n G 0 dX10_install_364 rfl ?_
      refine v_geti G (ci := 10) (T := TX10) (j := 3) inX10 rfl rfl rfl (by decide) w4_98 dX10_install_365 ?_
      refine v_puti G (ci := 9) (T := TX9) (j := 6) inX9 rfl rfl tyX9_ok nmX9 rfl (by decide) rfl rfl rfl w4_1 dX10_install_368 (fun S_1298 eS_1298 => ?_)
      refine v_aload_n G 0 dX10_install_371 rfl ?_
      refine v_getr G (ci := 10) (T := TX10) (j := 14) inX10 rfl rfl rfl (by decide) w4_109 dX10_install_372 ?_
      refine v_aload_n G 0 dX10_install_375 rfl ?_
      refine v_geti G (ci := 10) (T := TX10) (j := 4) inX10 rfl rfl rfl (by decide) w4_99 dX10_install_376 ?_
      refine v_puti G (ci := 9) (T := TX9) (j := 7) inX9 rfl rfl tyX9_ok nmX9 rfl (by decide) rfl rfl rfl w4_3 dX10_install_379 (fun S_1299 eS_1299 => ?_)
      refine v_aload_n G 0 dX10_install_382 rfl ?_
      refine v_getr G (ci := 10) (T := TX10) (j := 14) inX10 rfl rfl rfl (by decide) w4_109 dX10_install_383 ?_
      refine v_iconst G (v := (0 : Int32)) dX10_install_386 (by decide) ?_
      refine v_puti G (ci := 9) (T := TX9) (j := 11) inX9 rfl rfl tyX9_ok nmX9 rfl (by decide) rfl rfl rfl w4_9 dX10_install_387 (fun S_1300 eS_1300 => ?_)
      refine v_aload_n G 0 dX10_install_390 rfl ?_
      refine v_getr G (ci := 10) (T := TX10) (j := 15) inX10 rfl rfl rfl (by decide) w4_110 dX10_install_391 ?_
      refine v_iconst G (v := (0 : Int32)) dX10_install_394 (by decide) ?_
      refine v_puti G (ci := 9) (T := TX9) (j := 11) inX9 rfl rfl tyX9_ok nmX9 rfl (by decide) rfl rfl rfl w4_9 dX10_install_395 (fun S_1301 eS_1301 => ?_)
      refine v_aload_n G 0 dX10_install_398 rfl ?_
      refine v_getr G (ci := 10) (T := TX10) (j := 18) inX10 rfl rfl rfl (by decide) w4_113 dX10_install_399 ?_
      refine v_iconst G (v := (0 : Int32)) dX10_install_402 (by decide) ?_
      refine v_puti G (ci := 8) (T := TX8) (j := 0) inX8 rfl rfl tyX8_ok nmX8 rfl (by decide) rfl rfl rfl w4_70 dX10_install_403 (fun S_1302 eS_1302 => ?_)
      refine v_aload_n G 0 dX10_install_406 rfl ?_
      refine v_getr G (ci := 10) (T := TX10) (j := 19) inX10 rfl rfl rfl (by decide) w4_114 dX10_install_407 ?_
      refine v_iconst G (v := (0 : Int32)) dX10_install_410 (by decide) ?_
      refine v_puti G (ci := 8) (T := TX8) (j := 0) inX8 rfl rfl tyX8_ok nmX8 rfl (by decide) rfl rfl rfl w4_70 dX10_install_411 (fun S_1303 eS_1303 => ?_)
      refine v_aload_n G 0 dX10_install_414 rfl ?_
      refine v_iconst G (v := (0 : Int32)) dX10_install_415 (by decide) ?_
      refine v_puti G (ci := 10) (T := TX10) (j := 20) inX10 rfl rfl tyX10_ok nmX10 rfl (by decide) rfl rfl rfl w4_115 dX10_install_416 (fun S_1304 eS_1304 => ?_)
      refine v_aload_n G 0 dX10_install_419 rfl ?_
      refine v_iconst G (v := (0 : Int32)) dX10_install_420 (by decide) ?_
      refine v_puti G (ci := 10) (T := TX10) (j := 21) inX10 rfl rfl tyX10_ok nmX10 rfl (by decide) rfl rfl rfl w4_116 dX10_install_421 (fun S_1305 eS_1305 => ?_)
      refine v_aload_n G 0 dX10_install_424 rfl ?_
      refine v_iconst G (v := (0 : Int32)) dX10_install_425 (by decide) ?_
      refine v_puti G (ci := 10) (T := TX10) (j := 22) inX10 rfl rfl tyX10_ok nmX10 rfl (by decide) rfl rfl rfl w4_117 dX10_install_426 (fun S_1306 eS_1306 => ?_)
      refine v_aload_n G 0 dX10_install_429 rfl ?_
      refine v_iconst G (v := (0 : Int32)) dX10_install_430 (by decide) ?_
      refine v_puti G (ci := 10) (T := TX10) (j := 25) inX10 rfl rfl tyX10_ok nmX10 rfl (by decide) rfl rfl rfl w4_120 dX10_install_431 (fun S_1307 eS_1307 => ?_)
      refine v_aload_n G 0 dX10_install_434 rfl ?_
      refine v_iconst G (v := (0 : Int32)) dX10_install_435 (by decide) ?_
      refine v_puti G (ci := 10) (T := TX10) (j := 26) inX10 rfl rfl tyX10_ok nmX10 rfl (by decide) rfl rfl rfl w4_121 dX10_install_436 (fun S_1308 eS_1308 => ?_)
      refine v_aload_n G 0 dX10_install_439 rfl ?_
      refine v_iconst G (v := (0 : Int32)) dX10_install_440 (by decide) ?_
      refine v_puti G (ci := 10) (T := TX10) (j := 27) inX10 rfl rfl tyX10_ok nmX10 rfl (by decide) rfl rfl rfl w4_122 dX10_install_441 (fun S_1309 eS_1309 => ?_)
      refine v_aload_n G 0 dX10_install_444 rfl ?_
      refine v_iconst G (v := (0 : Int32)) dX10_install_445 (by decide) ?_
      refine v_puti G (ci := 10) (T := TX10) (j := 28) inX10 rfl rfl tyX10_ok nmX10 rfl (by decide) rfl rfl rfl w4_123 dX10_install_446 (fun S_1310 eS_1310 => ?_)
      refine v_aload_n G 0 dX10_install_449 rfl ?_
      refine v_iconst G (v := (0 : Int32)) dX10_install_450 (by decide) ?_
      refine v_puti G (ci := 10) (T := TX10) (j := 29) inX10 rfl rfl tyX10_ok nmX10 rfl (by decide) rfl rfl rfl w4_124 dX10_install_451 (fun S_1311 eS_1311 => ?_)
      refine v_aload_n G 0 dX10_install_454 rfl ?_
      refine v_iconst G (v := (0 : Int32)) dX10_install_455 (by decide) ?_
      refine v_puti G (ci := 10) (T := TX10) (j := 30) inX10 rfl rfl tyX10_ok nmX10 rfl (by decide) rfl rfl rfl w4_125 dX10_install_456 (fun S_1312 eS_1312 => ?_)
      refine v_aload_n G 0 dX10_install_459 rfl ?_
      refine v_iconst G (v := (0 : Int32)) dX10_install_460 (by decide) ?_
      refine v_puti G (ci := 10) (T := TX10) (j := 31) inX10 rfl rfl tyX10_ok nmX10 rfl (by decide) rfl rfl rfl w4_126 dX10_install_461 (fun S_1313 eS_1313 => ?_)
      refine v_iconst G (v := (0 : Int32)) dX10_install_464 (by decide) ?_
      exact v_iret G rfl rfl dX10_install_465
    · have hk := ok_t c_1294 hk
      refine v_aload_n G 0 dX10_install_304 rfl ?_
      refine v_getr G (ci := 10) (T := TX10) (j := 11) inX10 rfl rfl rfl (by decide) w4_106 dX10_install_305 ?_
      refine v_aload_n G 0 dX10_install_308 rfl ?_
      refine v_geti G (ci := 10) (T := TX10) (j := 10) inX10 rfl rfl rfl (by decide) w4_105 dX10_install_309 ?_
      refine v_iload G 8 dX10_install_312 rfl ?_
      refine v_iadd G dX10_install_314 ?_
      refine v_aload_n G 0 dX10_install_315 rfl ?_
      refine v_getr G (ci := 10) (T := TX10) (j := 12) inX10 rfl rfl rfl (by decide) w4_107 dX10_install_316 ?_
      refine v_iload G 8 dX10_install_319 rfl ?_
      refine v_iald G rfl hk.1 dX10_install_321 ?_
      have hk := hk.2
      refine v_iast G rfl hk.1 dX10_install_322 (fun S_1314 eS_1314 => ?_)
      have hk := hk.2
      have hk := ok_v eS_1314 hk
      refine v_iinc G (v := v8 + (1 : Int32)) 8 [(8, .int (v8 + (1 : Int32))), (0, .ref (adr X 0)), (1, .int v1), (2, .int v2), (3, .int v3), (4, .int v4), (5, .int v5), (6, .int v6), (7, .int v7)] dX10_install_323 rfl rfl (by decide) rfl ?_
      refine v_goto G (tgt := 293) dX10_install_326 (by decide) ?_
      exact v_sub [1, 2, 3, 4, 5, 6, 7, 8, 0] rfl (ih S_1314 v1 v2 v3 v4 v5 v6 v7 (v8 + (1 : Int32)) (lp_m31 (by assumption) hm) hk)
def f_M_install_246 : Nat → St → Int32 → Int32 → Int32 → Int32 → Int32 → Int32 → Int32 → Int32 → Int32 × St
  | 0, S, _, _, _, _, _, _, _, _ => (0, S)
  | fn + 1, S, v1, v2, v3, v4, v5, v6, v7, v8 => (if v8 < v6 then bnv (st_up S 2 (v8 / (4 : Int32)).toNatClampNeg ((S 2 (v8 / (4 : Int32)).toNatClampNeg) ||| (((S 22 v8.toNatClampNeg) &&& (255 : Int32)) <<< (((8 : Int32) * (v8 - v8 / (4 : Int32) * (4 : Int32))) &&& 31)))) (fun S_1248 => (f_M_install_246 fn S_1248 v1 v2 v3 v4 v5 v6 v7 (v8 + (1 : Int32)))) else (f_M_install_293 fu31 S v1 v2 v3 v4 v5 v6 v7 (0 : Int32)))
def k_M_install_246 : Nat → St → Int32 → Int32 → Int32 → Int32 → Int32 → Int32 → Int32 → Int32 → Prop
  | 0, _, _, _, _, _, _, _, _, _ => True
  | fn + 1, S, v1, v2, v3, v4, v5, v6, v7, v8 => (if v8 < v6 then (vp_in (v8 / (4 : Int32)) 2048 ∧ (vp_in v8 8200 ∧ (vp_in (v8 / (4 : Int32)) 2048 ∧ bnv (st_up S 2 (v8 / (4 : Int32)).toNatClampNeg ((S 2 (v8 / (4 : Int32)).toNatClampNeg) ||| (((S 22 v8.toNatClampNeg) &&& (255 : Int32)) <<< (((8 : Int32) * (v8 - v8 / (4 : Int32) * (4 : Int32))) &&& 31)))) (fun S_1248 => (k_M_install_246 fn S_1248 v1 v2 v3 v4 v5 v6 v7 (v8 + (1 : Int32))))))) else (k_M_install_293 fu31 S v1 v2 v3 v4 v5 v6 v7 (0 : Int32)))
set_option maxHeartbeats 4000000 in
set_option maxRecDepth 100000 in
theorem v_M_install_246 {p : Program} {l : Launch} {e : Env} {s : State} {m : MethodId} {args : Array Value} {below : List Frame} {meth : Method} {c : Code} {X : vD} (hJ : sh_J X) (hX : shp X = shM) (G : vG p s m args meth c X shM "SensorNodeModel" cX10_install 9 (some .int))  : ∀ (fuel : Nat) (S : St) (v1 v2 v3 v4 v5 v6 v7 v8 : Int32) , ((v6).toInt - v8.toInt).toNat < fuel → k_M_install_246 fuel S v1 v2 v3 v4 v5 v6 v7 v8 → V p l e 0 s m args below meth c X 9 (fun q : Int32 × St => ((some (.int q.1), q.2) : Option Value × St)) S 246 [(0, .ref (adr X 0)), (1, .int v1), (2, .int v2), (3, .int v3), (4, .int v4), (5, .int v5), (6, .int v6), (7, .int v7), (8, .int v8)] [] (f_M_install_246 fuel S v1 v2 v3 v4 v5 v6 v7 v8) := by
  intro fuel
  induction fuel with
  | zero =>
    intro S v1 v2 v3 v4 v5 v6 v7 v8 hm hk
    exact absurd hm (Nat.not_lt_zero _)
  | succ fn ih =>
    intro S v1 v2 v3 v4 v5 v6 v7 v8 hm hk
    rw [f_M_install_246]
    rw [k_M_install_246] at hk
    refine v_iload G 8 dX10_install_246 rfl ?_
    refine v_iload G 6 dX10_install_248 rfl ?_
    refine v_icmp_ge G (tgt := 290) dX10_install_250 (by decide) (fun c_1247 => ?_) (fun c_1247 => ?_)
    · have hk := ok_f c_1247 hk
      refine v_iconst G (v := (0 : Int32)) dX10_install_290 (by decide) ?_
      refine v_istore G [(8, .int (0 : Int32)), (0, .ref (adr X 0)), (1, .int v1), (2, .int v2), (3, .int v3), (4, .int v4), (5, .int v5), (6, .int v6), (7, .int v7)] dX10_install_291 (by decide) rfl ?_
      exact v_sub [1, 2, 3, 4, 5, 6, 7, 8, 0] rfl (v_M_install_293 hJ hX G fu31 S v1 v2 v3 v4 v5 v6 v7 (0 : Int32) lp_31 hk)
    · have hk := ok_t c_1247 hk
      refine v_aload_n G 0 dX10_install_253 rfl ?_
      refine v_getr G (ci := 10) (T := TX10) (j := 12) inX10 rfl rfl rfl (by decide) w4_107 dX10_install_254 ?_
      refine v_iload G 8 dX10_install_257 rfl ?_
      refine v_iconst G (v := (4 : Int32)) dX10_install_259 (by decide) ?_
      refine v_idiv G dX10_install_260 (by decide) ?_
      refine v_dup2 G dX10_install_261 rfl rfl ?_
      refine v_iald G rfl hk.1 dX10_install_262 ?_
      have hk := hk.2
      refine v_aload_n G 0 dX10_install_263 rfl ?_
      refine v_getr G (ci := 10) (T := TX10) (j := 33) inX10 rfl rfl rfl (by decide) w4_128 dX10_install_264 ?_
      refine v_iload G 8 dX10_install_267 rfl ?_
      refine v_bald G rfl hk.1 dX10_install_269 ?_
      have hk := hk.2
      refine v_sipush G (v := (255 : Int32)) dX10_install_270 (by decide) ?_
      refine v_iand G dX10_install_273 ?_
      refine v_bipush G (v := (8 : Int32)) dX10_install_274 (by decide) ?_
      refine v_iload G 8 dX10_install_276 rfl ?_
      refine v_iconst G (v := (4 : Int32)) dX10_install_278 (by decide) ?_
      refine v_irem G dX10_install_279 (by decide) ?_
      refine v_imul G dX10_install_280 ?_
      refine v_ishl G dX10_install_281 ?_
      refine v_ior G dX10_install_282 ?_
      refine v_iast G rfl hk.1 dX10_install_283 (fun S_1248 eS_1248 => ?_)
      have hk := hk.2
      have hk := ok_v eS_1248 hk
      refine v_iinc G (v := v8 + (1 : Int32)) 8 [(8, .int (v8 + (1 : Int32))), (0, .ref (adr X 0)), (1, .int v1), (2, .int v2), (3, .int v3), (4, .int v4), (5, .int v5), (6, .int v6), (7, .int v7)] dX10_install_284 rfl rfl (by decide) rfl ?_
      refine v_goto G (tgt := 246) dX10_install_287 (by decide) ?_
      exact v_sub [1, 2, 3, 4, 5, 6, 7, 8, 0] rfl (ih S_1248 v1 v2 v3 v4 v5 v6 v7 (v8 + (1 : Int32)) (lp_m (by assumption) hm) hk)
def f_M_install_221 : Nat → St → Int32 → Int32 → Int32 → Int32 → Int32 → Int32 → Int32 → Int32 → Int32 × St
  | 0, S, _, _, _, _, _, _, _, _ => (0, S)
  | fn + 1, S, v1, v2, v3, v4, v5, v6, v7, v8 => (if v8 < (2048 : Int32) then bnv (st_up S 2 v8.toNatClampNeg (0 : Int32)) (fun S_1223 => (f_M_install_221 fn S_1223 v1 v2 v3 v4 v5 v6 v7 (v8 + (1 : Int32)))) else (f_M_install_246 (((v6).toInt - (0 : Int32).toInt).toNat + 1) S v1 v2 v3 v4 v5 v6 v7 (0 : Int32)))
def k_M_install_221 : Nat → St → Int32 → Int32 → Int32 → Int32 → Int32 → Int32 → Int32 → Int32 → Prop
  | 0, _, _, _, _, _, _, _, _, _ => True
  | fn + 1, S, v1, v2, v3, v4, v5, v6, v7, v8 => (if v8 < (2048 : Int32) then bnv (st_up S 2 v8.toNatClampNeg (0 : Int32)) (fun S_1223 => (k_M_install_221 fn S_1223 v1 v2 v3 v4 v5 v6 v7 (v8 + (1 : Int32)))) else (k_M_install_246 (((v6).toInt - (0 : Int32).toInt).toNat + 1) S v1 v2 v3 v4 v5 v6 v7 (0 : Int32)))
set_option maxHeartbeats 4000000 in
set_option maxRecDepth 100000 in
theorem v_M_install_221 {p : Program} {l : Launch} {e : Env} {s : State} {m : MethodId} {args : Array Value} {below : List Frame} {meth : Method} {c : Code} {X : vD} (hJ : sh_J X) (hX : shp X = shM) (G : vG p s m args meth c X shM "SensorNodeModel" cX10_install 9 (some .int))  : ∀ (fuel : Nat) (S : St) (v1 v2 v3 v4 v5 v6 v7 v8 : Int32) , (((2048 : Int32)).toInt - v8.toInt).toNat < fuel → ¬ v8 < 0 → k_M_install_221 fuel S v1 v2 v3 v4 v5 v6 v7 v8 → V p l e 0 s m args below meth c X 9 (fun q : Int32 × St => ((some (.int q.1), q.2) : Option Value × St)) S 221 [(0, .ref (adr X 0)), (1, .int v1), (2, .int v2), (3, .int v3), (4, .int v4), (5, .int v5), (6, .int v6), (7, .int v7), (8, .int v8)] [] (f_M_install_221 fuel S v1 v2 v3 v4 v5 v6 v7 v8) := by
  intro fuel
  induction fuel with
  | zero =>
    intro S v1 v2 v3 v4 v5 v6 v7 v8 hm hi hk
    exact absurd hm (Nat.not_lt_zero _)
  | succ fn ih =>
    intro S v1 v2 v3 v4 v5 v6 v7 v8 hm hi hk
    rw [f_M_install_221]
    rw [k_M_install_221] at hk
    refine v_iload G 8 dX10_install_221 rfl ?_
    refine v_sipush G (v := (2048 : Int32)) dX10_install_223 (by decide) ?_
    refine v_icmp_ge G (tgt := 243) dX10_install_226 (by decide) (fun c_1222 => ?_) (fun c_1222 => ?_)
    · have hk := ok_f c_1222 hk
      refine v_iconst G (v := (0 : Int32)) dX10_install_243 (by decide) ?_
      refine v_istore G [(8, .int (0 : Int32)), (0, .ref (adr X 0)), (1, .int v1), (2, .int v2), (3, .int v3), (4, .int v4), (5, .int v5), (6, .int v6), (7, .int v7)] dX10_install_244 (by decide) rfl ?_
      exact v_sub [1, 2, 3, 4, 5, 6, 7, 8, 0] rfl (v_M_install_246 hJ hX G (((v6).toInt - (0 : Int32).toInt).toNat + 1) S v1 v2 v3 v4 v5 v6 v7 (0 : Int32) (Nat.lt_succ_self _) hk)
    · have hk := ok_t c_1222 hk
      refine v_aload_n G 0 dX10_install_229 rfl ?_
      refine v_getr G (ci := 10) (T := TX10) (j := 12) inX10 rfl rfl rfl (by decide) w4_107 dX10_install_230 ?_
      refine v_iload G 8 dX10_install_233 rfl ?_
      refine v_iconst G (v := (0 : Int32)) dX10_install_235 (by decide) ?_
      refine v_iast G rfl (vi_br hi (by assumption) (by decide)) dX10_install_236 (fun S_1223 eS_1223 => ?_)
      have hk := ok_v eS_1223 hk
      refine v_iinc G (v := v8 + (1 : Int32)) 8 [(8, .int (v8 + (1 : Int32))), (0, .ref (adr X 0)), (1, .int v1), (2, .int v2), (3, .int v3), (4, .int v4), (5, .int v5), (6, .int v6), (7, .int v7)] dX10_install_237 rfl rfl (by decide) rfl ?_
      refine v_goto G (tgt := 221) dX10_install_240 (by decide) ?_
      exact v_sub [1, 2, 3, 4, 5, 6, 7, 8, 0] rfl (ih S_1223 v1 v2 v3 v4 v5 v6 v7 (v8 + (1 : Int32)) (lp_m (by assumption) hm) (lp_nn (by assumption) hi) hk)
def f_M_install_194 : Nat → St → Int32 → Int32 → Int32 → Int32 → Int32 → Int32 → Int32 → Int32 → Int32 × St
  | 0, S, _, _, _, _, _, _, _, _ => (0, S)
  | fn + 1, S, v1, v2, v3, v4, v5, v6, v7, v8 => (if v8 < (nI 6219) then bnv (st_up S 1 v8.toNatClampNeg (0 : Int32)) (fun S_1196 => (f_M_install_194 fn S_1196 v1 v2 v3 v4 v5 v6 v7 (v8 + (1 : Int32)))) else (f_M_install_221 ((((2048 : Int32)).toInt - (0 : Int32).toInt).toNat + 1) S v1 v2 v3 v4 v5 v6 v7 (0 : Int32)))
def k_M_install_194 : Nat → St → Int32 → Int32 → Int32 → Int32 → Int32 → Int32 → Int32 → Int32 → Prop
  | 0, _, _, _, _, _, _, _, _, _ => True
  | fn + 1, S, v1, v2, v3, v4, v5, v6, v7, v8 => (if v8 < (nI 6219) then bnv (st_up S 1 v8.toNatClampNeg (0 : Int32)) (fun S_1196 => (k_M_install_194 fn S_1196 v1 v2 v3 v4 v5 v6 v7 (v8 + (1 : Int32)))) else (k_M_install_221 ((((2048 : Int32)).toInt - (0 : Int32).toInt).toNat + 1) S v1 v2 v3 v4 v5 v6 v7 (0 : Int32)))
set_option maxHeartbeats 4000000 in
set_option maxRecDepth 100000 in
theorem v_M_install_194 {p : Program} {l : Launch} {e : Env} {s : State} {m : MethodId} {args : Array Value} {below : List Frame} {meth : Method} {c : Code} {X : vD} (hJ : sh_J X) (hX : shp X = shM) (G : vG p s m args meth c X shM "SensorNodeModel" cX10_install 9 (some .int))  : ∀ (fuel : Nat) (S : St) (v1 v2 v3 v4 v5 v6 v7 v8 : Int32) , ((nI 6219).toInt - v8.toInt).toNat < fuel → ¬ v8 < 0 → k_M_install_194 fuel S v1 v2 v3 v4 v5 v6 v7 v8 → V p l e 0 s m args below meth c X 9 (fun q : Int32 × St => ((some (.int q.1), q.2) : Option Value × St)) S 194 [(0, .ref (adr X 0)), (1, .int v1), (2, .int v2), (3, .int v3), (4, .int v4), (5, .int v5), (6, .int v6), (7, .int v7), (8, .int v8)] [] (f_M_install_194 fuel S v1 v2 v3 v4 v5 v6 v7 v8) := by
  intro fuel
  induction fuel with
  | zero =>
    intro S v1 v2 v3 v4 v5 v6 v7 v8 hm hi hk
    exact absurd hm (Nat.not_lt_zero _)
  | succ fn ih =>
    intro S v1 v2 v3 v4 v5 v6 v7 v8 hm hi hk
    rw [f_M_install_194]
    rw [k_M_install_194] at hk
    refine v_iload G 8 dX10_install_194 rfl ?_
    refine v_aload_n G 0 dX10_install_196 rfl ?_
    refine v_getr G (ci := 10) (T := TX10) (j := 11) inX10 rfl rfl rfl (by decide) w4_106 dX10_install_197 ?_
    refine v_alen G (ty := .int) rfl rfl dX10_install_200 ?_
    refine v_icmp_ge G (tgt := 218) dX10_install_201 (by decide) (fun c_1195 => ?_) (fun c_1195 => ?_)
    · have hk := ok_f c_1195 hk
      refine v_iconst G (v := (0 : Int32)) dX10_install_218 (by decide) ?_
      refine v_istore G [(8, .int (0 : Int32)), (0, .ref (adr X 0)), (1, .int v1), (2, .int v2), (3, .int v3), (4, .int v4), (5, .int v5), (6, .int v6), (7, .int v7)] dX10_install_219 (by decide) rfl ?_
      exact v_sub [1, 2, 3, 4, 5, 6, 7, 8, 0] rfl (v_M_install_221 hJ hX G ((((2048 : Int32)).toInt - (0 : Int32).toInt).toNat + 1) S v1 v2 v3 v4 v5 v6 v7 (0 : Int32) (Nat.lt_succ_self _) (by decide) hk)
    · have hk := ok_t c_1195 hk
      refine v_aload_n G 0 dX10_install_204 rfl ?_
      refine v_getr G (ci := 10) (T := TX10) (j := 11) inX10 rfl rfl rfl (by decide) w4_106 dX10_install_205 ?_
      refine v_iload G 8 dX10_install_208 rfl ?_
      refine v_iconst G (v := (0 : Int32)) dX10_install_210 (by decide) ?_
      refine v_iast G rfl (vi_br hi (by assumption) (by decide)) dX10_install_211 (fun S_1196 eS_1196 => ?_)
      have hk := ok_v eS_1196 hk
      refine v_iinc G (v := v8 + (1 : Int32)) 8 [(8, .int (v8 + (1 : Int32))), (0, .ref (adr X 0)), (1, .int v1), (2, .int v2), (3, .int v3), (4, .int v4), (5, .int v5), (6, .int v6), (7, .int v7)] dX10_install_212 rfl rfl (by decide) rfl ?_
      refine v_goto G (tgt := 194) dX10_install_215 (by decide) ?_
      exact v_sub [1, 2, 3, 4, 5, 6, 7, 8, 0] rfl (ih S_1196 v1 v2 v3 v4 v5 v6 v7 (v8 + (1 : Int32)) (lp_m (by assumption) hm) (lp_nn (by assumption) hi) hk)
def f_M_install (S : St) (a1 : Int32) (a2 : Int32) (a3 : Int32) (a4 : Int32) (a5 : Int32) : Int32 × St := bnx (S 0 34) (fun x_1 => bnv (st_up S 0 34 (0 : Int32)) (fun S_2 => (if a1 < (4 : Int32) then (if (0 : Int32) = 0 then ((-1 : Int32), S_2) else (0, S_2)) else (if (4096 : Int32) < a1 then (if (0 : Int32) = 0 then ((-1 : Int32), S_2) else (0, S_2)) else (if (a1 - a1 / (4 : Int32) * (4 : Int32)) = 0 then (if a2 < (4 : Int32) then (if (0 : Int32) = 0 then ((-1 : Int32), S_2) else (0, S_2)) else (if (8192 : Int32) < a2 then (if (0 : Int32) = 0 then ((-1 : Int32), S_2) else (0, S_2)) else (if (a2 - a2 / (4 : Int32) * (4 : Int32)) = 0 then (if a3 < (8 : Int32) then (if (0 : Int32) = 0 then ((-1 : Int32), S_2) else (0, S_2)) else (if (1024 : Int32) < a3 then (if (0 : Int32) = 0 then ((-1 : Int32), S_2) else (0, S_2)) else (if a4 < (16 : Int32) then (if (0 : Int32) = 0 then ((-1 : Int32), S_2) else (0, S_2)) else (if (65536 : Int32) < a4 then (if (0 : Int32) = 0 then ((-1 : Int32), S_2) else (0, S_2)) else (if (1 : Int32) = 0 then (0, S_2) else (if a2 < x_1 then ((-2 : Int32), S_2) else bnv (st_up S_2 0 0 (1 : Int32)) (fun S_25 => bnv (st_up S_25 0 1 (0 : Int32)) (fun S_26 => bnv (st_up S_26 0 2 (0 : Int32)) (fun S_27 => bnv (st_up S_27 0 17 (0 : Int32)) (fun S_28 => bnv (st_up S_28 0 3 a1) (fun S_29 => bnv (st_up S_29 0 4 a2) (fun S_30 => bnv (st_up S_30 0 5 a3) (fun S_31 => bnv (st_up S_31 0 6 a4) (fun S_32 => bnv (st_up S_32 0 7 a5) (fun S_33 => bnv (st_up S_33 0 9 ((3 : Int32) + ((2 : Int32) * ((36 : Int32) + ((S_33 0 3) / (4 : Int32)))))) (fun S_34 => bnv (st_up S_34 0 10 ((S_34 0 9) + ((2 : Int32) * (S_34 0 5)))) (fun S_35 => bnv (st_up S_35 0 8 ((S_35 0 10) + ((S_35 0 4) / (4 : Int32)))) (fun S_36 => (f_M_install_194 (((nI 6219).toInt - (0 : Int32).toInt).toNat + 1) S_36 a1 a2 a3 a4 a5 x_1 (1 : Int32) (0 : Int32)))))))))))))))))))) else (if (0 : Int32) = 0 then ((-1 : Int32), S_2) else (0, S_2))))) else (if (0 : Int32) = 0 then ((-1 : Int32), S_2) else (0, S_2)))))))
def k_M_install (S : St) (a1 : Int32) (a2 : Int32) (a3 : Int32) (a4 : Int32) (a5 : Int32) : Prop := bnx (S 0 34) (fun x_1 => bnv (st_up S 0 34 (0 : Int32)) (fun S_2 => (if a1 < (4 : Int32) then True else (if (4096 : Int32) < a1 then True else (if (a1 - a1 / (4 : Int32) * (4 : Int32)) = 0 then (if a2 < (4 : Int32) then True else (if (8192 : Int32) < a2 then True else (if (a2 - a2 / (4 : Int32) * (4 : Int32)) = 0 then (if a3 < (8 : Int32) then True else (if (1024 : Int32) < a3 then True else (if a4 < (16 : Int32) then True else (if (65536 : Int32) < a4 then True else (if (1 : Int32) = 0 then True else (if a2 < x_1 then True else bnv (st_up S_2 0 0 (1 : Int32)) (fun S_25 => bnv (st_up S_25 0 1 (0 : Int32)) (fun S_26 => bnv (st_up S_26 0 2 (0 : Int32)) (fun S_27 => bnv (st_up S_27 0 17 (0 : Int32)) (fun S_28 => bnv (st_up S_28 0 3 a1) (fun S_29 => bnv (st_up S_29 0 4 a2) (fun S_30 => bnv (st_up S_30 0 5 a3) (fun S_31 => bnv (st_up S_31 0 6 a4) (fun S_32 => bnv (st_up S_32 0 7 a5) (fun S_33 => bnv (st_up S_33 0 9 ((3 : Int32) + ((2 : Int32) * ((36 : Int32) + ((S_33 0 3) / (4 : Int32)))))) (fun S_34 => bnv (st_up S_34 0 10 ((S_34 0 9) + ((2 : Int32) * (S_34 0 5)))) (fun S_35 => bnv (st_up S_35 0 8 ((S_35 0 10) + ((S_35 0 4) / (4 : Int32)))) (fun S_36 => (k_M_install_194 (((nI 6219).toInt - (0 : Int32).toInt).toNat + 1) S_36 a1 a2 a3 a4 a5 x_1 (1 : Int32) (0 : Int32)))))))))))))))))))) else True))) else True)))))
set_option maxHeartbeats 4000000 in
set_option maxRecDepth 100000 in
theorem c_M_install (l : Launch) {X : vD} (hJ : sh_J X) (hX : shp X = shM)  (S : St) (a1 : Int32) (a2 : Int32) (a3 : Int32) (a4 : Int32) (a5 : Int32) (hk : k_M_install S a1 a2 a3 a4 a5) : Con l X yX10_install cX10_install 9 (some .int) 0 [.ref (adr X 0), .int a1, .int a2, .int a3, .int a4, .int a5] S (some (.int (f_M_install S a1 a2 a3 a4 a5).1), (f_M_install S a1 a2 a3 a4 a5).2) := by
  refine con_of (ρ := (fun q : Int32 × St => ((some (.int q.1), q.2) : Option Value × St))) (K := f_M_install S a1 a2 a3 a4 a5) hJ hX (by decide) (Nat.le_of_ble_eq_true rfl) (lv := [(0, .ref (adr X 0)), (1, .int a1), (2, .int a2), (3, .int a3), (4, .int a4), (5, .int a5)]) rfl ?_
  intro p e s m below meth c G
  have G : vG p s m _ meth c X shM "SensorNodeModel" cX10_install 9 (some .int) := G
  unfold f_M_install
  unfold k_M_install at hk
  refine v_aload_n G 0 dX10_install_0 rfl ?_
  refine v_geti G (ci := 10) (T := TX10) (j := 34) inX10 rfl rfl rfl (by decide) w4_129 dX10_install_1 ?_
  refine v_namei (fun x_1 ex_1 => ?_)
  have hk := ok_x ex_1 hk
  refine v_istore G [(6, .int x_1), (0, .ref (adr X 0)), (1, .int a1), (2, .int a2), (3, .int a3), (4, .int a4), (5, .int a5)] dX10_install_4 (by decide) rfl ?_
  refine v_aload_n G 1 dX10_install_6 rfl ?_
  refine v_iconst G (v := (0 : Int32)) dX10_install_7 (by decide) ?_
  refine v_puti G (ci := 10) (T := TX10) (j := 34) inX10 rfl rfl tyX10_ok nmX10 rfl (by decide) rfl rfl rfl w4_129 dX10_install_8 (fun S_2 eS_2 => ?_)
  have hk := ok_v eS_2 hk
  refine v_iload_n G 2 dX10_install_11 rfl ?_
  refine v_iconst G (v := (4 : Int32)) dX10_install_12 (by decide) ?_
  refine v_icmp_lt G (tgt := 78) dX10_install_13 (by decide) (fun c_3 => ?_) (fun c_3 => ?_)
  · refine v_iconst G (v := (0 : Int32)) dX10_install_78 (by decide) ?_
    refine v_istore G [(7, .int (0 : Int32)), (6, .int x_1), (0, .ref (adr X 0)), (1, .int a1), (2, .int a2), (3, .int a3), (4, .int a4), (5, .int a5)] dX10_install_79 (by decide) rfl ?_
    refine v_iload G 0 dX10_install_81 rfl ?_
    refine v_if_ne G (tgt := 88) dX10_install_83 (by decide) (fun h => absurd h (by decide)) (fun c_4 => ?_)
    refine v_iconst G (v := (-1 : Int32)) dX10_install_86 (by decide) ?_
    exact v_iret G rfl rfl dX10_install_87
  · have hk := ok_f c_3 hk
    refine v_iload_n G 2 dX10_install_16 rfl ?_
    refine v_sipush G (v := (4096 : Int32)) dX10_install_17 (by decide) ?_
    refine v_icmp_gt G (tgt := 78) dX10_install_20 (by decide) (fun c_5 => ?_) (fun c_5 => ?_)
    · refine v_iconst G (v := (0 : Int32)) dX10_install_78 (by decide) ?_
      refine v_istore G [(7, .int (0 : Int32)), (6, .int x_1), (0, .ref (adr X 0)), (1, .int a1), (2, .int a2), (3, .int a3), (4, .int a4), (5, .int a5)] dX10_install_79 (by decide) rfl ?_
      refine v_iload G 0 dX10_install_81 rfl ?_
      refine v_if_ne G (tgt := 88) dX10_install_83 (by decide) (fun h => absurd h (by decide)) (fun c_6 => ?_)
      refine v_iconst G (v := (-1 : Int32)) dX10_install_86 (by decide) ?_
      exact v_iret G rfl rfl dX10_install_87
    · have hk := ok_f c_5 hk
      refine v_iload_n G 2 dX10_install_23 rfl ?_
      refine v_iconst G (v := (4 : Int32)) dX10_install_24 (by decide) ?_
      refine v_irem G dX10_install_25 (by decide) ?_
      refine v_if_ne G (tgt := 78) dX10_install_26 (by decide) (fun c_7 => ?_) (fun c_7 => ?_)
      · refine v_iconst G (v := (0 : Int32)) dX10_install_78 (by decide) ?_
        refine v_istore G [(7, .int (0 : Int32)), (6, .int x_1), (0, .ref (adr X 0)), (1, .int a1), (2, .int a2), (3, .int a3), (4, .int a4), (5, .int a5)] dX10_install_79 (by decide) rfl ?_
        refine v_iload G 0 dX10_install_81 rfl ?_
        refine v_if_ne G (tgt := 88) dX10_install_83 (by decide) (fun h => absurd h (by decide)) (fun c_8 => ?_)
        refine v_iconst G (v := (-1 : Int32)) dX10_install_86 (by decide) ?_
        exact v_iret G rfl rfl dX10_install_87
      · have hk := ok_t c_7 hk
        refine v_iload_n G 3 dX10_install_29 rfl ?_
        refine v_iconst G (v := (4 : Int32)) dX10_install_30 (by decide) ?_
        refine v_icmp_lt G (tgt := 78) dX10_install_31 (by decide) (fun c_9 => ?_) (fun c_9 => ?_)
        · refine v_iconst G (v := (0 : Int32)) dX10_install_78 (by decide) ?_
          refine v_istore G [(7, .int (0 : Int32)), (6, .int x_1), (0, .ref (adr X 0)), (1, .int a1), (2, .int a2), (3, .int a3), (4, .int a4), (5, .int a5)] dX10_install_79 (by decide) rfl ?_
          refine v_iload G 0 dX10_install_81 rfl ?_
          refine v_if_ne G (tgt := 88) dX10_install_83 (by decide) (fun h => absurd h (by decide)) (fun c_10 => ?_)
          refine v_iconst G (v := (-1 : Int32)) dX10_install_86 (by decide) ?_
          exact v_iret G rfl rfl dX10_install_87
        · have hk := ok_f c_9 hk
          refine v_iload_n G 3 dX10_install_34 rfl ?_
          refine v_sipush G (v := (8192 : Int32)) dX10_install_35 (by decide) ?_
          refine v_icmp_gt G (tgt := 78) dX10_install_38 (by decide) (fun c_11 => ?_) (fun c_11 => ?_)
          · refine v_iconst G (v := (0 : Int32)) dX10_install_78 (by decide) ?_
            refine v_istore G [(7, .int (0 : Int32)), (6, .int x_1), (0, .ref (adr X 0)), (1, .int a1), (2, .int a2), (3, .int a3), (4, .int a4), (5, .int a5)] dX10_install_79 (by decide) rfl ?_
            refine v_iload G 0 dX10_install_81 rfl ?_
            refine v_if_ne G (tgt := 88) dX10_install_83 (by decide) (fun h => absurd h (by decide)) (fun c_12 => ?_)
            refine v_iconst G (v := (-1 : Int32)) dX10_install_86 (by decide) ?_
            exact v_iret G rfl rfl dX10_install_87
          · have hk := ok_f c_11 hk
            refine v_iload_n G 3 dX10_install_41 rfl ?_
            refine v_iconst G (v := (4 : Int32)) dX10_install_42 (by decide) ?_
            refine v_irem G dX10_install_43 (by decide) ?_
            refine v_if_ne G (tgt := 78) dX10_install_44 (by decide) (fun c_13 => ?_) (fun c_13 => ?_)
            · refine v_iconst G (v := (0 : Int32)) dX10_install_78 (by decide) ?_
              refine v_istore G [(7, .int (0 : Int32)), (6, .int x_1), (0, .ref (adr X 0)), (1, .int a1), (2, .int a2), (3, .int a3), (4, .int a4), (5, .int a5)] dX10_install_79 (by decide) rfl ?_
              refine v_iload G 0 dX10_install_81 rfl ?_
              refine v_if_ne G (tgt := 88) dX10_install_83 (by decide) (fun h => absurd h (by decide)) (fun c_14 => ?_)
              refine v_iconst G (v := (-1 : Int32)) dX10_install_86 (by decide) ?_
              exact v_iret G rfl rfl dX10_install_87
            · have hk := ok_t c_13 hk
              refine v_iload_n G 4 dX10_install_47 rfl ?_
              refine v_bipush G (v := (8 : Int32)) dX10_install_48 (by decide) ?_
              refine v_icmp_lt G (tgt := 78) dX10_install_50 (by decide) (fun c_15 => ?_) (fun c_15 => ?_)
              · refine v_iconst G (v := (0 : Int32)) dX10_install_78 (by decide) ?_
                refine v_istore G [(7, .int (0 : Int32)), (6, .int x_1), (0, .ref (adr X 0)), (1, .int a1), (2, .int a2), (3, .int a3), (4, .int a4), (5, .int a5)] dX10_install_79 (by decide) rfl ?_
                refine v_iload G 0 dX10_install_81 rfl ?_
                refine v_if_ne G (tgt := 88) dX10_install_83 (by decide) (fun h => absurd h (by decide)) (fun c_16 => ?_)
                refine v_iconst G (v := (-1 : Int32)) dX10_install_86 (by decide) ?_
                exact v_iret G rfl rfl dX10_install_87
              · have hk := ok_f c_15 hk
                refine v_iload_n G 4 dX10_install_53 rfl ?_
                refine v_sipush G (v := (1024 : Int32)) dX10_install_54 (by decide) ?_
                refine v_icmp_gt G (tgt := 78) dX10_install_57 (by decide) (fun c_17 => ?_) (fun c_17 => ?_)
                · refine v_iconst G (v := (0 : Int32)) dX10_install_78 (by decide) ?_
                  refine v_istore G [(7, .int (0 : Int32)), (6, .int x_1), (0, .ref (adr X 0)), (1, .int a1), (2, .int a2), (3, .int a3), (4, .int a4), (5, .int a5)] dX10_install_79 (by decide) rfl ?_
                  refine v_iload G 0 dX10_install_81 rfl ?_
                  refine v_if_ne G (tgt := 88) dX10_install_83 (by decide) (fun h => absurd h (by decide)) (fun c_18 => ?_)
                  refine v_iconst G (v := (-1 : Int32)) dX10_install_86 (by decide) ?_
                  exact v_iret G rfl rfl dX10_install_87
                · have hk := ok_f c_17 hk
                  refine v_iload G 5 dX10_install_60 rfl ?_
                  refine v_bipush G (v := (16 : Int32)) dX10_install_62 (by decide) ?_
                  refine v_icmp_lt G (tgt := 78) dX10_install_64 (by decide) (fun c_19 => ?_) (fun c_19 => ?_)
                  · refine v_iconst G (v := (0 : Int32)) dX10_install_78 (by decide) ?_
                    refine v_istore G [(7, .int (0 : Int32)), (6, .int x_1), (0, .ref (adr X 0)), (1, .int a1), (2, .int a2), (3, .int a3), (4, .int a4), (5, .int a5)] dX10_install_79 (by decide) rfl ?_
                    refine v_iload G 0 dX10_install_81 rfl ?_
                    refine v_if_ne G (tgt := 88) dX10_install_83 (by decide) (fun h => absurd h (by decide)) (fun c_20 => ?_)
                    refine v_iconst G (v := (-1 : Int32)) dX10_install_86 (by decide) ?_
                    exact v_iret G rfl rfl dX10_install_87
                  · have hk := ok_f c_19 hk
                    refine v_iload G 5 dX10_install_67 rfl ?_
                    refine v_ldc G (v := (65536 : Int32)) dX10_install_69 w4_209 ?_
                    refine v_icmp_gt G (tgt := 78) dX10_install_71 (by decide) (fun c_21 => ?_) (fun c_21 => ?_)
                    · refine v_iconst G (v := (0 : Int32)) dX10_install_78 (by decide) ?_
                      refine v_istore G [(7, .int (0 : Int32)), (6, .int x_1), (0, .ref (adr X 0)), (1, .int a1), (2, .int a2), (3, .int a3), (4, .int a4), (5, .int a5)] dX10_install_79 (by decide) rfl ?_
                      refine v_iload G 0 dX10_install_81 rfl ?_
                      refine v_if_ne G (tgt := 88) dX10_install_83 (by decide) (fun h => absurd h (by decide)) (fun c_22 => ?_)
                      refine v_iconst G (v := (-1 : Int32)) dX10_install_86 (by decide) ?_
                      exact v_iret G rfl rfl dX10_install_87
                    · have hk := ok_f c_21 hk
                      refine v_iconst G (v := (1 : Int32)) dX10_install_74 (by decide) ?_
                      refine v_goto G (tgt := 79) dX10_install_75 (by decide) ?_
                      refine v_istore G [(7, .int (1 : Int32)), (6, .int x_1), (0, .ref (adr X 0)), (1, .int a1), (2, .int a2), (3, .int a3), (4, .int a4), (5, .int a5)] dX10_install_79 (by decide) rfl ?_
                      refine v_iload G 0 dX10_install_81 rfl ?_
                      refine v_if_ne G (tgt := 88) dX10_install_83 (by decide) (fun c_23 => ?_) (fun h => absurd h (by decide))
                      have hk := ok_f c_23 hk
                      refine v_iload G 1 dX10_install_88 rfl ?_
                      refine v_iload_n G 4 dX10_install_90 rfl ?_
                      refine v_icmp_le G (tgt := 97) dX10_install_91 (by decide) (fun c_24 => ?_) (fun c_24 => ?_)
                      · have hk := ok_f c_24 hk
                        refine v_aload_n G 2 dX10_install_97 rfl ?_
                        refine v_iconst G (v := (1 : Int32)) dX10_install_98 (by decide) ?_
                        refine v_puti G (ci := 10) (T := TX10) (j := 0) inX10 rfl rfl tyX10_ok nmX10 rfl (by decide) rfl rfl rfl w4_95 dX10_install_99 (fun S_25 eS_25 => ?_)
                        have hk := ok_v eS_25 hk
                        refine v_aload_n G 2 dX10_install_102 rfl ?_
                        refine v_iconst G (v := (0 : Int32)) dX10_install_103 (by decide) ?_
                        refine v_puti G (ci := 10) (T := TX10) (j := 1) inX10 rfl rfl tyX10_ok nmX10 rfl (by decide) rfl rfl rfl w4_96 dX10_install_104 (fun S_26 eS_26 => ?_)
                        have hk := ok_v eS_26 hk
                        refine v_aload_n G 2 dX10_install_107 rfl ?_
                        refine v_iconst G (v := (0 : Int32)) dX10_install_108 (by decide) ?_
                        refine v_puti G (ci := 10) (T := TX10) (j := 2) inX10 rfl rfl tyX10_ok nmX10 rfl (by decide) rfl rfl rfl w4_97 dX10_install_109 (fun S_27 eS_27 => ?_)
                        have hk := ok_v eS_27 hk
                        refine v_aload_n G 2 dX10_install_112 rfl ?_
                        refine v_iconst G (v := (0 : Int32)) dX10_install_113 (by decide) ?_
                        refine v_puti G (ci := 10) (T := TX10) (j := 17) inX10 rfl rfl tyX10_ok nmX10 rfl (by decide) rfl rfl rfl w4_112 dX10_install_114 (fun S_28 eS_28 => ?_)
                        have hk := ok_v eS_28 hk
                        refine v_aload_n G 2 dX10_install_117 rfl ?_
                        refine v_iload_n G 3 dX10_install_118 rfl ?_
                        refine v_puti G (ci := 10) (T := TX10) (j := 3) inX10 rfl rfl tyX10_ok nmX10 rfl (by decide) rfl rfl rfl w4_98 dX10_install_119 (fun S_29 eS_29 => ?_)
                        have hk := ok_v eS_29 hk
                        refine v_aload_n G 2 dX10_install_122 rfl ?_
                        refine v_iload_n G 4 dX10_install_123 rfl ?_
                        refine v_puti G (ci := 10) (T := TX10) (j := 4) inX10 rfl rfl tyX10_ok nmX10 rfl (by decide) rfl rfl rfl w4_99 dX10_install_124 (fun S_30 eS_30 => ?_)
                        have hk := ok_v eS_30 hk
                        refine v_aload_n G 2 dX10_install_127 rfl ?_
                        refine v_iload_n G 5 dX10_install_128 rfl ?_
                        refine v_puti G (ci := 10) (T := TX10) (j := 5) inX10 rfl rfl tyX10_ok nmX10 rfl (by decide) rfl rfl rfl w4_100 dX10_install_129 (fun S_31 eS_31 => ?_)
                        have hk := ok_v eS_31 hk
                        refine v_aload_n G 2 dX10_install_132 rfl ?_
                        refine v_iload G 6 dX10_install_133 rfl ?_
                        refine v_puti G (ci := 10) (T := TX10) (j := 6) inX10 rfl rfl tyX10_ok nmX10 rfl (by decide) rfl rfl rfl w4_101 dX10_install_135 (fun S_32 eS_32 => ?_)
                        have hk := ok_v eS_32 hk
                        refine v_aload_n G 2 dX10_install_138 rfl ?_
                        refine v_iload G 7 dX10_install_139 rfl ?_
                        refine v_puti G (ci := 10) (T := TX10) (j := 7) inX10 rfl rfl tyX10_ok nmX10 rfl (by decide) rfl rfl rfl w4_102 dX10_install_141 (fun S_33 eS_33 => ?_)
                        have hk := ok_v eS_33 hk
                        refine v_aload_n G 2 dX10_install_144 rfl ?_
                        refine v_iconst G (v := (3 : Int32)) dX10_install_145 (by decide) ?_
                        refine v_iconst G (v := (2 : Int32)) dX10_install_146 (by decide) ?_
                        refine v_bipush G (v := (36 : Int32)) dX10_install_147 (by decide) ?_
                        refine v_aload_n G 2 dX10_install_149 rfl ?_
                        refine v_geti G (ci := 10) (T := TX10) (j := 3) inX10 rfl rfl rfl (by decide) w4_98 dX10_install_150 ?_
                        refine v_iconst G (v := (4 : Int32)) dX10_install_153 (by decide) ?_
                        refine v_idiv G dX10_install_154 (by decide) ?_
                        refine v_iadd G dX10_install_155 ?_
                        refine v_imul G dX10_install_156 ?_
                        refine v_iadd G dX10_install_157 ?_
                        refine v_puti G (ci := 10) (T := TX10) (j := 9) inX10 rfl rfl tyX10_ok nmX10 rfl (by decide) rfl rfl rfl w4_104 dX10_install_158 (fun S_34 eS_34 => ?_)
                        have hk := ok_v eS_34 hk
                        refine v_aload_n G 2 dX10_install_161 rfl ?_
                        refine v_aload_n G 2 dX10_install_162 rfl ?_
                        refine v_geti G (ci := 10) (T := TX10) (j := 9) inX10 rfl rfl rfl (by decide) w4_104 dX10_install_163 ?_
                        refine v_iconst G (v := (2 : Int32)) dX10_install_166 (by decide) ?_
                        refine v_aload_n G 2 dX10_install_167 rfl ?_
                        refine v_geti G (ci := 10) (T := TX10) (j := 5) inX10 rfl rfl rfl (by decide) w4_100 dX10_install_168 ?_
                        refine v_imul G dX10_install_171 ?_
                        refine v_iadd G dX10_install_172 ?_
                        refine v_puti G (ci := 10) (T := TX10) (j := 10) inX10 rfl rfl tyX10_ok nmX10 rfl (by decide) rfl rfl rfl w4_105 dX10_install_173 (fun S_35 eS_35 => ?_)
                        have hk := ok_v eS_35 hk
                        refine v_aload_n G 2 dX10_install_176 rfl ?_
                        refine v_aload_n G 2 dX10_install_177 rfl ?_
                        refine v_geti G (ci := 10) (T := TX10) (j := 10) inX10 rfl rfl rfl (by decide) w4_105 dX10_install_178 ?_
                        refine v_aload_n G 2 dX10_install_181 rfl ?_
                        refine v_geti G (ci := 10) (T := TX10) (j := 4) inX10 rfl rfl rfl (by decide) w4_99 dX10_install_182 ?_
                        refine v_iconst G (v := (4 : Int32)) dX10_install_185 (by decide) ?_
                        refine v_idiv G dX10_install_186 (by decide) ?_
                        refine v_iadd G dX10_install_187 ?_
                        refine v_puti G (ci := 10) (T := TX10) (j := 8) inX10 rfl rfl tyX10_ok nmX10 rfl (by decide) rfl rfl rfl w4_103 dX10_install_188 (fun S_36 eS_36 => ?_)
                        have hk := ok_v eS_36 hk
                        refine v_iconst G (v := (0 : Int32)) dX10_install_191 (by decide) ?_
                        refine v_istore G [(8, .int (0 : Int32)), (7, .int (1 : Int32)), (6, .int x_1), (0, .ref (adr X 0)), (1, .int a1), (2, .int a2), (3, .int a3), (4, .int a4), (5, .int a5)] dX10_install_192 (by decide) rfl ?_
                        exact v_sub [3, 4, 5, 6, 7, 8, 2, 1, 0] rfl (v_M_install_194 hJ hX G (((nI 6219).toInt - (0 : Int32).toInt).toNat + 1) S_36 a1 a2 a3 a4 a5 x_1 (1 : Int32) (0 : Int32) (Nat.lt_succ_self _) (by decide) hk)
                      · refine v_bipush G (v := (-2 : Int32)) dX10_install_94 (by decide) ?_
                        exact v_iret G rfl rfl dX10_install_96
/-! SensorNodeModel.sample -/
theorem qyX10_sample : yX10_sample.cls ≠ "java/lang/invoke/MethodHandle" ∧ yX10_sample.cls ≠ "java/lang/invoke/VarHandle" ∧ (parseMethodDescriptor yX10_sample.desc).map (fun d => d.parameters.length) = some 1 := by decide +kernel
def f_M_sample (S : St) (a1 : Int32) : Int32 × St := (if (S 0 0) = 0 then ((-1 : Int32), S) else (if (S 0 1) = 0 then (if (S 4 11) = (1000 : Int32) then ((-1 : Int32), S) else bnv (st_up S 3 (S 4 11).toNatClampNeg a1) (fun S_4 => bnv (st_up S_4 4 11 ((S_4 4 11) + (1 : Int32))) (fun S_5 => bnv (st_up S_5 7 11 (S_5 4 11)) (fun S_6 => (S_6 4 11, S_6))))) else ((-1 : Int32), S)))
def k_M_sample (S : St) (a1 : Int32) : Prop := (if (S 0 0) = 0 then True else (if (S 0 1) = 0 then (if (S 4 11) = (1000 : Int32) then True else vp_in (S 4 11) 1000) else True))
set_option maxHeartbeats 4000000 in
set_option maxRecDepth 100000 in
theorem c_M_sample (l : Launch) {X : vD} (hJ : sh_J X) (hX : shp X = shM)  (S : St) (a1 : Int32) (hk : k_M_sample S a1) : Con l X yX10_sample cX10_sample 2 (some .int) 0 [.ref (adr X 0), .int a1] S (some (.int (f_M_sample S a1).1), (f_M_sample S a1).2) := by
  refine con_of (ρ := (fun q : Int32 × St => ((some (.int q.1), q.2) : Option Value × St))) (K := f_M_sample S a1) hJ hX (by decide) (Nat.le_of_ble_eq_true rfl) (lv := [(0, .ref (adr X 0)), (1, .int a1)]) rfl ?_
  intro p e s m below meth c G
  have G : vG p s m _ meth c X shM "SensorNodeModel" cX10_sample 2 (some .int) := G
  unfold f_M_sample
  unfold k_M_sample at hk
  refine v_aload_n G 0 dX10_sample_0 rfl ?_
  refine v_geti G (ci := 10) (T := TX10) (j := 0) inX10 rfl rfl rfl (by decide) w4_95 dX10_sample_1 ?_
  refine v_if_eq G (tgt := 27) dX10_sample_4 (by decide) (fun c_1 => ?_) (fun c_1 => ?_)
  · refine v_iconst G (v := (-1 : Int32)) dX10_sample_27 (by decide) ?_
    exact v_iret G rfl rfl dX10_sample_28
  · have hk := ok_f c_1 hk
    refine v_aload_n G 0 dX10_sample_7 rfl ?_
    refine v_geti G (ci := 10) (T := TX10) (j := 1) inX10 rfl rfl rfl (by decide) w4_96 dX10_sample_8 ?_
    refine v_if_ne G (tgt := 27) dX10_sample_11 (by decide) (fun c_2 => ?_) (fun c_2 => ?_)
    · refine v_iconst G (v := (-1 : Int32)) dX10_sample_27 (by decide) ?_
      exact v_iret G rfl rfl dX10_sample_28
    · have hk := ok_t c_2 hk
      refine v_aload_n G 0 dX10_sample_14 rfl ?_
      refine v_getr G (ci := 10) (T := TX10) (j := 14) inX10 rfl rfl rfl (by decide) w4_109 dX10_sample_15 ?_
      refine v_geti G (ci := 9) (T := TX9) (j := 11) inX9 rfl rfl rfl (by decide) w4_9 dX10_sample_18 ?_
      refine v_sipush G (v := (1000 : Int32)) dX10_sample_21 (by decide) ?_
      refine v_icmp_ne G (tgt := 29) dX10_sample_24 (by decide) (fun c_3 => ?_) (fun c_3 => ?_)
      · have hk := ok_f c_3 hk
        refine v_aload_n G 0 dX10_sample_29 rfl ?_
        refine v_getr G (ci := 10) (T := TX10) (j := 13) inX10 rfl rfl rfl (by decide) w4_108 dX10_sample_30 ?_
        refine v_aload_n G 0 dX10_sample_33 rfl ?_
        refine v_getr G (ci := 10) (T := TX10) (j := 14) inX10 rfl rfl rfl (by decide) w4_109 dX10_sample_34 ?_
        refine v_geti G (ci := 9) (T := TX9) (j := 11) inX9 rfl rfl rfl (by decide) w4_9 dX10_sample_37 ?_
        refine v_iload_n G 1 dX10_sample_40 rfl ?_
        refine v_iast G rfl hk dX10_sample_41 (fun S_4 eS_4 => ?_)
        refine v_aload_n G 0 dX10_sample_42 rfl ?_
        refine v_getr G (ci := 10) (T := TX10) (j := 14) inX10 rfl rfl rfl (by decide) w4_109 dX10_sample_43 ?_
        refine v_dup G dX10_sample_46 rfl ?_
        refine v_geti G (ci := 9) (T := TX9) (j := 11) inX9 rfl rfl rfl (by decide) w4_9 dX10_sample_47 ?_
        refine v_iconst G (v := (1 : Int32)) dX10_sample_50 (by decide) ?_
        refine v_iadd G dX10_sample_51 ?_
        refine v_puti G (ci := 9) (T := TX9) (j := 11) inX9 rfl rfl tyX9_ok nmX9 rfl (by decide) rfl rfl rfl w4_9 dX10_sample_52 (fun S_5 eS_5 => ?_)
        refine v_aload_n G 0 dX10_sample_55 rfl ?_
        refine v_getr G (ci := 10) (T := TX10) (j := 15) inX10 rfl rfl rfl (by decide) w4_110 dX10_sample_56 ?_
        refine v_aload_n G 0 dX10_sample_59 rfl ?_
        refine v_getr G (ci := 10) (T := TX10) (j := 14) inX10 rfl rfl rfl (by decide) w4_109 dX10_sample_60 ?_
        refine v_geti G (ci := 9) (T := TX9) (j := 11) inX9 rfl rfl rfl (by decide) w4_9 dX10_sample_63 ?_
        refine v_puti G (ci := 9) (T := TX9) (j := 11) inX9 rfl rfl tyX9_ok nmX9 rfl (by decide) rfl rfl rfl w4_9 dX10_sample_66 (fun S_6 eS_6 => ?_)
        refine v_aload_n G 0 dX10_sample_69 rfl ?_
        refine v_getr G (ci := 10) (T := TX10) (j := 14) inX10 rfl rfl rfl (by decide) w4_109 dX10_sample_70 ?_
        refine v_geti G (ci := 9) (T := TX9) (j := 11) inX9 rfl rfl rfl (by decide) w4_9 dX10_sample_73 ?_
        exact v_iret G rfl rfl dX10_sample_76
      · refine v_iconst G (v := (-1 : Int32)) dX10_sample_27 (by decide) ?_
        exact v_iret G rfl rfl dX10_sample_28
/-! SensorNodeModel.generation -/
theorem qyX10_generation : yX10_generation.cls ≠ "java/lang/invoke/MethodHandle" ∧ yX10_generation.cls ≠ "java/lang/invoke/VarHandle" ∧ (parseMethodDescriptor yX10_generation.desc).map (fun d => d.parameters.length) = some 0 := by decide +kernel
def f_M_generation (S : St) : Int32 := S 1 (0 : Int32).toNatClampNeg
set_option maxHeartbeats 4000000 in
set_option maxRecDepth 100000 in
theorem c_M_generation (l : Launch) {X : vD} (hJ : sh_J X) (hX : shp X = shM)  (S : St)  : Con l X yX10_generation cX10_generation 1 (some .int) 0 [.ref (adr X 0)] S (some (.int (f_M_generation S)), S) := by
  refine con_of (ρ := (fun r : Int32 => ((some (.int r), S) : Option Value × St))) (K := f_M_generation S) hJ hX (by decide) (Nat.le_of_ble_eq_true rfl) (lv := [(0, .ref (adr X 0))]) rfl ?_
  intro p e s m below meth c G
  have G : vG p s m _ meth c X shM "SensorNodeModel" cX10_generation 1 (some .int) := G
  unfold f_M_generation
  refine v_aload_n G 0 dX10_generation_0 rfl ?_
  refine v_getr G (ci := 10) (T := TX10) (j := 11) inX10 rfl rfl rfl (by decide) w4_106 dX10_generation_1 ?_
  refine v_iconst G (v := (0 : Int32)) dX10_generation_4 (by decide) ?_
  refine v_iald G rfl (by unfold vp_in; decide) dX10_generation_5 ?_
  exact v_iret G rfl rfl dX10_generation_6
/-! SensorNodeModel.bufferAt -/
theorem qyX10_bufferAt : yX10_bufferAt.cls ≠ "java/lang/invoke/MethodHandle" ∧ yX10_bufferAt.cls ≠ "java/lang/invoke/VarHandle" ∧ (parseMethodDescriptor yX10_bufferAt.desc).map (fun d => d.parameters.length) = some 1 := by decide +kernel
def f_M_bufferAt (S : St) (a1 : Int32) : Int32 := (3 : Int32) + ((a1 &&& (1 : Int32)) * ((36 : Int32) + ((S 0 3) / (4 : Int32))))
set_option maxHeartbeats 4000000 in
set_option maxRecDepth 100000 in
theorem c_M_bufferAt (l : Launch) {X : vD} (hJ : sh_J X) (hX : shp X = shM)  (S : St) (a1 : Int32)  : Con l X yX10_bufferAt cX10_bufferAt 2 (some .int) 0 [.ref (adr X 0), .int a1] S (some (.int (f_M_bufferAt S a1)), S) := by
  refine con_of (ρ := (fun r : Int32 => ((some (.int r), S) : Option Value × St))) (K := f_M_bufferAt S a1) hJ hX (by decide) (Nat.le_of_ble_eq_true rfl) (lv := [(0, .ref (adr X 0)), (1, .int a1)]) rfl ?_
  intro p e s m below meth c G
  have G : vG p s m _ meth c X shM "SensorNodeModel" cX10_bufferAt 2 (some .int) := G
  unfold f_M_bufferAt
  refine v_iconst G (v := (3 : Int32)) dX10_bufferAt_0 (by decide) ?_
  refine v_iload_n G 1 dX10_bufferAt_1 rfl ?_
  refine v_iconst G (v := (1 : Int32)) dX10_bufferAt_2 (by decide) ?_
  refine v_iand G dX10_bufferAt_3 ?_
  refine v_bipush G (v := (36 : Int32)) dX10_bufferAt_4 (by decide) ?_
  refine v_aload_n G 0 dX10_bufferAt_6 rfl ?_
  refine v_geti G (ci := 10) (T := TX10) (j := 3) inX10 rfl rfl rfl (by decide) w4_98 dX10_bufferAt_7 ?_
  refine v_iconst G (v := (4 : Int32)) dX10_bufferAt_10 (by decide) ?_
  refine v_idiv G dX10_bufferAt_11 (by decide) ?_
  refine v_iadd G dX10_bufferAt_12 ?_
  refine v_imul G dX10_bufferAt_13 ?_
  refine v_iadd G dX10_bufferAt_14 ?_
  exact v_iret G rfl rfl dX10_bufferAt_15
/-! SensorNodeModel.counting -/
theorem qyX10_counting : yX10_counting.cls ≠ "java/lang/invoke/MethodHandle" ∧ yX10_counting.cls ≠ "java/lang/invoke/VarHandle" ∧ (parseMethodDescriptor yX10_counting.desc).map (fun d => d.parameters.length) = some 0 := by decide +kernel
def f_M_counting (S : St) : Int32 := (S 1 (1 : Int32).toNatClampNeg) &&& (65535 : Int32)
set_option maxHeartbeats 4000000 in
set_option maxRecDepth 100000 in
theorem c_M_counting (l : Launch) {X : vD} (hJ : sh_J X) (hX : shp X = shM)  (S : St)  : Con l X yX10_counting cX10_counting 1 (some .int) 0 [.ref (adr X 0)] S (some (.int (f_M_counting S)), S) := by
  refine con_of (ρ := (fun r : Int32 => ((some (.int r), S) : Option Value × St))) (K := f_M_counting S) hJ hX (by decide) (Nat.le_of_ble_eq_true rfl) (lv := [(0, .ref (adr X 0))]) rfl ?_
  intro p e s m below meth c G
  have G : vG p s m _ meth c X shM "SensorNodeModel" cX10_counting 1 (some .int) := G
  unfold f_M_counting
  refine v_aload_n G 0 dX10_counting_0 rfl ?_
  refine v_getr G (ci := 10) (T := TX10) (j := 11) inX10 rfl rfl rfl (by decide) w4_106 dX10_counting_1 ?_
  refine v_iconst G (v := (1 : Int32)) dX10_counting_4 (by decide) ?_
  refine v_iald G rfl (by unfold vp_in; decide) dX10_counting_5 ?_
  refine v_ldc G (v := (65535 : Int32)) dX10_counting_6 w5_2 ?_
  refine v_iand G dX10_counting_8 ?_
  exact v_iret G rfl rfl dX10_counting_9
/-! SensorNodeModel.forgetEntries -/
theorem qyX10_forgetEntries : yX10_forgetEntries.cls ≠ "java/lang/invoke/MethodHandle" ∧ yX10_forgetEntries.cls ≠ "java/lang/invoke/VarHandle" ∧ (parseMethodDescriptor yX10_forgetEntries.desc).map (fun d => d.parameters.length) = some 0 := by decide +kernel
def f_M_forgetEntries_2 : Nat → St → Int32 → St
  | 0, S, _ => S
  | fn + 1, S, v1 => (if v1 < (2048 : Int32) then bnv (st_up S 21 v1.toNatClampNeg (vp_nar .boolean (0 : Int32))) (fun S_1004 => (f_M_forgetEntries_2 fn S_1004 (v1 + (1 : Int32)))) else S)
set_option maxHeartbeats 4000000 in
set_option maxRecDepth 100000 in
theorem v_M_forgetEntries_2 {p : Program} {l : Launch} {e : Env} {s : State} {m : MethodId} {args : Array Value} {below : List Frame} {meth : Method} {c : Code} {X : vD} (hJ : sh_J X) (hX : shp X = shM) (G : vG p s m args meth c X shM "SensorNodeModel" cX10_forgetEntries 2 none)  : ∀ (fuel : Nat) (S : St) (v1 : Int32) , (((2048 : Int32)).toInt - v1.toInt).toNat < fuel → ¬ v1 < 0 → V p l e 0 s m args below meth c X 2 (fun S : St => ((none, S) : Option Value × St)) S 2 [(0, .ref (adr X 0)), (1, .int v1)] [] (f_M_forgetEntries_2 fuel S v1) := by
  intro fuel
  induction fuel with
  | zero =>
    intro S v1 hm hi
    exact absurd hm (Nat.not_lt_zero _)
  | succ fn ih =>
    intro S v1 hm hi
    rw [f_M_forgetEntries_2]
    refine v_iload_n G 1 dX10_forgetEntries_2 rfl ?_
    refine v_sipush G (v := (2048 : Int32)) dX10_forgetEntries_3 (by decide) ?_
    refine v_icmp_ge G (tgt := 22) dX10_forgetEntries_6 (by decide) (fun c_1003 => ?_) (fun c_1003 => ?_)
    · exact v_vret G rfl rfl dX10_forgetEntries_22
    · refine v_aload_n G 0 dX10_forgetEntries_9 rfl ?_
      refine v_getr G (ci := 10) (T := TX10) (j := 24) inX10 rfl rfl rfl (by decide) w4_119 dX10_forgetEntries_10 ?_
      refine v_iload_n G 1 dX10_forgetEntries_13 rfl ?_
      refine v_iconst G (v := (0 : Int32)) dX10_forgetEntries_14 (by decide) ?_
      refine v_zast G rfl (vi_br hi (by assumption) (by decide)) dX10_forgetEntries_15 (fun S_1004 eS_1004 => ?_)
      refine v_iinc G (v := v1 + (1 : Int32)) 1 [(1, .int (v1 + (1 : Int32))), (0, .ref (adr X 0))] dX10_forgetEntries_16 rfl rfl (by decide) rfl ?_
      refine v_goto G (tgt := 2) dX10_forgetEntries_19 (by decide) ?_
      exact v_sub [1, 0] rfl (ih S_1004 (v1 + (1 : Int32)) (lp_m (by assumption) hm) (lp_nn (by assumption) hi))
def f_M_forgetEntries (S : St) : St := (f_M_forgetEntries_2 ((((2048 : Int32)).toInt - (0 : Int32).toInt).toNat + 1) S (0 : Int32))
set_option maxHeartbeats 4000000 in
set_option maxRecDepth 100000 in
theorem c_M_forgetEntries (l : Launch) {X : vD} (hJ : sh_J X) (hX : shp X = shM)  (S : St)  : Con l X yX10_forgetEntries cX10_forgetEntries 2 none 0 [.ref (adr X 0)] S (none, f_M_forgetEntries S) := by
  refine con_of (ρ := (fun S : St => ((none, S) : Option Value × St))) (K := f_M_forgetEntries S) hJ hX (by decide) (Nat.le_of_ble_eq_true rfl) (lv := [(0, .ref (adr X 0))]) rfl ?_
  intro p e s m below meth c G
  have G : vG p s m _ meth c X shM "SensorNodeModel" cX10_forgetEntries 2 none := G
  unfold f_M_forgetEntries
  refine v_iconst G (v := (0 : Int32)) dX10_forgetEntries_0 (by decide) ?_
  refine v_istore_n G [(1, .int (0 : Int32)), (0, .ref (adr X 0))] dX10_forgetEntries_1 (by decide) rfl ?_
  exact v_sub [1, 0] rfl (v_M_forgetEntries_2 hJ hX G ((((2048 : Int32)).toInt - (0 : Int32).toInt).toNat + 1) S (0 : Int32) (Nat.lt_succ_self _) (by decide))
/-! SensorNodeModel.on -/
theorem qyX10_on : yX10_on.cls ≠ "java/lang/invoke/MethodHandle" ∧ yX10_on.cls ≠ "java/lang/invoke/VarHandle" ∧ (parseMethodDescriptor yX10_on.desc).map (fun d => d.parameters.length) = some 0 := by decide +kernel
def f_M_on_224 (S : St) (v1 v2 : Int32) : Int32 × St := (if v2 = (f_M_generation S) then bnv (st_up S 0 23 (f_M_counting S)) (fun S_1230 => (if (S_1230 0 23) = 0 then bnv (st_up S_1230 0 22 (0 : Int32)) (fun S_1233 => ((1 : Int32), S_1233)) else bnv (st_up S_1230 0 22 (1 : Int32)) (fun S_1232 => ((1 : Int32), S_1232)))) else bnv (st_up S 0 23 (-1 : Int32)) (fun S_1226 => (if (S_1226 0 23) = 0 then bnv (st_up S_1226 0 22 (0 : Int32)) (fun S_1229 => ((1 : Int32), S_1229)) else bnv (st_up S_1226 0 22 (1 : Int32)) (fun S_1228 => ((1 : Int32), S_1228)))))
set_option maxHeartbeats 4000000 in
set_option maxRecDepth 100000 in
theorem v_M_on_224 {p : Program} {l : Launch} {e : Env} {s : State} {m : MethodId} {args : Array Value} {below : List Frame} {meth : Method} {c : Code} {X : vD} (hJ : sh_J X) (hX : shp X = shM) (G : vG p s m args meth c X shM "SensorNodeModel" cX10_on 3 (some .boolean))  (S : St) (v1 v2 : Int32)   : V p l e 1 s m args below meth c X 3 (fun q : Int32 × St => ((some (.int q.1), q.2) : Option Value × St)) S 224 [(0, .ref (adr X 0)), (1, .int v1), (2, .int v2)] [] (f_M_on_224 S v1 v2) := by
  unfold f_M_on_224
  refine v_aload_n G 0 dX10_on_224 rfl ?_
  refine v_iload_n G 2 dX10_on_225 rfl ?_
  refine v_aload_n G 0 dX10_on_226 rfl ?_
  refine v_callVi G (As := []) (st := [.int v2, .ref (adr X 0)]) (c_M_generation l hJ hX S) (by decide) (by decide) (ci := 10) rfl rfl w4_230 w4_232 w0_29 w1_9 w4_233 qyX10_generation rfl (Nat.le_of_ble_eq_true rfl) dX10_on_227 ?_
  refine v_icmp_ne G (tgt := 240) dX10_on_230 (by decide) (fun c_1225 => ?_) (fun c_1225 => ?_)
  · refine v_iconst G (v := (-1 : Int32)) dX10_on_240 (by decide) ?_
    refine v_puti G (ci := 10) (T := TX10) (j := 23) inX10 rfl rfl tyX10_ok nmX10 rfl (by decide) rfl rfl rfl w4_118 dX10_on_241 (fun S_1226 eS_1226 => ?_)
    refine v_aload_n G 0 dX10_on_244 rfl ?_
    refine v_aload_n G 0 dX10_on_245 rfl ?_
    refine v_geti G (ci := 10) (T := TX10) (j := 23) inX10 rfl rfl rfl (by decide) w4_118 dX10_on_246 ?_
    refine v_if_ne G (tgt := 256) dX10_on_249 (by decide) (fun c_1227 => ?_) (fun c_1227 => ?_)
    · refine v_iconst G (v := (1 : Int32)) dX10_on_256 (by decide) ?_
      refine v_puti G (ci := 10) (T := TX10) (j := 22) inX10 rfl rfl tyX10_ok nmX10 rfl (by decide) rfl rfl rfl w4_117 dX10_on_257 (fun S_1228 eS_1228 => ?_)
      refine v_iconst G (v := (1 : Int32)) dX10_on_260 (by decide) ?_
      exact v_zret G rfl rfl rfl dX10_on_261
    · refine v_iconst G (v := (0 : Int32)) dX10_on_252 (by decide) ?_
      refine v_goto G (tgt := 257) dX10_on_253 (by decide) ?_
      refine v_puti G (ci := 10) (T := TX10) (j := 22) inX10 rfl rfl tyX10_ok nmX10 rfl (by decide) rfl rfl rfl w4_117 dX10_on_257 (fun S_1229 eS_1229 => ?_)
      refine v_iconst G (v := (1 : Int32)) dX10_on_260 (by decide) ?_
      exact v_zret G rfl rfl rfl dX10_on_261
  · refine v_aload_n G 0 dX10_on_233 rfl ?_
    refine v_callVi G (As := []) (st := [.ref (adr X 0)]) (c_M_counting l hJ hX S) (by decide) (by decide) (ci := 10) rfl rfl w5_3 w5_5 w0_32 w1_9 w5_6 qyX10_counting rfl (Nat.le_of_ble_eq_true rfl) dX10_on_234 ?_
    refine v_goto G (tgt := 241) dX10_on_237 (by decide) ?_
    refine v_puti G (ci := 10) (T := TX10) (j := 23) inX10 rfl rfl tyX10_ok nmX10 rfl (by decide) rfl rfl rfl w4_118 dX10_on_241 (fun S_1230 eS_1230 => ?_)
    refine v_aload_n G 0 dX10_on_244 rfl ?_
    refine v_aload_n G 0 dX10_on_245 rfl ?_
    refine v_geti G (ci := 10) (T := TX10) (j := 23) inX10 rfl rfl rfl (by decide) w4_118 dX10_on_246 ?_
    refine v_if_ne G (tgt := 256) dX10_on_249 (by decide) (fun c_1231 => ?_) (fun c_1231 => ?_)
    · refine v_iconst G (v := (1 : Int32)) dX10_on_256 (by decide) ?_
      refine v_puti G (ci := 10) (T := TX10) (j := 22) inX10 rfl rfl tyX10_ok nmX10 rfl (by decide) rfl rfl rfl w4_117 dX10_on_257 (fun S_1232 eS_1232 => ?_)
      refine v_iconst G (v := (1 : Int32)) dX10_on_260 (by decide) ?_
      exact v_zret G rfl rfl rfl dX10_on_261
    · refine v_iconst G (v := (0 : Int32)) dX10_on_252 (by decide) ?_
      refine v_goto G (tgt := 257) dX10_on_253 (by decide) ?_
      refine v_puti G (ci := 10) (T := TX10) (j := 22) inX10 rfl rfl tyX10_ok nmX10 rfl (by decide) rfl rfl rfl w4_117 dX10_on_257 (fun S_1233 eS_1233 => ?_)
      refine v_iconst G (v := (1 : Int32)) dX10_on_260 (by decide) ?_
      exact v_zret G rfl rfl rfl dX10_on_261
def f_M_on_142 : Nat → St → Int32 → Int32 → Int32 × St
  | 0, S, _, _ => (0, S)
  | fn + 1, S, v1, v2 => (if v2 < ((S 0 3) / (4 : Int32)) then bnv (st_up S 6 v2.toNatClampNeg (S 1 ((v1 + (36 : Int32)) + v2).toNatClampNeg)) (fun S_1149 => (f_M_on_142 fn S_1149 v1 (v2 + (1 : Int32)))) else bnv (f_M_forgetEntries S) (fun S_1144 => bnx (ush (S_1144 1 (1 : Int32).toNatClampNeg) (16 : Int32)) (fun x_1145 => (if x_1145 = (f_M_generation S_1144) then (f_M_on_224 S_1144 v1 x_1145) else (if x_1145 = (((f_M_generation S_1144) + (65535 : Int32)) &&& (65535 : Int32)) then (f_M_on_224 S_1144 v1 x_1145) else bnv (st_up S_1144 0 32 ((S_1144 0 32) + (1 : Int32))) (fun S_1148 => (f_M_on_224 S_1148 v1 x_1145)))))))
def k_M_on_142 : Nat → St → Int32 → Int32 → Prop
  | 0, _, _, _ => True
  | fn + 1, S, v1, v2 => (if v2 < ((S 0 3) / (4 : Int32)) then (vp_in ((v1 + (36 : Int32)) + v2) 6219 ∧ (vp_in v2 1024 ∧ bnv (st_up S 6 v2.toNatClampNeg (S 1 ((v1 + (36 : Int32)) + v2).toNatClampNeg)) (fun S_1149 => (k_M_on_142 fn S_1149 v1 (v2 + (1 : Int32)))))) else True)
set_option maxHeartbeats 4000000 in
set_option maxRecDepth 100000 in
theorem v_M_on_142 {p : Program} {l : Launch} {e : Env} {s : State} {m : MethodId} {args : Array Value} {below : List Frame} {meth : Method} {c : Code} {X : vD} (hJ : sh_J X) (hX : shp X = shM) (G : vG p s m args meth c X shM "SensorNodeModel" cX10_on 3 (some .boolean))  : ∀ (fuel : Nat) (S : St) (v1 v2 : Int32) , (2147483648 - v2.toInt).toNat < fuel → k_M_on_142 fuel S v1 v2 → V p l e 1 s m args below meth c X 3 (fun q : Int32 × St => ((some (.int q.1), q.2) : Option Value × St)) S 142 [(0, .ref (adr X 0)), (1, .int v1), (2, .int v2)] [] (f_M_on_142 fuel S v1 v2) := by
  intro fuel
  induction fuel with
  | zero =>
    intro S v1 v2 hm hk
    exact absurd hm (Nat.not_lt_zero _)
  | succ fn ih =>
    intro S v1 v2 hm hk
    rw [f_M_on_142]
    rw [k_M_on_142] at hk
    refine v_iload_n G 2 dX10_on_142 rfl ?_
    refine v_aload_n G 0 dX10_on_143 rfl ?_
    refine v_geti G (ci := 10) (T := TX10) (j := 3) inX10 rfl rfl rfl (by decide) w4_98 dX10_on_144 ?_
    refine v_iconst G (v := (4 : Int32)) dX10_on_147 (by decide) ?_
    refine v_idiv G dX10_on_148 (by decide) ?_
    refine v_icmp_ge G (tgt := 178) dX10_on_149 (by decide) (fun c_1143 => ?_) (fun c_1143 => ?_)
    · refine v_aload_n G 0 dX10_on_178 rfl ?_
      refine v_callVv G (As := []) (st := []) (c_M_forgetEntries l hJ hX S) (by decide) (by decide) (ci := 10) rfl rfl w4_238 w5_0 w0_31 w1_9 w5_1 qyX10_forgetEntries rfl (Nat.le_of_ble_eq_true rfl) dX10_on_179 ?_
      refine v_bnv (fun S_1144 eS_1144 => ?_)
      refine v_aload_n G 0 dX10_on_182 rfl ?_
      refine v_getr G (ci := 10) (T := TX10) (j := 11) inX10 rfl rfl rfl (by decide) w4_106 dX10_on_183 ?_
      refine v_iconst G (v := (1 : Int32)) dX10_on_186 (by decide) ?_
      refine v_iald G rfl (by unfold vp_in; decide) dX10_on_187 ?_
      refine v_bipush G (v := (16 : Int32)) dX10_on_188 (by decide) ?_
      refine v_iushr G dX10_on_190 ?_
      refine v_namei (fun x_1145 ex_1145 => ?_)
      refine v_istore_n G [(2, .int x_1145), (0, .ref (adr X 0)), (1, .int v1)] dX10_on_191 (by decide) rfl ?_
      refine v_iload_n G 0 dX10_on_192 rfl ?_
      refine v_aload_n G 1 dX10_on_193 rfl ?_
      refine v_callVi G (As := []) (st := [.int x_1145]) (c_M_generation l hJ hX S_1144) (by decide) (by decide) (ci := 10) rfl rfl w4_230 w4_232 w0_29 w1_9 w4_233 qyX10_generation rfl (Nat.le_of_ble_eq_true rfl) dX10_on_194 ?_
      refine v_icmp_eq G (tgt := 224) dX10_on_197 (by decide) (fun c_1146 => ?_) (fun c_1146 => ?_)
      · exact v_sub [1, 2, 0] rfl (v_M_on_224 hJ hX G S_1144 v1 x_1145)
      · refine v_iload_n G 0 dX10_on_200 rfl ?_
        refine v_aload_n G 1 dX10_on_201 rfl ?_
        refine v_callVi G (As := []) (st := [.int x_1145]) (c_M_generation l hJ hX S_1144) (by decide) (by decide) (ci := 10) rfl rfl w4_230 w4_232 w0_29 w1_9 w4_233 qyX10_generation rfl (Nat.le_of_ble_eq_true rfl) dX10_on_202 ?_
        refine v_ldc G (v := (65535 : Int32)) dX10_on_205 w5_2 ?_
        refine v_iadd G dX10_on_207 ?_
        refine v_ldc G (v := (65535 : Int32)) dX10_on_208 w5_2 ?_
        refine v_iand G dX10_on_210 ?_
        refine v_icmp_eq G (tgt := 224) dX10_on_211 (by decide) (fun c_1147 => ?_) (fun c_1147 => ?_)
        · exact v_sub [1, 2, 0] rfl (v_M_on_224 hJ hX G S_1144 v1 x_1145)
        · refine v_aload_n G 1 dX10_on_214 rfl ?_
          refine v_dup G dX10_on_215 rfl ?_
          refine v_geti G (ci := 10) (T := TX10) (j := 32) inX10 rfl rfl rfl (by decide) w4_127 dX10_on_216 ?_
          refine v_iconst G (v := (1 : Int32)) dX10_on_219 (by decide) ?_
          refine v_iadd G dX10_on_220 ?_
          refine v_puti G (ci := 10) (T := TX10) (j := 32) inX10 rfl rfl tyX10_ok nmX10 rfl (by decide) rfl rfl rfl w4_127 dX10_on_221 (fun S_1148 eS_1148 => ?_)
          exact v_sub [1, 2, 0] rfl (v_M_on_224 hJ hX G S_1148 v1 x_1145)
    · have hk := ok_t c_1143 hk
      refine v_aload_n G 0 dX10_on_152 rfl ?_
      refine v_getr G (ci := 10) (T := TX10) (j := 14) inX10 rfl rfl rfl (by decide) w4_109 dX10_on_153 ?_
      refine v_getr G (ci := 9) (T := TX9) (j := 5) inX9 rfl rfl rfl (by decide) w3_239 dX10_on_156 ?_
      refine v_iload_n G 2 dX10_on_159 rfl ?_
      refine v_aload_n G 0 dX10_on_160 rfl ?_
      refine v_getr G (ci := 10) (T := TX10) (j := 11) inX10 rfl rfl rfl (by decide) w4_106 dX10_on_161 ?_
      refine v_iload_n G 1 dX10_on_164 rfl ?_
      refine v_bipush G (v := (36 : Int32)) dX10_on_165 (by decide) ?_
      refine v_iadd G dX10_on_167 ?_
      refine v_iload_n G 2 dX10_on_168 rfl ?_
      refine v_iadd G dX10_on_169 ?_
      refine v_iald G rfl hk.1 dX10_on_170 ?_
      have hk := hk.2
      refine v_iast G rfl hk.1 dX10_on_171 (fun S_1149 eS_1149 => ?_)
      have hk := hk.2
      have hk := ok_v eS_1149 hk
      refine v_iinc G (v := v2 + (1 : Int32)) 2 [(2, .int (v2 + (1 : Int32))), (0, .ref (adr X 0)), (1, .int v1)] dX10_on_172 rfl rfl (by decide) rfl ?_
      refine v_goto G (tgt := 142) dX10_on_175 (by decide) ?_
      exact v_sub [1, 2, 0] rfl (ih S_1149 v1 (v2 + (1 : Int32)) (lp_m31 (by assumption) hm) hk)
def f_M_on_47 : Nat → St → Int32 → Int32 → Int32 × St
  | 0, S, _, _ => (0, S)
  | fn + 1, S, v1, v2 => (if v2 < (32 : Int32) then bnv (st_up S 5 v2.toNatClampNeg (S 1 (v1 + v2).toNatClampNeg)) (fun S_1053 => (f_M_on_47 fn S_1053 v1 (v2 + (1 : Int32)))) else bnv (st_up S 4 1 (S 1 (v1 + (32 : Int32)).toNatClampNeg)) (fun S_1049 => bnv (st_up S_1049 4 2 (S_1049 1 (v1 + (33 : Int32)).toNatClampNeg)) (fun S_1050 => bnv (st_up S_1050 4 3 (S_1050 1 (v1 + (34 : Int32)).toNatClampNeg)) (fun S_1051 => bnv (st_up S_1051 4 4 (S_1051 1 (v1 + (35 : Int32)).toNatClampNeg)) (fun S_1052 => (f_M_on_142 fu31 S_1052 v1 (0 : Int32)))))))
def k_M_on_47 : Nat → St → Int32 → Int32 → Prop
  | 0, _, _, _ => True
  | fn + 1, S, v1, v2 => (if v2 < (32 : Int32) then (vp_in (v1 + v2) 6219 ∧ bnv (st_up S 5 v2.toNatClampNeg (S 1 (v1 + v2).toNatClampNeg)) (fun S_1053 => (k_M_on_47 fn S_1053 v1 (v2 + (1 : Int32))))) else (vp_in (v1 + (32 : Int32)) 6219 ∧ bnv (st_up S 4 1 (S 1 (v1 + (32 : Int32)).toNatClampNeg)) (fun S_1049 => (vp_in (v1 + (33 : Int32)) 6219 ∧ bnv (st_up S_1049 4 2 (S_1049 1 (v1 + (33 : Int32)).toNatClampNeg)) (fun S_1050 => (vp_in (v1 + (34 : Int32)) 6219 ∧ bnv (st_up S_1050 4 3 (S_1050 1 (v1 + (34 : Int32)).toNatClampNeg)) (fun S_1051 => (vp_in (v1 + (35 : Int32)) 6219 ∧ bnv (st_up S_1051 4 4 (S_1051 1 (v1 + (35 : Int32)).toNatClampNeg)) (fun S_1052 => (k_M_on_142 fu31 S_1052 v1 (0 : Int32)))))))))))
set_option maxHeartbeats 4000000 in
set_option maxRecDepth 100000 in
theorem v_M_on_47 {p : Program} {l : Launch} {e : Env} {s : State} {m : MethodId} {args : Array Value} {below : List Frame} {meth : Method} {c : Code} {X : vD} (hJ : sh_J X) (hX : shp X = shM) (G : vG p s m args meth c X shM "SensorNodeModel" cX10_on 3 (some .boolean))  : ∀ (fuel : Nat) (S : St) (v1 v2 : Int32) , (((32 : Int32)).toInt - v2.toInt).toNat < fuel → ¬ v2 < 0 → k_M_on_47 fuel S v1 v2 → V p l e 1 s m args below meth c X 3 (fun q : Int32 × St => ((some (.int q.1), q.2) : Option Value × St)) S 47 [(0, .ref (adr X 0)), (1, .int v1), (2, .int v2)] [] (f_M_on_47 fuel S v1 v2) := by
  intro fuel
  induction fuel with
  | zero =>
    intro S v1 v2 hm hi hk
    exact absurd hm (Nat.not_lt_zero _)
  | succ fn ih =>
    intro S v1 v2 hm hi hk
    rw [f_M_on_47]
    rw [k_M_on_47] at hk
    refine v_iload_n G 2 dX10_on_47 rfl ?_
    refine v_bipush G (v := (32 : Int32)) dX10_on_48 (by decide) ?_
    refine v_icmp_ge G (tgt := 76) dX10_on_50 (by decide) (fun c_1048 => ?_) (fun c_1048 => ?_)
    · have hk := ok_f c_1048 hk
      refine v_aload_n G 0 dX10_on_76 rfl ?_
      refine v_getr G (ci := 10) (T := TX10) (j := 14) inX10 rfl rfl rfl (by decide) w4_109 dX10_on_77 ?_
      refine v_aload_n G 0 dX10_on_80 rfl ?_
      refine v_getr G (ci := 10) (T := TX10) (j := 11) inX10 rfl rfl rfl (by decide) w4_106 dX10_on_81 ?_
      refine v_iload_n G 1 dX10_on_84 rfl ?_
      refine v_bipush G (v := (32 : Int32)) dX10_on_85 (by decide) ?_
      refine v_iadd G dX10_on_87 ?_
      refine v_iald G rfl hk.1 dX10_on_88 ?_
      have hk := hk.2
      refine v_puti G (ci := 9) (T := TX9) (j := 1) inX9 rfl rfl tyX9_ok nmX9 rfl (by decide) rfl rfl rfl w3_231 dX10_on_89 (fun S_1049 eS_1049 => ?_)
      have hk := ok_v eS_1049 hk
      refine v_aload_n G 0 dX10_on_92 rfl ?_
      refine v_getr G (ci := 10) (T := TX10) (j := 14) inX10 rfl rfl rfl (by decide) w4_109 dX10_on_93 ?_
      refine v_aload_n G 0 dX10_on_96 rfl ?_
      refine v_getr G (ci := 10) (T := TX10) (j := 11) inX10 rfl rfl rfl (by decide) w4_106 dX10_on_97 ?_
      refine v_iload_n G 1 dX10_on_100 rfl ?_
      refine v_bipush G (v := (33 : Int32)) dX10_on_101 (by decide) ?_
      refine v_iadd G dX10_on_103 ?_
      refine v_iald G rfl hk.1 dX10_on_104 ?_
      have hk := hk.2
      refine v_puti G (ci := 9) (T := TX9) (j := 2) inX9 rfl rfl tyX9_ok nmX9 rfl (by decide) rfl rfl rfl w3_233 dX10_on_105 (fun S_1050 eS_1050 => ?_)
      have hk := ok_v eS_1050 hk
      refine v_aload_n G 0 dX10_on_108 rfl ?_
      refine v_getr G (ci := 10) (T := TX10) (j := 14) inX10 rfl rfl rfl (by decide) w4_109 dX10_on_109 ?_
      refine v_aload_n G 0 dX10_on_112 rfl ?_
      refine v_getr G (ci := 10) (T := TX10) (j := 11) inX10 rfl rfl rfl (by decide) w4_106 dX10_on_113 ?_
      refine v_iload_n G 1 dX10_on_116 rfl ?_
      refine v_bipush G (v := (34 : Int32)) dX10_on_117 (by decide) ?_
      refine v_iadd G dX10_on_119 ?_
      refine v_iald G rfl hk.1 dX10_on_120 ?_
      have hk := hk.2
      refine v_puti G (ci := 9) (T := TX9) (j := 3) inX9 rfl rfl tyX9_ok nmX9 rfl (by decide) rfl rfl rfl w3_235 dX10_on_121 (fun S_1051 eS_1051 => ?_)
      have hk := ok_v eS_1051 hk
      refine v_aload_n G 0 dX10_on_124 rfl ?_
      refine v_getr G (ci := 10) (T := TX10) (j := 14) inX10 rfl rfl rfl (by decide) w4_109 dX10_on_125 ?_
      refine v_aload_n G 0 dX10_on_128 rfl ?_
      refine v_getr G (ci := 10) (T := TX10) (j := 11) inX10 rfl rfl rfl (by decide) w4_106 dX10_on_129 ?_
      refine v_iload_n G 1 dX10_on_132 rfl ?_
      refine v_bipush G (v := (35 : Int32)) dX10_on_133 (by decide) ?_
      refine v_iadd G dX10_on_135 ?_
      refine v_iald G rfl hk.1 dX10_on_136 ?_
      have hk := hk.2
      refine v_puti G (ci := 9) (T := TX9) (j := 4) inX9 rfl rfl tyX9_ok nmX9 rfl (by decide) rfl rfl rfl w3_237 dX10_on_137 (fun S_1052 eS_1052 => ?_)
      have hk := ok_v eS_1052 hk
      refine v_iconst G (v := (0 : Int32)) dX10_on_140 (by decide) ?_
      refine v_istore_n G [(2, .int (0 : Int32)), (0, .ref (adr X 0)), (1, .int v1)] dX10_on_141 (by decide) rfl ?_
      exact v_sub [1, 2, 0] rfl (v_M_on_142 hJ hX G fu31 S_1052 v1 (0 : Int32) lp_31 hk)
    · have hk := ok_t c_1048 hk
      refine v_aload_n G 0 dX10_on_53 rfl ?_
      refine v_getr G (ci := 10) (T := TX10) (j := 14) inX10 rfl rfl rfl (by decide) w4_109 dX10_on_54 ?_
      refine v_getr G (ci := 9) (T := TX9) (j := 0) inX9 rfl rfl rfl (by decide) w3_229 dX10_on_57 ?_
      refine v_iload_n G 2 dX10_on_60 rfl ?_
      refine v_aload_n G 0 dX10_on_61 rfl ?_
      refine v_getr G (ci := 10) (T := TX10) (j := 11) inX10 rfl rfl rfl (by decide) w4_106 dX10_on_62 ?_
      refine v_iload_n G 1 dX10_on_65 rfl ?_
      refine v_iload_n G 2 dX10_on_66 rfl ?_
      refine v_iadd G dX10_on_67 ?_
      refine v_iald G rfl hk.1 dX10_on_68 ?_
      have hk := hk.2
      refine v_iast G rfl (vi_br hi (by assumption) (by decide)) dX10_on_69 (fun S_1053 eS_1053 => ?_)
      have hk := ok_v eS_1053 hk
      refine v_iinc G (v := v2 + (1 : Int32)) 2 [(2, .int (v2 + (1 : Int32))), (0, .ref (adr X 0)), (1, .int v1)] dX10_on_70 rfl rfl (by decide) rfl ?_
      refine v_goto G (tgt := 47) dX10_on_73 (by decide) ?_
      exact v_sub [1, 2, 0] rfl (ih S_1053 v1 (v2 + (1 : Int32)) (lp_m (by assumption) hm) (lp_nn (by assumption) hi) hk)
def f_M_on (S : St) : Int32 × St := (if (S 0 0) = 0 then ((0 : Int32), S) else (if (S 0 2) = 0 then bnv (st_up S 0 2 (1 : Int32)) (fun S_3 => bnv (st_up S_3 0 1 (1 : Int32)) (fun S_4 => bnv (st_up S_4 0 21 (0 : Int32)) (fun S_5 => bnv (st_up S_5 0 20 (0 : Int32)) (fun S_6 => bnx (f_M_bufferAt S_6 (f_M_generation S_6)) (fun x_7 => (f_M_on_47 ((((32 : Int32)).toInt - (0 : Int32).toInt).toNat + 1) S_6 x_7 (0 : Int32))))))) else ((0 : Int32), S)))
def k_M_on (S : St) : Prop := (if (S 0 0) = 0 then True else (if (S 0 2) = 0 then bnv (st_up S 0 2 (1 : Int32)) (fun S_3 => bnv (st_up S_3 0 1 (1 : Int32)) (fun S_4 => bnv (st_up S_4 0 21 (0 : Int32)) (fun S_5 => bnv (st_up S_5 0 20 (0 : Int32)) (fun S_6 => bnx (f_M_bufferAt S_6 (f_M_generation S_6)) (fun x_7 => (k_M_on_47 ((((32 : Int32)).toInt - (0 : Int32).toInt).toNat + 1) S_6 x_7 (0 : Int32))))))) else True))
set_option maxHeartbeats 4000000 in
set_option maxRecDepth 100000 in
theorem c_M_on (l : Launch) {X : vD} (hJ : sh_J X) (hX : shp X = shM)  (S : St) (hk : k_M_on S) : Con l X yX10_on cX10_on 3 (some .boolean) 1 [.ref (adr X 0)] S (some (.int (f_M_on S).1), (f_M_on S).2) := by
  refine con_of (ρ := (fun q : Int32 × St => ((some (.int q.1), q.2) : Option Value × St))) (K := f_M_on S) hJ hX (by decide) (Nat.le_of_ble_eq_true rfl) (lv := [(0, .ref (adr X 0))]) rfl ?_
  intro p e s m below meth c G
  have G : vG p s m _ meth c X shM "SensorNodeModel" cX10_on 3 (some .boolean) := G
  unfold f_M_on
  unfold k_M_on at hk
  refine v_aload_n G 0 dX10_on_0 rfl ?_
  refine v_geti G (ci := 10) (T := TX10) (j := 0) inX10 rfl rfl rfl (by decide) w4_95 dX10_on_1 ?_
  refine v_if_eq G (tgt := 14) dX10_on_4 (by decide) (fun c_1 => ?_) (fun c_1 => ?_)
  · refine v_iconst G (v := (0 : Int32)) dX10_on_14 (by decide) ?_
    exact v_zret G rfl rfl rfl dX10_on_15
  · have hk := ok_f c_1 hk
    refine v_aload_n G 0 dX10_on_7 rfl ?_
    refine v_geti G (ci := 10) (T := TX10) (j := 2) inX10 rfl rfl rfl (by decide) w4_97 dX10_on_8 ?_
    refine v_if_eq G (tgt := 16) dX10_on_11 (by decide) (fun c_2 => ?_) (fun c_2 => ?_)
    · have hk := ok_t c_2 hk
      refine v_aload_n G 0 dX10_on_16 rfl ?_
      refine v_iconst G (v := (1 : Int32)) dX10_on_17 (by decide) ?_
      refine v_puti G (ci := 10) (T := TX10) (j := 2) inX10 rfl rfl tyX10_ok nmX10 rfl (by decide) rfl rfl rfl w4_97 dX10_on_18 (fun S_3 eS_3 => ?_)
      have hk := ok_v eS_3 hk
      refine v_aload_n G 0 dX10_on_21 rfl ?_
      refine v_iconst G (v := (1 : Int32)) dX10_on_22 (by decide) ?_
      refine v_puti G (ci := 10) (T := TX10) (j := 1) inX10 rfl rfl tyX10_ok nmX10 rfl (by decide) rfl rfl rfl w4_96 dX10_on_23 (fun S_4 eS_4 => ?_)
      have hk := ok_v eS_4 hk
      refine v_aload_n G 0 dX10_on_26 rfl ?_
      refine v_iconst G (v := (0 : Int32)) dX10_on_27 (by decide) ?_
      refine v_puti G (ci := 10) (T := TX10) (j := 21) inX10 rfl rfl tyX10_ok nmX10 rfl (by decide) rfl rfl rfl w4_116 dX10_on_28 (fun S_5 eS_5 => ?_)
      have hk := ok_v eS_5 hk
      refine v_aload_n G 0 dX10_on_31 rfl ?_
      refine v_iconst G (v := (0 : Int32)) dX10_on_32 (by decide) ?_
      refine v_puti G (ci := 10) (T := TX10) (j := 20) inX10 rfl rfl tyX10_ok nmX10 rfl (by decide) rfl rfl rfl w4_115 dX10_on_33 (fun S_6 eS_6 => ?_)
      have hk := ok_v eS_6 hk
      refine v_aload_n G 0 dX10_on_36 rfl ?_
      refine v_aload_n G 0 dX10_on_37 rfl ?_
      refine v_callVi G (As := []) (st := [.ref (adr X 0)]) (c_M_generation l hJ hX S_6) (by decide) (by decide) (ci := 10) rfl rfl w4_230 w4_232 w0_29 w1_9 w4_233 qyX10_generation rfl (Nat.le_of_ble_eq_true rfl) dX10_on_38 ?_
      refine v_callVi G (As := [.int (f_M_generation S_6)]) (st := []) (c_M_bufferAt l hJ hX S_6 (f_M_generation S_6)) (by decide) (by decide) (ci := 10) rfl rfl w4_234 w4_236 w0_30 w1_9 w4_237 qyX10_bufferAt rfl (Nat.le_of_ble_eq_true rfl) dX10_on_41 ?_
      refine v_namei (fun x_7 ex_7 => ?_)
      have hk := ok_x ex_7 hk
      refine v_istore_n G [(1, .int x_7), (0, .ref (adr X 0))] dX10_on_44 (by decide) rfl ?_
      refine v_iconst G (v := (0 : Int32)) dX10_on_45 (by decide) ?_
      refine v_istore_n G [(2, .int (0 : Int32)), (1, .int x_7), (0, .ref (adr X 0))] dX10_on_46 (by decide) rfl ?_
      exact v_sub [2, 1, 0] rfl (v_M_on_47 hJ hX G ((((32 : Int32)).toInt - (0 : Int32).toInt).toNat + 1) S_6 x_7 (0 : Int32) (Nat.lt_succ_self _) (by decide) hk)
    · refine v_iconst G (v := (0 : Int32)) dX10_on_14 (by decide) ?_
      exact v_zret G rfl rfl rfl dX10_on_15
/-! SensorNodeModel.cut -/
theorem qyX10_cut : yX10_cut.cls ≠ "java/lang/invoke/MethodHandle" ∧ yX10_cut.cls ≠ "java/lang/invoke/VarHandle" ∧ (parseMethodDescriptor yX10_cut.desc).map (fun d => d.parameters.length) = some 0 := by decide +kernel
def f_M_cut (S : St) : Int32 × St := (if (S 0 2) = 0 then ((0 : Int32), S) else bnv (st_up S 0 2 (0 : Int32)) (fun S_2 => bnv (st_up S_2 0 30 ((S_2 0 30) + (1 : Int32))) (fun S_3 => bnv (st_up S_3 0 27 ((S_3 0 27) + (S_3 0 20))) (fun S_4 => bnv (st_up S_4 0 20 (0 : Int32)) (fun S_5 => bnv (st_up S_5 0 21 (0 : Int32)) (fun S_6 => bnv (st_up S_6 0 22 (0 : Int32)) (fun S_7 => ((1 : Int32), S_7))))))))
set_option maxHeartbeats 4000000 in
set_option maxRecDepth 100000 in
theorem c_M_cut (l : Launch) {X : vD} (hJ : sh_J X) (hX : shp X = shM)  (S : St)  : Con l X yX10_cut cX10_cut 1 (some .boolean) 0 [.ref (adr X 0)] S (some (.int (f_M_cut S).1), (f_M_cut S).2) := by
  refine con_of (ρ := (fun q : Int32 × St => ((some (.int q.1), q.2) : Option Value × St))) (K := f_M_cut S) hJ hX (by decide) (Nat.le_of_ble_eq_true rfl) (lv := [(0, .ref (adr X 0))]) rfl ?_
  intro p e s m below meth c G
  have G : vG p s m _ meth c X shM "SensorNodeModel" cX10_cut 1 (some .boolean) := G
  unfold f_M_cut
  refine v_aload_n G 0 dX10_cut_0 rfl ?_
  refine v_geti G (ci := 10) (T := TX10) (j := 2) inX10 rfl rfl rfl (by decide) w4_97 dX10_cut_1 ?_
  refine v_if_ne G (tgt := 9) dX10_cut_4 (by decide) (fun c_1 => ?_) (fun c_1 => ?_)
  · refine v_aload_n G 0 dX10_cut_9 rfl ?_
    refine v_iconst G (v := (0 : Int32)) dX10_cut_10 (by decide) ?_
    refine v_puti G (ci := 10) (T := TX10) (j := 2) inX10 rfl rfl tyX10_ok nmX10 rfl (by decide) rfl rfl rfl w4_97 dX10_cut_11 (fun S_2 eS_2 => ?_)
    refine v_aload_n G 0 dX10_cut_14 rfl ?_
    refine v_dup G dX10_cut_15 rfl ?_
    refine v_geti G (ci := 10) (T := TX10) (j := 30) inX10 rfl rfl rfl (by decide) w4_125 dX10_cut_16 ?_
    refine v_iconst G (v := (1 : Int32)) dX10_cut_19 (by decide) ?_
    refine v_iadd G dX10_cut_20 ?_
    refine v_puti G (ci := 10) (T := TX10) (j := 30) inX10 rfl rfl tyX10_ok nmX10 rfl (by decide) rfl rfl rfl w4_125 dX10_cut_21 (fun S_3 eS_3 => ?_)
    refine v_aload_n G 0 dX10_cut_24 rfl ?_
    refine v_dup G dX10_cut_25 rfl ?_
    refine v_geti G (ci := 10) (T := TX10) (j := 27) inX10 rfl rfl rfl (by decide) w4_122 dX10_cut_26 ?_
    refine v_aload_n G 0 dX10_cut_29 rfl ?_
    refine v_geti G (ci := 10) (T := TX10) (j := 20) inX10 rfl rfl rfl (by decide) w4_115 dX10_cut_30 ?_
    refine v_iadd G dX10_cut_33 ?_
    refine v_puti G (ci := 10) (T := TX10) (j := 27) inX10 rfl rfl tyX10_ok nmX10 rfl (by decide) rfl rfl rfl w4_122 dX10_cut_34 (fun S_4 eS_4 => ?_)
    refine v_aload_n G 0 dX10_cut_37 rfl ?_
    refine v_iconst G (v := (0 : Int32)) dX10_cut_38 (by decide) ?_
    refine v_puti G (ci := 10) (T := TX10) (j := 20) inX10 rfl rfl tyX10_ok nmX10 rfl (by decide) rfl rfl rfl w4_115 dX10_cut_39 (fun S_5 eS_5 => ?_)
    refine v_aload_n G 0 dX10_cut_42 rfl ?_
    refine v_iconst G (v := (0 : Int32)) dX10_cut_43 (by decide) ?_
    refine v_puti G (ci := 10) (T := TX10) (j := 21) inX10 rfl rfl tyX10_ok nmX10 rfl (by decide) rfl rfl rfl w4_116 dX10_cut_44 (fun S_6 eS_6 => ?_)
    refine v_aload_n G 0 dX10_cut_47 rfl ?_
    refine v_iconst G (v := (0 : Int32)) dX10_cut_48 (by decide) ?_
    refine v_puti G (ci := 10) (T := TX10) (j := 22) inX10 rfl rfl tyX10_ok nmX10 rfl (by decide) rfl rfl rfl w4_117 dX10_cut_49 (fun S_7 eS_7 => ?_)
    refine v_iconst G (v := (1 : Int32)) dX10_cut_52 (by decide) ?_
    exact v_zret G rfl rfl rfl dX10_cut_53
  · refine v_iconst G (v := (0 : Int32)) dX10_cut_7 (by decide) ?_
    exact v_zret G rfl rfl rfl dX10_cut_8
/-! SensorNodeModel.write -/
theorem qyX10_write : yX10_write.cls ≠ "java/lang/invoke/MethodHandle" ∧ yX10_write.cls ≠ "java/lang/invoke/VarHandle" ∧ (parseMethodDescriptor yX10_write.desc).map (fun d => d.parameters.length) = some 2 := by decide +kernel
def f_M_write (S : St) (a1 : Int32) (a2 : Int32) : St := bnv (st_up S 1 a1.toNatClampNeg a2) (fun S_1 => bnv (st_up S_1 0 26 ((S_1 0 26) + (1 : Int32))) (fun S_2 => S_2))
def k_M_write (S : St) (a1 : Int32) (a2 : Int32) : Prop := vp_in a1 6219
set_option maxHeartbeats 4000000 in
set_option maxRecDepth 100000 in
theorem c_M_write (l : Launch) {X : vD} (hJ : sh_J X) (hX : shp X = shM)  (S : St) (a1 : Int32) (a2 : Int32) (hk : k_M_write S a1 a2) : Con l X yX10_write cX10_write 3 none 0 [.ref (adr X 0), .int a1, .int a2] S (none, f_M_write S a1 a2) := by
  refine con_of (ρ := (fun S : St => ((none, S) : Option Value × St))) (K := f_M_write S a1 a2) hJ hX (by decide) (Nat.le_of_ble_eq_true rfl) (lv := [(0, .ref (adr X 0)), (1, .int a1), (2, .int a2)]) rfl ?_
  intro p e s m below meth c G
  have G : vG p s m _ meth c X shM "SensorNodeModel" cX10_write 3 none := G
  unfold f_M_write
  unfold k_M_write at hk
  refine v_aload_n G 0 dX10_write_0 rfl ?_
  refine v_getr G (ci := 10) (T := TX10) (j := 11) inX10 rfl rfl rfl (by decide) w4_106 dX10_write_1 ?_
  refine v_iload_n G 1 dX10_write_4 rfl ?_
  refine v_iload_n G 2 dX10_write_5 rfl ?_
  refine v_iast G rfl hk dX10_write_6 (fun S_1 eS_1 => ?_)
  refine v_aload_n G 0 dX10_write_7 rfl ?_
  refine v_dup G dX10_write_8 rfl ?_
  refine v_geti G (ci := 10) (T := TX10) (j := 26) inX10 rfl rfl rfl (by decide) w4_121 dX10_write_9 ?_
  refine v_iconst G (v := (1 : Int32)) dX10_write_12 (by decide) ?_
  refine v_iadd G dX10_write_13 ?_
  refine v_puti G (ci := 10) (T := TX10) (j := 26) inX10 rfl rfl tyX10_ok nmX10 rfl (by decide) rfl rfl rfl w4_121 dX10_write_14 (fun S_2 eS_2 => ?_)
  exact v_vret G rfl rfl dX10_write_17

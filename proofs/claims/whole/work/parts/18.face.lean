/-! SensorNode.feed -/
theorem qyX7_feed : yX7_feed.cls ≠ "java/lang/invoke/MethodHandle" ∧ yX7_feed.cls ≠ "java/lang/invoke/VarHandle" ∧ (parseMethodDescriptor yX7_feed.desc).map (fun d => d.parameters.length) = some 5 := by decide +kernel
noncomputable def f_S_feed (S : St) (a1 : Int32) (a2 : Int32) (a3 : Int32) (a4 : Int32) (a5 : Int32) : Int32 × St := (if (f_T_hasRoom S) = 0 then ((-1 : Int32), S) else bnv (f_T_add S a1) (fun S_2 => bnv (f_T_add S_2 a2) (fun S_3 => bnv (f_T_add S_3 a3) (fun S_4 => bnv (f_T_add S_4 a4) (fun S_5 => bnv (f_T_add S_5 a5) (fun S_6 => (f_T_size S_6, S_6)))))))
set_option linter.unusedVariables false in
set_option maxHeartbeats 4000000 in
set_option maxRecDepth 100000 in
theorem c_S_feed (l : Launch) {X : vD} (hJ : sh_J X) (hX : shp X = shX)  (S : St) (a1 : Int32) (a2 : Int32) (a3 : Int32) (a4 : Int32) (a5 : Int32)  : Con l X yX7_feed cX7_feed 6 (some .int) 2 [.ref (adr X 0), .int a1, .int a2, .int a3, .int a4, .int a5] S (some (.int (f_S_feed S a1 a2 a3 a4 a5).1), (f_S_feed S a1 a2 a3 a4 a5).2) := by
  refine con_of (ρ := (fun q : Int32 × St => ((some (.int q.1), q.2) : Option Value × St))) (K := f_S_feed S a1 a2 a3 a4 a5) hJ hX (by decide) (Nat.le_of_ble_eq_true rfl) (lv := [(0, .ref (adr X 0)), (1, .int a1), (2, .int a2), (3, .int a3), (4, .int a4), (5, .int a5)]) rfl ?_
  intro p e s m below meth c G
  generalize hρ0 : (fun q : Int32 × St => ((some (.int q.1), q.2) : Option Value × St)) = ρ
  have hρ : ∀ q : Int32 × St, ρ q = ((some (.int q.1), q.2) : Option Value × St) := fun q => by rw [← hρ0]
  have G : vG p s m _ meth c X shX "SensorNode" cX7_feed 6 (some .int) := G
  unfold f_S_feed
  refine v_aload_n G 0 dX7_feed_0 rfl ?_
  refine v_getr G (ci := 7) (T := TX7) (j := 0) inX7 rfl rfl rfl (by decide) w1_234 dX7_feed_1 ?_
  refine v_callVi G (As := []) (st := []) (c_T_hasRoom l hJ hX S) (by decide) (by decide) (ci := 6) rfl rfl w2_11 w2_12 w2_13 w1_3 w2_14 qyX6_hasRoom rfl (Nat.le_of_ble_eq_true rfl) dX7_feed_4 ?_
  refine v_if_ne G (tgt := 12) dX7_feed_7 (by decide) (fun c_1 => ?_) (fun c_1 => ?_)
  · refine v_aload_n G 0 dX7_feed_12 rfl ?_
    refine v_getr G (ci := 7) (T := TX7) (j := 0) inX7 rfl rfl rfl (by decide) w1_234 dX7_feed_13 ?_
    refine v_iload_n G 1 dX7_feed_16 rfl ?_
    refine v_callVv G (As := [.int a1]) (st := []) (c_T_add l hJ hX S a1) (by decide) (by decide) (ci := 6) rfl rfl w2_16 w2_17 w2_18 w1_3 w2_19 qyX6_add rfl (Nat.le_of_ble_eq_true rfl) dX7_feed_17 ?_
    refine v_bnv (fun S_2 eS_2 => ?_)
    refine v_aload_n G 0 dX7_feed_20 rfl ?_
    refine v_getr G (ci := 7) (T := TX7) (j := 0) inX7 rfl rfl rfl (by decide) w1_234 dX7_feed_21 ?_
    refine v_iload_n G 2 dX7_feed_24 rfl ?_
    refine v_callVv G (As := [.int a2]) (st := []) (c_T_add l hJ hX S_2 a2) (by decide) (by decide) (ci := 6) rfl rfl w2_16 w2_17 w2_18 w1_3 w2_19 qyX6_add rfl (Nat.le_of_ble_eq_true rfl) dX7_feed_25 ?_
    refine v_bnv (fun S_3 eS_3 => ?_)
    refine v_aload_n G 0 dX7_feed_28 rfl ?_
    refine v_getr G (ci := 7) (T := TX7) (j := 0) inX7 rfl rfl rfl (by decide) w1_234 dX7_feed_29 ?_
    refine v_iload_n G 3 dX7_feed_32 rfl ?_
    refine v_callVv G (As := [.int a3]) (st := []) (c_T_add l hJ hX S_3 a3) (by decide) (by decide) (ci := 6) rfl rfl w2_16 w2_17 w2_18 w1_3 w2_19 qyX6_add rfl (Nat.le_of_ble_eq_true rfl) dX7_feed_33 ?_
    refine v_bnv (fun S_4 eS_4 => ?_)
    refine v_aload_n G 0 dX7_feed_36 rfl ?_
    refine v_getr G (ci := 7) (T := TX7) (j := 0) inX7 rfl rfl rfl (by decide) w1_234 dX7_feed_37 ?_
    refine v_iload G 4 dX7_feed_40 rfl ?_
    refine v_callVv G (As := [.int a4]) (st := []) (c_T_add l hJ hX S_4 a4) (by decide) (by decide) (ci := 6) rfl rfl w2_16 w2_17 w2_18 w1_3 w2_19 qyX6_add rfl (Nat.le_of_ble_eq_true rfl) dX7_feed_42 ?_
    refine v_bnv (fun S_5 eS_5 => ?_)
    refine v_aload_n G 0 dX7_feed_45 rfl ?_
    refine v_getr G (ci := 7) (T := TX7) (j := 0) inX7 rfl rfl rfl (by decide) w1_234 dX7_feed_46 ?_
    refine v_iload G 5 dX7_feed_49 rfl ?_
    refine v_callVv G (As := [.int a5]) (st := []) (c_T_add l hJ hX S_5 a5) (by decide) (by decide) (ci := 6) rfl rfl w2_16 w2_17 w2_18 w1_3 w2_19 qyX6_add rfl (Nat.le_of_ble_eq_true rfl) dX7_feed_51 ?_
    refine v_bnv (fun S_6 eS_6 => ?_)
    refine v_aload_n G 0 dX7_feed_54 rfl ?_
    refine v_getr G (ci := 7) (T := TX7) (j := 0) inX7 rfl rfl rfl (by decide) w1_234 dX7_feed_55 ?_
    refine v_callVi G (As := []) (st := []) (c_T_size l hJ hX S_6) (by decide) (by decide) (ci := 6) rfl rfl w2_24 w2_25 w2_26 w1_3 w2_27 qyX6_size rfl (Nat.le_of_ble_eq_true rfl) dX7_feed_58 ?_
    exact v_iret G rfl (hρ _) dX7_feed_61
  · refine v_iconst G (v := (-1 : Int32)) dX7_feed_10 (by decide) ?_
    exact v_iret G rfl (hρ _) dX7_feed_11
/-! SensorNode.end -/
theorem z01 {r : Int32} (h : r = 0 ∨ r = 1) : narrow .boolean (.int r) = .int r := by
  rcases h with rfl | rfl <;> rfl
theorem nb_T_shorten {S S1 : St} {a r : Int32} (h : f_T_shorten S a = (r, S1)) : narrow .boolean (.int r) = .int r := by
  have e : r = (f_T_shorten S a).1 := by rw [h]
  apply z01
  rw [e]
  unfold f_T_shorten
  split
  · exact Or.inl rfl
  split
  · exact Or.inl rfl
  · exact Or.inr rfl
theorem gp46 : ∀ (fuel : Nat) (S : St) (v1 v2 : Int32), (f_N_givePower_46 fuel S v1 v2).1 = 0 ∨ (f_N_givePower_46 fuel S v1 v2).1 = 1 := by
  intro fuel
  induction fuel with
  | zero => intro S v1 v2; exact Or.inl rfl
  | succ fn ih =>
    intro S v1 v2
    rw [f_N_givePower_46]
    split
    · exact ih _ _ _
    · exact Or.inr rfl
theorem nb_N_givePower {S S1 : St} {r : Int32} (h : f_N_givePower S = (r, S1)) : narrow .boolean (.int r) = .int r := by
  have e : r = (f_N_givePower S).1 := by rw [h]
  apply z01
  rw [e]
  unfold f_N_givePower
  split
  · exact gp46 _ _ _ _
  · exact Or.inl rfl
theorem nb_N_cutPower {S S1 : St} {r : Int32} (h : f_N_cutPower S = (r, S1)) : narrow .boolean (.int r) = .int r := by
  have e : r = (f_N_cutPower S).1 := by rw [h]
  apply z01
  rw [e]
  unfold f_N_cutPower
  split
  · exact Or.inl rfl
  · exact Or.inr rfl
theorem qyX7_end : yX7_end.cls ≠ "java/lang/invoke/MethodHandle" ∧ yX7_end.cls ≠ "java/lang/invoke/VarHandle" ∧ (parseMethodDescriptor yX7_end.desc).map (fun d => d.parameters.length) = some 1 := by decide +kernel
noncomputable def f_S_end (S : St) (a1 : Int32) : Int32 × St := bnd (f_T_shorten S a1) (fun r_2 S_1 => (r_2, S_1))
set_option linter.unusedVariables false in
set_option maxHeartbeats 4000000 in
set_option maxRecDepth 100000 in
theorem c_S_end (l : Launch) {X : vD} (hJ : sh_J X) (hX : shp X = shX)  (S : St) (a1 : Int32)  : Con l X yX7_end cX7_end 2 (some .boolean) 1 [.ref (adr X 0), .int a1] S (some (.int (f_S_end S a1).1), (f_S_end S a1).2) := by
  refine con_of (ρ := (fun q : Int32 × St => ((some (.int q.1), q.2) : Option Value × St))) (K := f_S_end S a1) hJ hX (by decide) (Nat.le_of_ble_eq_true rfl) (lv := [(0, .ref (adr X 0)), (1, .int a1)]) rfl ?_
  intro p e s m below meth c G
  generalize hρ0 : (fun q : Int32 × St => ((some (.int q.1), q.2) : Option Value × St)) = ρ
  have hρ : ∀ q : Int32 × St, ρ q = ((some (.int q.1), q.2) : Option Value × St) := fun q => by rw [← hρ0]
  have G : vG p s m _ meth c X shX "SensorNode" cX7_end 2 (some .boolean) := G
  unfold f_S_end
  refine v_aload_n G 0 dX7_end_0 rfl ?_
  refine v_getr G (ci := 7) (T := TX7) (j := 0) inX7 rfl rfl rfl (by decide) w1_234 dX7_end_1 ?_
  refine v_iload_n G 1 dX7_end_4 rfl ?_
  refine v_callVi G (As := [.int a1]) (st := []) (c_T_shorten l hJ hX S a1) (by decide) (by decide) (ci := 6) rfl rfl w2_32 w2_33 w2_34 w1_3 w2_35 qyX6_shorten rfl (Nat.le_of_ble_eq_true rfl) dX7_end_5 ?_
  refine v_bnd (fun r_2 S_1 eS_1 => ?_)
  exact v_zret G rfl (nb_T_shorten (by assumption)) (hρ _) dX7_end_8
/-! SensorNode.install -/
theorem qyX7_install : yX7_install.cls ≠ "java/lang/invoke/MethodHandle" ∧ yX7_install.cls ≠ "java/lang/invoke/VarHandle" ∧ (parseMethodDescriptor yX7_install.desc).map (fun d => d.parameters.length) = some 5 := by decide +kernel
noncomputable def f_S_install (S : St) (a1 : Int32) (a2 : Int32) (a3 : Int32) (a4 : Int32) (a5 : Int32) : Int32 × St := bnx (f_T_size S) (fun x_1 => bnd (f_T_shorten S (0 : Int32)) (fun r_3 S_2 => (if (f_L_allows S_2 a1 a2 a3 a4) = 0 then ((-1 : Int32), S_2) else (if a2 < x_1 then ((-2 : Int32), S_2) else bnv (f_L_set S_2 a1 a2 a3 a4 a5) (fun S_6 => bnv (f_L_fill S_6 x_1) (fun S_7 => bnv (f_N_makeNew S_7) (fun S_8 => bnv (f_P_forget S_8) (fun S_9 => ((0 : Int32), S_9)))))))))
set_option linter.unusedVariables false in
set_option maxHeartbeats 4000000 in
set_option maxRecDepth 100000 in
theorem c_S_install (l : Launch) {X : vD} (hJ : sh_J X) (hX : shp X = shX)  (S : St) (a1 : Int32) (a2 : Int32) (a3 : Int32) (a4 : Int32) (a5 : Int32)  : Con l X yX7_install cX7_install 7 (some .int) 3 [.ref (adr X 0), .int a1, .int a2, .int a3, .int a4, .int a5] S (some (.int (f_S_install S a1 a2 a3 a4 a5).1), (f_S_install S a1 a2 a3 a4 a5).2) := by
  refine con_of (ρ := (fun q : Int32 × St => ((some (.int q.1), q.2) : Option Value × St))) (K := f_S_install S a1 a2 a3 a4 a5) hJ hX (by decide) (Nat.le_of_ble_eq_true rfl) (lv := [(0, .ref (adr X 0)), (1, .int a1), (2, .int a2), (3, .int a3), (4, .int a4), (5, .int a5)]) rfl ?_
  intro p e s m below meth c G
  generalize hρ0 : (fun q : Int32 × St => ((some (.int q.1), q.2) : Option Value × St)) = ρ
  have hρ : ∀ q : Int32 × St, ρ q = ((some (.int q.1), q.2) : Option Value × St) := fun q => by rw [← hρ0]
  have G : vG p s m _ meth c X shX "SensorNode" cX7_install 7 (some .int) := G
  unfold f_S_install
  refine v_aload_n G 0 dX7_install_0 rfl ?_
  refine v_getr G (ci := 7) (T := TX7) (j := 0) inX7 rfl rfl rfl (by decide) w1_234 dX7_install_1 ?_
  refine v_callVi G (As := []) (st := []) (c_T_size l hJ hX S) (by decide) (by decide) (ci := 6) rfl rfl w2_24 w2_25 w2_26 w1_3 w2_27 qyX6_size rfl (Nat.le_of_ble_eq_true rfl) dX7_install_4 ?_
  refine v_namei (fun x_1 ex_1 => ?_)
  refine v_istore G [(6, .int x_1), (0, .ref (adr X 0)), (1, .int a1), (2, .int a2), (3, .int a3), (4, .int a4), (5, .int a5)] dX7_install_7 (by decide) rfl ?_
  refine v_aload_n G 1 dX7_install_9 rfl ?_
  refine v_getr G (ci := 7) (T := TX7) (j := 0) inX7 rfl rfl rfl (by decide) w1_234 dX7_install_10 ?_
  refine v_iconst G (v := (0 : Int32)) dX7_install_13 (by decide) ?_
  refine v_callVi G (As := [.int (0 : Int32)]) (st := []) (c_T_shorten l hJ hX S (0 : Int32)) (by decide) (by decide) (ci := 6) rfl rfl w2_32 w2_33 w2_34 w1_3 w2_35 qyX6_shorten rfl (Nat.le_of_ble_eq_true rfl) dX7_install_14 ?_
  refine v_bnd (fun r_3 S_2 eS_2 => ?_)
  refine v_pop G dX7_install_17 rfl ?_
  refine v_iload_n G 2 dX7_install_18 rfl ?_
  refine v_iload_n G 3 dX7_install_19 rfl ?_
  refine v_iload_n G 4 dX7_install_20 rfl ?_
  refine v_iload G 5 dX7_install_21 rfl ?_
  refine v_callSi G (As := [.int a1, .int a2, .int a3, .int a4]) (st := []) (c_L_allows l hJ hX S_2 a1 a2 a3 a4) (by decide) (by decide) w2_40 w2_41 w1_2 w2_42 qyX4_allows rfl (Nat.le_of_ble_eq_true rfl) dX7_install_23 ?_
  refine v_if_ne G (tgt := 31) dX7_install_26 (by decide) (fun c_4 => ?_) (fun c_4 => ?_)
  · refine v_iload G 0 dX7_install_31 rfl ?_
    refine v_iload_n G 3 dX7_install_33 rfl ?_
    refine v_icmp_le G (tgt := 40) dX7_install_34 (by decide) (fun c_5 => ?_) (fun c_5 => ?_)
    · refine v_aload_n G 1 dX7_install_40 rfl ?_
      refine v_getr G (ci := 7) (T := TX7) (j := 1) inX7 rfl rfl rfl (by decide) w1_235 dX7_install_41 ?_
      refine v_iload_n G 2 dX7_install_44 rfl ?_
      refine v_iload_n G 3 dX7_install_45 rfl ?_
      refine v_iload_n G 4 dX7_install_46 rfl ?_
      refine v_iload G 5 dX7_install_47 rfl ?_
      refine v_iload G 6 dX7_install_49 rfl ?_
      refine v_callVv G (As := [.int a1, .int a2, .int a3, .int a4, .int a5]) (st := []) (c_L_set l hJ hX S_2 a1 a2 a3 a4 a5) (by decide) (by decide) (ci := 4) rfl rfl w2_44 w2_45 w2_46 w1_2 w2_47 qyX4_set rfl (Nat.le_of_ble_eq_true rfl) dX7_install_51 ?_
      refine v_bnv (fun S_6 eS_6 => ?_)
      refine v_aload_n G 1 dX7_install_54 rfl ?_
      refine v_getr G (ci := 7) (T := TX7) (j := 1) inX7 rfl rfl rfl (by decide) w1_235 dX7_install_55 ?_
      refine v_aload_n G 1 dX7_install_58 rfl ?_
      refine v_getr G (ci := 7) (T := TX7) (j := 0) inX7 rfl rfl rfl (by decide) w1_234 dX7_install_59 ?_
      refine v_iload G 0 dX7_install_62 rfl ?_
      refine v_callVv G (As := [.ref (adr X 4), .int x_1]) (st := []) (c_L_fill l hJ hX S_6 x_1) (by decide) (by decide) (ci := 4) rfl rfl w2_48 w2_49 w2_50 w1_2 w2_51 qyX4_fill rfl (Nat.le_of_ble_eq_true rfl) dX7_install_64 ?_
      refine v_bnv (fun S_7 eS_7 => ?_)
      refine v_aload_n G 1 dX7_install_67 rfl ?_
      refine v_getr G (ci := 7) (T := TX7) (j := 2) inX7 rfl rfl rfl (by decide) w1_236 dX7_install_68 ?_
      refine v_callVv G (As := []) (st := []) (c_N_makeNew l hJ hX S_7) (by decide) (by decide) (ci := 2) rfl rfl w2_60 w2_61 w2_62 w1_5 w2_63 qyX2_makeNew rfl (Nat.le_of_ble_eq_true rfl) dX7_install_71 ?_
      refine v_bnv (fun S_8 eS_8 => ?_)
      refine v_aload_n G 1 dX7_install_74 rfl ?_
      refine v_getr G (ci := 7) (T := TX7) (j := 3) inX7 rfl rfl rfl (by decide) w1_237 dX7_install_75 ?_
      refine v_callVv G (As := []) (st := []) (c_P_forget l hJ hX S_8) (by decide) (by decide) (ci := 3) rfl rfl w2_80 w2_81 w2_82 w1_8 w2_83 qyX3_forget rfl (Nat.le_of_ble_eq_true rfl) dX7_install_78 ?_
      refine v_bnv (fun S_9 eS_9 => ?_)
      refine v_iconst G (v := (0 : Int32)) dX7_install_81 (by decide) ?_
      exact v_iret G rfl (hρ _) dX7_install_82
    · refine v_bipush G (v := (-2 : Int32)) dX7_install_37 (by decide) ?_
      exact v_iret G rfl (hρ _) dX7_install_39
  · refine v_iconst G (v := (-1 : Int32)) dX7_install_29 (by decide) ?_
    exact v_iret G rfl (hρ _) dX7_install_30
/-! SensorNode.sample -/
theorem qyX7_sample : yX7_sample.cls ≠ "java/lang/invoke/MethodHandle" ∧ yX7_sample.cls ≠ "java/lang/invoke/VarHandle" ∧ (parseMethodDescriptor yX7_sample.desc).map (fun d => d.parameters.length) = some 1 := by decide +kernel
noncomputable def f_S_sample (S : St) (a1 : Int32) : Int32 × St := (if (f_N_hadPower S) = 0 then bnd (f_L_addSample S a1) (fun r_3 S_2 => (r_3, S_2)) else ((-1 : Int32), S))
set_option linter.unusedVariables false in
set_option maxHeartbeats 4000000 in
set_option maxRecDepth 100000 in
theorem c_S_sample (l : Launch) {X : vD} (hJ : sh_J X) (hX : shp X = shX)  (S : St) (a1 : Int32) (hz : narrow .boolean (.int (S 7 14)) = .int (S 7 14)) : Con l X yX7_sample cX7_sample 2 (some .int) 1 [.ref (adr X 0), .int a1] S (some (.int (f_S_sample S a1).1), (f_S_sample S a1).2) := by
  refine con_of (ρ := (fun q : Int32 × St => ((some (.int q.1), q.2) : Option Value × St))) (K := f_S_sample S a1) hJ hX (by decide) (Nat.le_of_ble_eq_true rfl) (lv := [(0, .ref (adr X 0)), (1, .int a1)]) rfl ?_
  intro p e s m below meth c G
  generalize hρ0 : (fun q : Int32 × St => ((some (.int q.1), q.2) : Option Value × St)) = ρ
  have hρ : ∀ q : Int32 × St, ρ q = ((some (.int q.1), q.2) : Option Value × St) := fun q => by rw [← hρ0]
  have G : vG p s m _ meth c X shX "SensorNode" cX7_sample 2 (some .int) := G
  unfold f_S_sample
  refine v_aload_n G 0 dX7_sample_0 rfl ?_
  refine v_getr G (ci := 7) (T := TX7) (j := 2) inX7 rfl rfl rfl (by decide) w1_236 dX7_sample_1 ?_
  refine v_callVi G (As := []) (st := []) (c_N_hadPower l hJ hX S (by assumption)) (by decide) (by decide) (ci := 2) rfl rfl w2_89 w2_90 w2_91 w1_5 w2_92 qyX2_hadPower rfl (Nat.le_of_ble_eq_true rfl) dX7_sample_4 ?_
  refine v_if_eq G (tgt := 14) dX7_sample_7 (by decide) (fun c_1 => ?_) (fun c_1 => ?_)
  · refine v_aload_n G 0 dX7_sample_14 rfl ?_
    refine v_getr G (ci := 7) (T := TX7) (j := 1) inX7 rfl rfl rfl (by decide) w1_235 dX7_sample_15 ?_
    refine v_iload_n G 1 dX7_sample_18 rfl ?_
    refine v_callVi G (As := [.int a1]) (st := []) (c_L_addSample l hJ hX S a1) (by decide) (by decide) (ci := 4) rfl rfl w2_93 w2_94 w2_95 w1_2 w2_96 qyX4_addSample rfl (Nat.le_of_ble_eq_true rfl) dX7_sample_19 ?_
    refine v_bnd (fun r_3 S_2 eS_2 => ?_)
    exact v_iret G rfl (hρ _) dX7_sample_22
  · refine v_iconst G (v := (-1 : Int32)) dX7_sample_10 (by decide) ?_
    refine v_goto G (tgt := 22) dX7_sample_11 (by decide) ?_
    exact v_iret G rfl (hρ _) dX7_sample_22
/-! SensorNode.on -/
theorem qyX7_on : yX7_on.cls ≠ "java/lang/invoke/MethodHandle" ∧ yX7_on.cls ≠ "java/lang/invoke/VarHandle" ∧ (parseMethodDescriptor yX7_on.desc).map (fun d => d.parameters.length) = some 0 := by decide +kernel
noncomputable def f_S_on (S : St) : Int32 × St := bnd (f_N_givePower S) (fun r_2 S_1 => (r_2, S_1))
set_option linter.unusedVariables false in
set_option maxHeartbeats 4000000 in
set_option maxRecDepth 100000 in
theorem c_S_on (l : Launch) {X : vD} (hJ : sh_J X) (hX : shp X = shX)  (S : St)  : Con l X yX7_on cX7_on 1 (some .boolean) 3 [.ref (adr X 0)] S (some (.int (f_S_on S).1), (f_S_on S).2) := by
  refine con_of (ρ := (fun q : Int32 × St => ((some (.int q.1), q.2) : Option Value × St))) (K := f_S_on S) hJ hX (by decide) (Nat.le_of_ble_eq_true rfl) (lv := [(0, .ref (adr X 0))]) rfl ?_
  intro p e s m below meth c G
  generalize hρ0 : (fun q : Int32 × St => ((some (.int q.1), q.2) : Option Value × St)) = ρ
  have hρ : ∀ q : Int32 × St, ρ q = ((some (.int q.1), q.2) : Option Value × St) := fun q => by rw [← hρ0]
  have G : vG p s m _ meth c X shX "SensorNode" cX7_on 1 (some .boolean) := G
  unfold f_S_on
  refine v_aload_n G 0 dX7_on_0 rfl ?_
  refine v_getr G (ci := 7) (T := TX7) (j := 2) inX7 rfl rfl rfl (by decide) w1_236 dX7_on_1 ?_
  refine v_callVi G (As := []) (st := []) (c_N_givePower l hJ hX S) (by decide) (by decide) (ci := 2) rfl rfl w2_101 w2_102 w2_103 w1_5 w2_104 qyX2_givePower rfl (Nat.le_of_ble_eq_true rfl) dX7_on_4 ?_
  refine v_bnd (fun r_2 S_1 eS_1 => ?_)
  exact v_zret G rfl (nb_N_givePower (by assumption)) (hρ _) dX7_on_7
/-! SensorNode.cut -/
theorem qyX7_cut : yX7_cut.cls ≠ "java/lang/invoke/MethodHandle" ∧ yX7_cut.cls ≠ "java/lang/invoke/VarHandle" ∧ (parseMethodDescriptor yX7_cut.desc).map (fun d => d.parameters.length) = some 0 := by decide +kernel
noncomputable def f_S_cut (S : St) : Int32 × St := bnd (f_N_cutPower S) (fun r_2 S_1 => (r_2, S_1))
set_option linter.unusedVariables false in
set_option maxHeartbeats 4000000 in
set_option maxRecDepth 100000 in
theorem c_S_cut (l : Launch) {X : vD} (hJ : sh_J X) (hX : shp X = shX)  (S : St)  : Con l X yX7_cut cX7_cut 1 (some .boolean) 2 [.ref (adr X 0)] S (some (.int (f_S_cut S).1), (f_S_cut S).2) := by
  refine con_of (ρ := (fun q : Int32 × St => ((some (.int q.1), q.2) : Option Value × St))) (K := f_S_cut S) hJ hX (by decide) (Nat.le_of_ble_eq_true rfl) (lv := [(0, .ref (adr X 0))]) rfl ?_
  intro p e s m below meth c G
  generalize hρ0 : (fun q : Int32 × St => ((some (.int q.1), q.2) : Option Value × St)) = ρ
  have hρ : ∀ q : Int32 × St, ρ q = ((some (.int q.1), q.2) : Option Value × St) := fun q => by rw [← hρ0]
  have G : vG p s m _ meth c X shX "SensorNode" cX7_cut 1 (some .boolean) := G
  unfold f_S_cut
  refine v_aload_n G 0 dX7_cut_0 rfl ?_
  refine v_getr G (ci := 7) (T := TX7) (j := 2) inX7 rfl rfl rfl (by decide) w1_236 dX7_cut_1 ?_
  refine v_callVi G (As := []) (st := []) (c_N_cutPower l hJ hX S) (by decide) (by decide) (ci := 2) rfl rfl w2_134 w2_135 w2_136 w1_5 w2_137 qyX2_cutPower rfl (Nat.le_of_ble_eq_true rfl) dX7_cut_4 ?_
  refine v_bnd (fun r_2 S_1 eS_1 => ?_)
  exact v_zret G rfl (nb_N_cutPower (by assumption)) (hρ _) dX7_cut_7
/-! SensorNode.go -/
theorem qyX7_go : yX7_go.cls ≠ "java/lang/invoke/MethodHandle" ∧ yX7_go.cls ≠ "java/lang/invoke/VarHandle" ∧ (parseMethodDescriptor yX7_go.desc).map (fun d => d.parameters.length) = some 1 := by decide +kernel
noncomputable def f_S_go (S : St) (a1 : Int32) : Int32 × St := (if a1 < 0 then ((-1 : Int32), S) else (if (20000 : Int32) < a1 then ((-1 : Int32), S) else bnd (f_N_act S a1) (fun r_4 S_3 => (r_4, S_3))))
set_option linter.unusedVariables false in
set_option maxHeartbeats 4000000 in
set_option maxRecDepth 100000 in
theorem c_S_go (l : Launch) {X : vD} (hJ : sh_J X) (hX : shp X = shX)  (S : St) (a1 : Int32)  : Con l X yX7_go cX7_go 2 (some .int) 6 [.ref (adr X 0), .int a1] S (some (.int (f_S_go S a1).1), (f_S_go S a1).2) := by
  refine con_of (ρ := (fun q : Int32 × St => ((some (.int q.1), q.2) : Option Value × St))) (K := f_S_go S a1) hJ hX (by decide) (Nat.le_of_ble_eq_true rfl) (lv := [(0, .ref (adr X 0)), (1, .int a1)]) rfl ?_
  intro p e s m below meth c G
  generalize hρ0 : (fun q : Int32 × St => ((some (.int q.1), q.2) : Option Value × St)) = ρ
  have hρ : ∀ q : Int32 × St, ρ q = ((some (.int q.1), q.2) : Option Value × St) := fun q => by rw [← hρ0]
  have G : vG p s m _ meth c X shX "SensorNode" cX7_go 2 (some .int) := G
  unfold f_S_go
  refine v_iload_n G 1 dX7_go_0 rfl ?_
  refine v_if_lt G (tgt := 11) dX7_go_1 (by decide) (fun c_1 => ?_) (fun c_1 => ?_)
  · refine v_iconst G (v := (-1 : Int32)) dX7_go_11 (by decide) ?_
    refine v_goto G (tgt := 23) dX7_go_12 (by decide) ?_
    exact v_iret G rfl (hρ _) dX7_go_23
  · refine v_iload_n G 1 dX7_go_4 rfl ?_
    refine v_sipush G (v := (20000 : Int32)) dX7_go_5 (by decide) ?_
    refine v_icmp_le G (tgt := 15) dX7_go_8 (by decide) (fun c_2 => ?_) (fun c_2 => ?_)
    · refine v_aload_n G 0 dX7_go_15 rfl ?_
      refine v_getr G (ci := 7) (T := TX7) (j := 2) inX7 rfl rfl rfl (by decide) w1_236 dX7_go_16 ?_
      refine v_iload_n G 1 dX7_go_19 rfl ?_
      refine v_callVi G (As := [.int a1]) (st := []) (c_N_act l hJ hX S a1) (by decide) (by decide) (ci := 2) rfl rfl w2_146 w2_147 w2_148 w1_5 w2_149 qyX2_act rfl (Nat.le_of_ble_eq_true rfl) dX7_go_20 ?_
      refine v_bnd (fun r_4 S_3 eS_3 => ?_)
      exact v_iret G rfl (hρ _) dX7_go_23
    · refine v_iconst G (v := (-1 : Int32)) dX7_go_11 (by decide) ?_
      refine v_goto G (tgt := 23) dX7_go_12 (by decide) ?_
      exact v_iret G rfl (hρ _) dX7_go_23
/-! SensorNode.state -/
theorem qyX7_state : yX7_state.cls ≠ "java/lang/invoke/MethodHandle" ∧ yX7_state.cls ≠ "java/lang/invoke/VarHandle" ∧ (parseMethodDescriptor yX7_state.desc).map (fun d => d.parameters.length) = some 0 := by decide +kernel
noncomputable def f_S_state (S : St) : Int32 := f_N_condition S
set_option linter.unusedVariables false in
set_option maxHeartbeats 4000000 in
set_option maxRecDepth 100000 in
theorem c_S_state (l : Launch) {X : vD} (hJ : sh_J X) (hX : shp X = shX)  (S : St)  : Con l X yX7_state cX7_state 1 (some .int) 1 [.ref (adr X 0)] S (some (.int (f_S_state S)), S) := by
  refine con_of (ρ := (fun r : Int32 => ((some (.int r), S) : Option Value × St))) (K := f_S_state S) hJ hX (by decide) (Nat.le_of_ble_eq_true rfl) (lv := [(0, .ref (adr X 0))]) rfl ?_
  intro p e s m below meth c G
  have G : vG p s m _ meth c X shX "SensorNode" cX7_state 1 (some .int) := G
  unfold f_S_state
  refine v_aload_n G 0 dX7_state_0 rfl ?_
  refine v_getr G (ci := 7) (T := TX7) (j := 2) inX7 rfl rfl rfl (by decide) w1_236 dX7_state_1 ?_
  refine v_callVi G (As := []) (st := []) (c_N_condition l hJ hX S) (by decide) (by decide) (ci := 2) rfl rfl w3_72 w3_73 w3_74 w1_5 w3_75 qyX2_condition rfl (Nat.le_of_ble_eq_true rfl) dX7_state_4 ?_
  exact v_iret G rfl rfl dX7_state_7
/-! SensorNode.register -/
theorem qyX7_register : yX7_register.cls ≠ "java/lang/invoke/MethodHandle" ∧ yX7_register.cls ≠ "java/lang/invoke/VarHandle" ∧ (parseMethodDescriptor yX7_register.desc).map (fun d => d.parameters.length) = some 1 := by decide +kernel
noncomputable def f_S_register (S : St) (a1 : Int32) : Int32 := f_N_owned S a1
set_option linter.unusedVariables false in
set_option maxHeartbeats 4000000 in
set_option maxRecDepth 100000 in
theorem c_S_register (l : Launch) {X : vD} (hJ : sh_J X) (hX : shp X = shX)  (S : St) (a1 : Int32)  : Con l X yX7_register cX7_register 2 (some .int) 2 [.ref (adr X 0), .int a1] S (some (.int (f_S_register S a1)), S) := by
  refine con_of (ρ := (fun r : Int32 => ((some (.int r), S) : Option Value × St))) (K := f_S_register S a1) hJ hX (by decide) (Nat.le_of_ble_eq_true rfl) (lv := [(0, .ref (adr X 0)), (1, .int a1)]) rfl ?_
  intro p e s m below meth c G
  have G : vG p s m _ meth c X shX "SensorNode" cX7_register 2 (some .int) := G
  unfold f_S_register
  refine v_aload_n G 0 dX7_register_0 rfl ?_
  refine v_getr G (ci := 7) (T := TX7) (j := 2) inX7 rfl rfl rfl (by decide) w1_236 dX7_register_1 ?_
  refine v_iload_n G 1 dX7_register_4 rfl ?_
  refine v_callVi G (As := [.int a1]) (st := []) (c_N_owned l hJ hX S a1) (by decide) (by decide) (ci := 2) rfl rfl w3_80 w3_81 w3_82 w1_5 w3_83 qyX2_owned rfl (Nat.le_of_ble_eq_true rfl) dX7_register_5 ?_
  exact v_iret G rfl rfl dX7_register_8
/-! SensorNode.ram -/
theorem qyX7_ram : yX7_ram.cls ≠ "java/lang/invoke/MethodHandle" ∧ yX7_ram.cls ≠ "java/lang/invoke/VarHandle" ∧ (parseMethodDescriptor yX7_ram.desc).map (fun d => d.parameters.length) = some 1 := by decide +kernel
noncomputable def f_S_ram (S : St) (a1 : Int32) : Int32 := f_N_ramByte S a1
set_option linter.unusedVariables false in
set_option maxHeartbeats 4000000 in
set_option maxRecDepth 100000 in
theorem c_S_ram (l : Launch) {X : vD} (hJ : sh_J X) (hX : shp X = shX)  (S : St) (a1 : Int32)  : Con l X yX7_ram cX7_ram 2 (some .int) 4 [.ref (adr X 0), .int a1] S (some (.int (f_S_ram S a1)), S) := by
  refine con_of (ρ := (fun r : Int32 => ((some (.int r), S) : Option Value × St))) (K := f_S_ram S a1) hJ hX (by decide) (Nat.le_of_ble_eq_true rfl) (lv := [(0, .ref (adr X 0)), (1, .int a1)]) rfl ?_
  intro p e s m below meth c G
  have G : vG p s m _ meth c X shX "SensorNode" cX7_ram 2 (some .int) := G
  unfold f_S_ram
  refine v_aload_n G 0 dX7_ram_0 rfl ?_
  refine v_getr G (ci := 7) (T := TX7) (j := 2) inX7 rfl rfl rfl (by decide) w1_236 dX7_ram_1 ?_
  refine v_iload_n G 1 dX7_ram_4 rfl ?_
  refine v_callVi G (As := [.int a1]) (st := []) (c_N_ramByte l hJ hX S a1) (by decide) (by decide) (ci := 2) rfl rfl w3_88 w3_89 w3_90 w1_5 w3_91 qyX2_ramByte rfl (Nat.le_of_ble_eq_true rfl) dX7_ram_5 ?_
  exact v_iret G rfl rfl dX7_ram_8
/-! SensorNode.words -/
theorem qyX7_words : yX7_words.cls ≠ "java/lang/invoke/MethodHandle" ∧ yX7_words.cls ≠ "java/lang/invoke/VarHandle" ∧ (parseMethodDescriptor yX7_words.desc).map (fun d => d.parameters.length) = some 0 := by decide +kernel
noncomputable def f_S_words (S : St) : Int32 := f_N_size S
set_option linter.unusedVariables false in
set_option maxHeartbeats 4000000 in
set_option maxRecDepth 100000 in
theorem c_S_words (l : Launch) {X : vD} (hJ : sh_J X) (hX : shp X = shX)  (S : St)  : Con l X yX7_words cX7_words 1 (some .int) 1 [.ref (adr X 0)] S (some (.int (f_S_words S)), S) := by
  refine con_of (ρ := (fun r : Int32 => ((some (.int r), S) : Option Value × St))) (K := f_S_words S) hJ hX (by decide) (Nat.le_of_ble_eq_true rfl) (lv := [(0, .ref (adr X 0))]) rfl ?_
  intro p e s m below meth c G
  have G : vG p s m _ meth c X shX "SensorNode" cX7_words 1 (some .int) := G
  unfold f_S_words
  refine v_aload_n G 0 dX7_words_0 rfl ?_
  refine v_getr G (ci := 7) (T := TX7) (j := 2) inX7 rfl rfl rfl (by decide) w1_236 dX7_words_1 ?_
  refine v_callVi G (As := []) (st := []) (c_N_size l hJ hX S) (by decide) (by decide) (ci := 2) rfl rfl w3_98 w3_99 w3_100 w1_5 w3_101 qyX2_size rfl (Nat.le_of_ble_eq_true rfl) dX7_words_4 ?_
  exact v_iret G rfl rfl dX7_words_7
/-! SensorNode.word -/
theorem qyX7_word : yX7_word.cls ≠ "java/lang/invoke/MethodHandle" ∧ yX7_word.cls ≠ "java/lang/invoke/VarHandle" ∧ (parseMethodDescriptor yX7_word.desc).map (fun d => d.parameters.length) = some 1 := by decide +kernel
noncomputable def f_S_word (S : St) (a1 : Int32) : Int32 := f_N_stored S a1
set_option linter.unusedVariables false in
set_option maxHeartbeats 4000000 in
set_option maxRecDepth 100000 in
theorem c_S_word (l : Launch) {X : vD} (hJ : sh_J X) (hX : shp X = shX)  (S : St) (a1 : Int32)  : Con l X yX7_word cX7_word 2 (some .int) 1 [.ref (adr X 0), .int a1] S (some (.int (f_S_word S a1)), S) := by
  refine con_of (ρ := (fun r : Int32 => ((some (.int r), S) : Option Value × St))) (K := f_S_word S a1) hJ hX (by decide) (Nat.le_of_ble_eq_true rfl) (lv := [(0, .ref (adr X 0)), (1, .int a1)]) rfl ?_
  intro p e s m below meth c G
  have G : vG p s m _ meth c X shX "SensorNode" cX7_word 2 (some .int) := G
  unfold f_S_word
  refine v_aload_n G 0 dX7_word_0 rfl ?_
  refine v_getr G (ci := 7) (T := TX7) (j := 2) inX7 rfl rfl rfl (by decide) w1_236 dX7_word_1 ?_
  refine v_iload_n G 1 dX7_word_4 rfl ?_
  refine v_callVi G (As := [.int a1]) (st := []) (c_N_stored l hJ hX S a1) (by decide) (by decide) (ci := 2) rfl rfl w3_106 w2_115 w2_116 w1_5 w2_117 qyX2_stored rfl (Nat.le_of_ble_eq_true rfl) dX7_word_5 ?_
  exact v_iret G rfl rfl dX7_word_8
/-! SensorNode.frames -/
theorem qyX7_frames : yX7_frames.cls ≠ "java/lang/invoke/MethodHandle" ∧ yX7_frames.cls ≠ "java/lang/invoke/VarHandle" ∧ (parseMethodDescriptor yX7_frames.desc).map (fun d => d.parameters.length) = some 0 := by decide +kernel
noncomputable def f_S_frames (S : St) : Int32 := f_R_total S 10 11 12 13 14 15
set_option linter.unusedVariables false in
set_option maxHeartbeats 4000000 in
set_option maxRecDepth 100000 in
theorem c_S_frames (l : Launch) {X : vD} (hJ : sh_J X) (hX : shp X = shX)  (S : St)  : Con l X yX7_frames cX7_frames 1 (some .int) 1 [.ref (adr X 0)] S (some (.int (f_S_frames S)), S) := by
  refine con_of (ρ := (fun r : Int32 => ((some (.int r), S) : Option Value × St))) (K := f_S_frames S) hJ hX (by decide) (Nat.le_of_ble_eq_true rfl) (lv := [(0, .ref (adr X 0))]) rfl ?_
  intro p e s m below meth c G
  have G : vG p s m _ meth c X shX "SensorNode" cX7_frames 1 (some .int) := G
  unfold f_S_frames
  refine v_aload_n G 0 dX7_frames_0 rfl ?_
  refine v_getr G (ci := 7) (T := TX7) (j := 2) inX7 rfl rfl rfl (by decide) w1_236 dX7_frames_1 ?_
  refine v_callVr G (As := []) (st := []) (c_N_radio l hJ hX S) (by decide) (by decide) (ci := 2) rfl rfl w3_111 w3_112 w3_113 w1_5 w3_114 qyX2_radio rfl (Nat.le_of_ble_eq_true rfl) dX7_frames_4 ?_
  refine v_callVi G (As := []) (st := []) (c_R_total l hJ hX 10 11 12 13 14 15 ⟨rfl, rfl, rfl, rfl, rfl, rfl, by decide⟩ S) (by decide) (by decide) (ci := 5) rfl rfl w3_115 w3_116 w3_117 w1_6 w3_118 qyX5_total rfl (Nat.le_of_ble_eq_true rfl) dX7_frames_7 ?_
  exact v_iret G rfl rfl dX7_frames_10
/-! SensorNode.frame -/
theorem qyX7_frame : yX7_frame.cls ≠ "java/lang/invoke/MethodHandle" ∧ yX7_frame.cls ≠ "java/lang/invoke/VarHandle" ∧ (parseMethodDescriptor yX7_frame.desc).map (fun d => d.parameters.length) = some 2 := by decide +kernel
noncomputable def f_S_frame (S : St) (a1 : Int32) (a2 : Int32) : Int32 := (if a2 = (0 : Int32) then f_R_number S 10 11 12 13 14 15 a1
 else (if a2 = (1 : Int32) then f_R_length S 10 11 12 13 14 15 a1
 else (if a2 = (2 : Int32) then f_R_cutsBefore S 10 11 12 13 14 15 a1
 else (-1 : Int32))))
set_option linter.unusedVariables false in
set_option maxHeartbeats 4000000 in
set_option maxRecDepth 100000 in
theorem c_S_frame (l : Launch) {X : vD} (hJ : sh_J X) (hX : shp X = shX)  (S : St) (a1 : Int32) (a2 : Int32)  : Con l X yX7_frame cX7_frame 3 (some .int) 2 [.ref (adr X 0), .int a1, .int a2] S (some (.int (f_S_frame S a1 a2)), S) := by
  refine con_of (ρ := (fun r : Int32 => ((some (.int r), S) : Option Value × St))) (K := f_S_frame S a1 a2) hJ hX (by decide) (Nat.le_of_ble_eq_true rfl) (lv := [(0, .ref (adr X 0)), (1, .int a1), (2, .int a2)]) rfl ?_
  intro p e s m below meth c G
  have G : vG p s m _ meth c X shX "SensorNode" cX7_frame 3 (some .int) := G
  unfold f_S_frame
  refine v_iload_n G 2 dX7_frame_0 rfl ?_
  refine v_sw (0 : Int32) (fun h_1 => ?_) (fun h_1 => ?_)
  · refine v_tableIn G (tgt := 28) (off := 27) dX7_frame_1 (by decide) (by decide) (by decide) (by decide) ?_
    refine v_aload_n G 0 dX7_frame_28 rfl ?_
    refine v_getr G (ci := 7) (T := TX7) (j := 2) inX7 rfl rfl rfl (by decide) w1_236 dX7_frame_29 ?_
    refine v_callVr G (As := []) (st := []) (c_N_radio l hJ hX S) (by decide) (by decide) (ci := 2) rfl rfl w3_111 w3_112 w3_113 w1_5 w3_114 qyX2_radio rfl (Nat.le_of_ble_eq_true rfl) dX7_frame_32 ?_
    refine v_iload_n G 1 dX7_frame_35 rfl ?_
    refine v_callVi G (As := [.int a1]) (st := []) (c_R_number l hJ hX 10 11 12 13 14 15 ⟨rfl, rfl, rfl, rfl, rfl, rfl, by decide⟩ S a1) (by decide) (by decide) (ci := 5) rfl rfl w3_123 w3_124 w3_125 w1_6 w3_126 qyX5_number rfl (Nat.le_of_ble_eq_true rfl) dX7_frame_36 ?_
    exact v_iret G rfl rfl dX7_frame_39
  refine v_sw (1 : Int32) (fun h_2 => ?_) (fun h_2 => ?_)
  · refine v_tableIn G (tgt := 40) (off := 39) dX7_frame_1 (by decide) (by decide) (by decide) (by decide) ?_
    refine v_aload_n G 0 dX7_frame_40 rfl ?_
    refine v_getr G (ci := 7) (T := TX7) (j := 2) inX7 rfl rfl rfl (by decide) w1_236 dX7_frame_41 ?_
    refine v_callVr G (As := []) (st := []) (c_N_radio l hJ hX S) (by decide) (by decide) (ci := 2) rfl rfl w3_111 w3_112 w3_113 w1_5 w3_114 qyX2_radio rfl (Nat.le_of_ble_eq_true rfl) dX7_frame_44 ?_
    refine v_iload_n G 1 dX7_frame_47 rfl ?_
    refine v_callVi G (As := [.int a1]) (st := []) (c_R_length l hJ hX 10 11 12 13 14 15 ⟨rfl, rfl, rfl, rfl, rfl, rfl, by decide⟩ S a1) (by decide) (by decide) (ci := 5) rfl rfl w3_131 w3_132 w3_133 w1_6 w3_134 qyX5_length rfl (Nat.le_of_ble_eq_true rfl) dX7_frame_48 ?_
    exact v_iret G rfl rfl dX7_frame_51
  refine v_sw (2 : Int32) (fun h_3 => ?_) (fun h_3 => ?_)
  · refine v_tableIn G (tgt := 52) (off := 51) dX7_frame_1 (by decide) (by decide) (by decide) (by decide) ?_
    refine v_aload_n G 0 dX7_frame_52 rfl ?_
    refine v_getr G (ci := 7) (T := TX7) (j := 2) inX7 rfl rfl rfl (by decide) w1_236 dX7_frame_53 ?_
    refine v_callVr G (As := []) (st := []) (c_N_radio l hJ hX S) (by decide) (by decide) (ci := 2) rfl rfl w3_111 w3_112 w3_113 w1_5 w3_114 qyX2_radio rfl (Nat.le_of_ble_eq_true rfl) dX7_frame_56 ?_
    refine v_iload_n G 1 dX7_frame_59 rfl ?_
    refine v_callVi G (As := [.int a1]) (st := []) (c_R_cutsBefore l hJ hX 10 11 12 13 14 15 ⟨rfl, rfl, rfl, rfl, rfl, rfl, by decide⟩ S a1) (by decide) (by decide) (ci := 5) rfl rfl w3_135 w3_136 w3_137 w1_6 w3_138 qyX5_cutsBefore rfl (Nat.le_of_ble_eq_true rfl) dX7_frame_60 ?_
    exact v_iret G rfl rfl dX7_frame_63
  have th_1 := lv_neT (a := 0) h_1 (by decide)
  have th_2 := lv_neT (a := 1) h_2 (by decide)
  have th_3 := lv_neT (a := 2) h_3 (by decide)
  refine v_tableOut G (tgt := 64) dX7_frame_1 (by omega) (by decide) ?_
  refine v_iconst G (v := (-1 : Int32)) dX7_frame_64 (by decide) ?_
  exact v_iret G rfl rfl dX7_frame_65
/-! SensorNode.heard -/
theorem qyX7_heard : yX7_heard.cls ≠ "java/lang/invoke/MethodHandle" ∧ yX7_heard.cls ≠ "java/lang/invoke/VarHandle" ∧ (parseMethodDescriptor yX7_heard.desc).map (fun d => d.parameters.length) = some 2 := by decide +kernel
noncomputable def f_S_heard (S : St) (a1 : Int32) (a2 : Int32) : Int32 := f_R_byteOf S 10 11 12 13 14 15 a1 a2
set_option linter.unusedVariables false in
set_option maxHeartbeats 4000000 in
set_option maxRecDepth 100000 in
theorem c_S_heard (l : Launch) {X : vD} (hJ : sh_J X) (hX : shp X = shX)  (S : St) (a1 : Int32) (a2 : Int32)  : Con l X yX7_heard cX7_heard 3 (some .int) 3 [.ref (adr X 0), .int a1, .int a2] S (some (.int (f_S_heard S a1 a2)), S) := by
  refine con_of (ρ := (fun r : Int32 => ((some (.int r), S) : Option Value × St))) (K := f_S_heard S a1 a2) hJ hX (by decide) (Nat.le_of_ble_eq_true rfl) (lv := [(0, .ref (adr X 0)), (1, .int a1), (2, .int a2)]) rfl ?_
  intro p e s m below meth c G
  have G : vG p s m _ meth c X shX "SensorNode" cX7_heard 3 (some .int) := G
  unfold f_S_heard
  refine v_aload_n G 0 dX7_heard_0 rfl ?_
  refine v_getr G (ci := 7) (T := TX7) (j := 2) inX7 rfl rfl rfl (by decide) w1_236 dX7_heard_1 ?_
  refine v_callVr G (As := []) (st := []) (c_N_radio l hJ hX S) (by decide) (by decide) (ci := 2) rfl rfl w3_111 w3_112 w3_113 w1_5 w3_114 qyX2_radio rfl (Nat.le_of_ble_eq_true rfl) dX7_heard_4 ?_
  refine v_iload_n G 1 dX7_heard_7 rfl ?_
  refine v_iload_n G 2 dX7_heard_8 rfl ?_
  refine v_callVi G (As := [.int a1, .int a2]) (st := []) (c_R_byteOf l hJ hX 10 11 12 13 14 15 ⟨rfl, rfl, rfl, rfl, rfl, rfl, by decide⟩ S a1 a2) (by decide) (by decide) (ci := 5) rfl rfl w3_143 w3_144 w3_145 w1_6 w3_146 qyX5_byteOf rfl (Nat.le_of_ble_eq_true rfl) dX7_heard_9 ?_
  exact v_iret G rfl rfl dX7_heard_12
/-! SensorNode.count -/
theorem qyX7_count : yX7_count.cls ≠ "java/lang/invoke/MethodHandle" ∧ yX7_count.cls ≠ "java/lang/invoke/VarHandle" ∧ (parseMethodDescriptor yX7_count.desc).map (fun d => d.parameters.length) = some 1 := by decide +kernel
noncomputable def f_S_count (S : St) (a1 : Int32) : Int32 := f_N_counted S a1
set_option linter.unusedVariables false in
set_option maxHeartbeats 4000000 in
set_option maxRecDepth 100000 in
theorem c_S_count (l : Launch) {X : vD} (hJ : sh_J X) (hX : shp X = shX)  (S : St) (a1 : Int32)  : Con l X yX7_count cX7_count 2 (some .int) 1 [.ref (adr X 0), .int a1] S (some (.int (f_S_count S a1)), S) := by
  refine con_of (ρ := (fun r : Int32 => ((some (.int r), S) : Option Value × St))) (K := f_S_count S a1) hJ hX (by decide) (Nat.le_of_ble_eq_true rfl) (lv := [(0, .ref (adr X 0)), (1, .int a1)]) rfl ?_
  intro p e s m below meth c G
  have G : vG p s m _ meth c X shX "SensorNode" cX7_count 2 (some .int) := G
  unfold f_S_count
  refine v_aload_n G 0 dX7_count_0 rfl ?_
  refine v_getr G (ci := 7) (T := TX7) (j := 2) inX7 rfl rfl rfl (by decide) w1_236 dX7_count_1 ?_
  refine v_iload_n G 1 dX7_count_4 rfl ?_
  refine v_callVi G (As := [.int a1]) (st := []) (c_N_counted l hJ hX S a1) (by decide) (by decide) (ci := 2) rfl rfl w3_153 w3_154 w3_155 w1_5 w3_156 qyX2_counted rfl (Nat.le_of_ble_eq_true rfl) dX7_count_5 ?_
  exact v_iret G rfl rfl dX7_count_8
/-! SensorNode.plain -/
theorem qyX7_plain : yX7_plain.cls ≠ "java/lang/invoke/MethodHandle" ∧ yX7_plain.cls ≠ "java/lang/invoke/VarHandle" ∧ (parseMethodDescriptor yX7_plain.desc).map (fun d => d.parameters.length) = some 1 := by decide +kernel
noncomputable def f_S_plain (S : St) (a1 : Int32) : Int32 × St := (if (S 1 3) = 0 then ((-1 : Int32), S) else (if a1 < 0 then ((-1 : Int32), S) else (if (20000 : Int32) < a1 then ((-1 : Int32), S) else bnd (f_P_run S a1) (fun r_5 S_4 => (r_5, S_4)))))
set_option linter.unusedVariables false in
set_option maxHeartbeats 4000000 in
set_option maxRecDepth 100000 in
theorem c_S_plain (l : Launch) {X : vD} (hJ : sh_J X) (hX : shp X = shX)  (S : St) (a1 : Int32)  : Con l X yX7_plain cX7_plain 2 (some .int) 6 [.ref (adr X 0), .int a1] S (some (.int (f_S_plain S a1).1), (f_S_plain S a1).2) := by
  refine con_of (ρ := (fun q : Int32 × St => ((some (.int q.1), q.2) : Option Value × St))) (K := f_S_plain S a1) hJ hX (by decide) (Nat.le_of_ble_eq_true rfl) (lv := [(0, .ref (adr X 0)), (1, .int a1)]) rfl ?_
  intro p e s m below meth c G
  generalize hρ0 : (fun q : Int32 × St => ((some (.int q.1), q.2) : Option Value × St)) = ρ
  have hρ : ∀ q : Int32 × St, ρ q = ((some (.int q.1), q.2) : Option Value × St) := fun q => by rw [← hρ0]
  have G : vG p s m _ meth c X shX "SensorNode" cX7_plain 2 (some .int) := G
  unfold f_S_plain
  refine v_aload_n G 0 dX7_plain_0 rfl ?_
  refine v_getr G (ci := 7) (T := TX7) (j := 1) inX7 rfl rfl rfl (by decide) w1_235 dX7_plain_1 ?_
  refine v_getNi G (ci := 4) (T := TX4) (j := 3) inX4 rfl rfl rfl (by decide) (host := "SensorNode") (List.mem_of_getElem? (i := 0) rfl) dX7_plain_4 ?_
  refine v_if_eq G (tgt := 21) dX7_plain_7 (by decide) (fun c_1 => ?_) (fun c_1 => ?_)
  · refine v_iconst G (v := (-1 : Int32)) dX7_plain_21 (by decide) ?_
    refine v_goto G (tgt := 33) dX7_plain_22 (by decide) ?_
    exact v_iret G rfl (hρ _) dX7_plain_33
  · refine v_iload_n G 1 dX7_plain_10 rfl ?_
    refine v_if_lt G (tgt := 21) dX7_plain_11 (by decide) (fun c_2 => ?_) (fun c_2 => ?_)
    · refine v_iconst G (v := (-1 : Int32)) dX7_plain_21 (by decide) ?_
      refine v_goto G (tgt := 33) dX7_plain_22 (by decide) ?_
      exact v_iret G rfl (hρ _) dX7_plain_33
    · refine v_iload_n G 1 dX7_plain_14 rfl ?_
      refine v_sipush G (v := (20000 : Int32)) dX7_plain_15 (by decide) ?_
      refine v_icmp_le G (tgt := 25) dX7_plain_18 (by decide) (fun c_3 => ?_) (fun c_3 => ?_)
      · refine v_aload_n G 0 dX7_plain_25 rfl ?_
        refine v_getr G (ci := 7) (T := TX7) (j := 3) inX7 rfl rfl rfl (by decide) w1_237 dX7_plain_26 ?_
        refine v_iload_n G 1 dX7_plain_29 rfl ?_
        refine v_callVi G (As := [.int a1]) (st := []) (c_P_run l hJ hX S a1) (by decide) (by decide) (ci := 3) rfl rfl w3_161 w3_162 w3_163 w1_8 w3_164 qyX3_run rfl (Nat.le_of_ble_eq_true rfl) dX7_plain_30 ?_
        refine v_bnd (fun r_5 S_4 eS_4 => ?_)
        exact v_iret G rfl (hρ _) dX7_plain_33
      · refine v_iconst G (v := (-1 : Int32)) dX7_plain_21 (by decide) ?_
        refine v_goto G (tgt := 33) dX7_plain_22 (by decide) ?_
        exact v_iret G rfl (hρ _) dX7_plain_33
/-! SensorNode.plainly -/
theorem qyX7_plainly : yX7_plainly.cls ≠ "java/lang/invoke/MethodHandle" ∧ yX7_plainly.cls ≠ "java/lang/invoke/VarHandle" ∧ (parseMethodDescriptor yX7_plainly.desc).map (fun d => d.parameters.length) = some 1 := by decide +kernel
noncomputable def f_S_plainly (S : St) (a1 : Int32) : Int32 := f_P_owned S a1
set_option linter.unusedVariables false in
set_option maxHeartbeats 4000000 in
set_option maxRecDepth 100000 in
theorem c_S_plainly (l : Launch) {X : vD} (hJ : sh_J X) (hX : shp X = shX)  (S : St) (a1 : Int32)  : Con l X yX7_plainly cX7_plainly 2 (some .int) 2 [.ref (adr X 0), .int a1] S (some (.int (f_S_plainly S a1)), S) := by
  refine con_of (ρ := (fun r : Int32 => ((some (.int r), S) : Option Value × St))) (K := f_S_plainly S a1) hJ hX (by decide) (Nat.le_of_ble_eq_true rfl) (lv := [(0, .ref (adr X 0)), (1, .int a1)]) rfl ?_
  intro p e s m below meth c G
  have G : vG p s m _ meth c X shX "SensorNode" cX7_plainly 2 (some .int) := G
  unfold f_S_plainly
  refine v_aload_n G 0 dX7_plainly_0 rfl ?_
  refine v_getr G (ci := 7) (T := TX7) (j := 3) inX7 rfl rfl rfl (by decide) w1_237 dX7_plainly_1 ?_
  refine v_iload_n G 1 dX7_plainly_4 rfl ?_
  refine v_callVi G (As := [.int a1]) (st := []) (c_P_owned l hJ hX S a1) (by decide) (by decide) (ci := 3) rfl rfl w3_182 w3_183 w3_184 w1_8 w3_185 qyX3_owned rfl (Nat.le_of_ble_eq_true rfl) dX7_plainly_5 ?_
  exact v_iret G rfl rfl dX7_plainly_8
/-! SensorNode.plainByte -/
theorem qyX7_plainByte : yX7_plainByte.cls ≠ "java/lang/invoke/MethodHandle" ∧ yX7_plainByte.cls ≠ "java/lang/invoke/VarHandle" ∧ (parseMethodDescriptor yX7_plainByte.desc).map (fun d => d.parameters.length) = some 1 := by decide +kernel
noncomputable def f_S_plainByte (S : St) (a1 : Int32) : Int32 := f_P_memoryByte S a1
set_option linter.unusedVariables false in
set_option maxHeartbeats 4000000 in
set_option maxRecDepth 100000 in
theorem c_S_plainByte (l : Launch) {X : vD} (hJ : sh_J X) (hX : shp X = shX)  (S : St) (a1 : Int32)  : Con l X yX7_plainByte cX7_plainByte 2 (some .int) 4 [.ref (adr X 0), .int a1] S (some (.int (f_S_plainByte S a1)), S) := by
  refine con_of (ρ := (fun r : Int32 => ((some (.int r), S) : Option Value × St))) (K := f_S_plainByte S a1) hJ hX (by decide) (Nat.le_of_ble_eq_true rfl) (lv := [(0, .ref (adr X 0)), (1, .int a1)]) rfl ?_
  intro p e s m below meth c G
  have G : vG p s m _ meth c X shX "SensorNode" cX7_plainByte 2 (some .int) := G
  unfold f_S_plainByte
  refine v_aload_n G 0 dX7_plainByte_0 rfl ?_
  refine v_getr G (ci := 7) (T := TX7) (j := 3) inX7 rfl rfl rfl (by decide) w1_237 dX7_plainByte_1 ?_
  refine v_iload_n G 1 dX7_plainByte_4 rfl ?_
  refine v_callVi G (As := [.int a1]) (st := []) (c_P_memoryByte l hJ hX S a1) (by decide) (by decide) (ci := 3) rfl rfl w3_190 w3_191 w3_192 w1_8 w3_193 qyX3_memoryByte rfl (Nat.le_of_ble_eq_true rfl) dX7_plainByte_5 ?_
  exact v_iret G rfl rfl dX7_plainByte_8
/-! SensorNode.plainFrame -/
theorem qyX7_plainFrame : yX7_plainFrame.cls ≠ "java/lang/invoke/MethodHandle" ∧ yX7_plainFrame.cls ≠ "java/lang/invoke/VarHandle" ∧ (parseMethodDescriptor yX7_plainFrame.desc).map (fun d => d.parameters.length) = some 1 := by decide +kernel
noncomputable def f_S_plainFrame (S : St) (a1 : Int32) : Int32 := f_R_length S 21 22 23 24 25 26 a1
set_option linter.unusedVariables false in
set_option maxHeartbeats 4000000 in
set_option maxRecDepth 100000 in
theorem c_S_plainFrame (l : Launch) {X : vD} (hJ : sh_J X) (hX : shp X = shX)  (S : St) (a1 : Int32)  : Con l X yX7_plainFrame cX7_plainFrame 2 (some .int) 2 [.ref (adr X 0), .int a1] S (some (.int (f_S_plainFrame S a1)), S) := by
  refine con_of (ρ := (fun r : Int32 => ((some (.int r), S) : Option Value × St))) (K := f_S_plainFrame S a1) hJ hX (by decide) (Nat.le_of_ble_eq_true rfl) (lv := [(0, .ref (adr X 0)), (1, .int a1)]) rfl ?_
  intro p e s m below meth c G
  have G : vG p s m _ meth c X shX "SensorNode" cX7_plainFrame 2 (some .int) := G
  unfold f_S_plainFrame
  refine v_aload_n G 0 dX7_plainFrame_0 rfl ?_
  refine v_getr G (ci := 7) (T := TX7) (j := 3) inX7 rfl rfl rfl (by decide) w1_237 dX7_plainFrame_1 ?_
  refine v_callVr G (As := []) (st := []) (c_P_radio l hJ hX S) (by decide) (by decide) (ci := 3) rfl rfl w3_200 w3_201 w3_202 w1_8 w3_203 qyX3_radio rfl (Nat.le_of_ble_eq_true rfl) dX7_plainFrame_4 ?_
  refine v_iload_n G 1 dX7_plainFrame_7 rfl ?_
  refine v_callVi G (As := [.int a1]) (st := []) (c_R_length l hJ hX 21 22 23 24 25 26 ⟨rfl, rfl, rfl, rfl, rfl, rfl, by decide⟩ S a1) (by decide) (by decide) (ci := 5) rfl rfl w3_131 w3_132 w3_133 w1_6 w3_134 qyX5_length rfl (Nat.le_of_ble_eq_true rfl) dX7_plainFrame_8 ?_
  exact v_iret G rfl rfl dX7_plainFrame_11
/-! SensorNode.plainHeard -/
theorem qyX7_plainHeard : yX7_plainHeard.cls ≠ "java/lang/invoke/MethodHandle" ∧ yX7_plainHeard.cls ≠ "java/lang/invoke/VarHandle" ∧ (parseMethodDescriptor yX7_plainHeard.desc).map (fun d => d.parameters.length) = some 2 := by decide +kernel
noncomputable def f_S_plainHeard (S : St) (a1 : Int32) (a2 : Int32) : Int32 := f_R_byteOf S 21 22 23 24 25 26 a1 a2
set_option linter.unusedVariables false in
set_option maxHeartbeats 4000000 in
set_option maxRecDepth 100000 in
theorem c_S_plainHeard (l : Launch) {X : vD} (hJ : sh_J X) (hX : shp X = shX)  (S : St) (a1 : Int32) (a2 : Int32)  : Con l X yX7_plainHeard cX7_plainHeard 3 (some .int) 3 [.ref (adr X 0), .int a1, .int a2] S (some (.int (f_S_plainHeard S a1 a2)), S) := by
  refine con_of (ρ := (fun r : Int32 => ((some (.int r), S) : Option Value × St))) (K := f_S_plainHeard S a1 a2) hJ hX (by decide) (Nat.le_of_ble_eq_true rfl) (lv := [(0, .ref (adr X 0)), (1, .int a1), (2, .int a2)]) rfl ?_
  intro p e s m below meth c G
  have G : vG p s m _ meth c X shX "SensorNode" cX7_plainHeard 3 (some .int) := G
  unfold f_S_plainHeard
  refine v_aload_n G 0 dX7_plainHeard_0 rfl ?_
  refine v_getr G (ci := 7) (T := TX7) (j := 3) inX7 rfl rfl rfl (by decide) w1_237 dX7_plainHeard_1 ?_
  refine v_callVr G (As := []) (st := []) (c_P_radio l hJ hX S) (by decide) (by decide) (ci := 3) rfl rfl w3_200 w3_201 w3_202 w1_8 w3_203 qyX3_radio rfl (Nat.le_of_ble_eq_true rfl) dX7_plainHeard_4 ?_
  refine v_iload_n G 1 dX7_plainHeard_7 rfl ?_
  refine v_iload_n G 2 dX7_plainHeard_8 rfl ?_
  refine v_callVi G (As := [.int a1, .int a2]) (st := []) (c_R_byteOf l hJ hX 21 22 23 24 25 26 ⟨rfl, rfl, rfl, rfl, rfl, rfl, by decide⟩ S a1 a2) (by decide) (by decide) (ci := 5) rfl rfl w3_143 w3_144 w3_145 w1_6 w3_146 qyX5_byteOf rfl (Nat.le_of_ble_eq_true rfl) dX7_plainHeard_9 ?_
  exact v_iret G rfl rfl dX7_plainHeard_12
/-! SensorNode.strays -/
theorem qyX7_strays : yX7_strays.cls ≠ "java/lang/invoke/MethodHandle" ∧ yX7_strays.cls ≠ "java/lang/invoke/VarHandle" ∧ (parseMethodDescriptor yX7_strays.desc).map (fun d => d.parameters.length) = some 0 := by decide +kernel
noncomputable def f_S_strays (S : St) : Int32 := f_N_strayed S
set_option linter.unusedVariables false in
set_option maxHeartbeats 4000000 in
set_option maxRecDepth 100000 in
theorem c_S_strays (l : Launch) {X : vD} (hJ : sh_J X) (hX : shp X = shX)  (S : St)  : Con l X yX7_strays cX7_strays 1 (some .int) 1 [.ref (adr X 0)] S (some (.int (f_S_strays S)), S) := by
  refine con_of (ρ := (fun r : Int32 => ((some (.int r), S) : Option Value × St))) (K := f_S_strays S) hJ hX (by decide) (Nat.le_of_ble_eq_true rfl) (lv := [(0, .ref (adr X 0))]) rfl ?_
  intro p e s m below meth c G
  have G : vG p s m _ meth c X shX "SensorNode" cX7_strays 1 (some .int) := G
  unfold f_S_strays
  refine v_aload_n G 0 dX7_strays_0 rfl ?_
  refine v_getr G (ci := 7) (T := TX7) (j := 2) inX7 rfl rfl rfl (by decide) w1_236 dX7_strays_1 ?_
  refine v_callVi G (As := []) (st := []) (c_N_strayed l hJ hX S) (by decide) (by decide) (ci := 2) rfl rfl w3_212 w3_213 w3_214 w1_5 w3_215 qyX2_strayed rfl (Nat.le_of_ble_eq_true rfl) dX7_strays_4 ?_
  exact v_iret G rfl rfl dX7_strays_7

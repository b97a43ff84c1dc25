/-! SensorNodeModel.install -/
theorem qyX10_install : yX10_install.cls ≠ "java/lang/invoke/MethodHandle" ∧ yX10_install.cls ≠ "java/lang/invoke/VarHandle" ∧ (parseMethodDescriptor yX10_install.desc).map (fun d => d.parameters.length) = some 5 := by decide +kernel
noncomputable def f_M_install_293 : Nat → St → Int32 → Int32 → Int32 → Int32 → Int32 → Int32 → Int32 → Int32 → Int32 × St
  | 0, S, _, _, _, _, _, _, _, _ => (0, S)
  | fn + 1, S, v1, v2, v3, v4, v5, v6, v7, v8 => (if v8 < ((S 0 4) / (4 : Int32)) then bnv (st_up S 1 ((S 0 10) + v8).toNatClampNeg (S 2 v8.toNatClampNeg)) (fun S_1314 => (f_M_install_293 fn S_1314 v1 v2 v3 v4 v5 v6 v7 (v8 + (1 : Int32)))) else bnv (st_up S 1 (35 : Int32).toNatClampNeg v5) (fun S_1295 => bnv (st_up S_1295 4 8 1) (fun S_1296 => bnv (st_up S_1296 4 9 (S_1296 0 10)) (fun S_1297 => bnv (st_up S_1297 4 6 (S_1297 0 3)) (fun S_1298 => bnv (st_up S_1298 4 7 (S_1298 0 4)) (fun S_1299 => bnv (st_up S_1299 4 11 (0 : Int32)) (fun S_1300 => bnv (st_up S_1300 7 11 (0 : Int32)) (fun S_1301 => bnv (st_up S_1301 11 0 (0 : Int32)) (fun S_1302 => bnv (st_up S_1302 16 0 (0 : Int32)) (fun S_1303 => bnv (st_up S_1303 0 20 (0 : Int32)) (fun S_1304 => bnv (st_up S_1304 0 21 (0 : Int32)) (fun S_1305 => bnv (st_up S_1305 0 22 (0 : Int32)) (fun S_1306 => bnv (st_up S_1306 0 25 (0 : Int32)) (fun S_1307 => bnv (st_up S_1307 0 26 (0 : Int32)) (fun S_1308 => bnv (st_up S_1308 0 27 (0 : Int32)) (fun S_1309 => bnv (st_up S_1309 0 28 (0 : Int32)) (fun S_1310 => bnv (st_up S_1310 0 29 (0 : Int32)) (fun S_1311 => bnv (st_up S_1311 0 30 (0 : Int32)) (fun S_1312 => bnv (st_up S_1312 0 31 (0 : Int32)) (fun S_1313 => ((0 : Int32), S_1313)))))))))))))))))))))
def k_M_install_293 : Nat → St → Int32 → Int32 → Int32 → Int32 → Int32 → Int32 → Int32 → Int32 → Prop
  | 0, _, _, _, _, _, _, _, _, _ => True
  | fn + 1, S, v1, v2, v3, v4, v5, v6, v7, v8 => (if v8 < ((S 0 4) / (4 : Int32)) then (vp_in v8 2048 ∧ (vp_in ((S 0 10) + v8) 6219 ∧ bnv (st_up S 1 ((S 0 10) + v8).toNatClampNeg (S 2 v8.toNatClampNeg)) (fun S_1314 => (k_M_install_293 fn S_1314 v1 v2 v3 v4 v5 v6 v7 (v8 + (1 : Int32)))))) else True)
set_option linter.unusedVariables false in
set_option maxHeartbeats 4000000 in
set_option maxRecDepth 100000 in
theorem v_M_install_293 {p : Program} {l : Launch} {e : Env} {s : State} {m : MethodId} {args : Array Value} {below : List Frame} {meth : Method} {c : Code} {X : vD} {ρ : Int32 × St → Option Value × St} (hρ : ∀ q : Int32 × St, ρ q = ((some (.int q.1), q.2) : Option Value × St))  (hJ : sh_J X) (hX : shp X = shM) (G : vG p s m args meth c X shM "SensorNodeModel" cX10_install 9 (some .int))  : ∀ (fuel : Nat) (S : St) (v1 v2 v3 v4 v5 v6 v7 v8 : Int32) , (2147483648 - v8.toInt).toNat < fuel → k_M_install_293 fuel S v1 v2 v3 v4 v5 v6 v7 v8 → V p l e 0 s m args below meth c X 9 ρ S 293 [(0, .ref (adr X 0)), (1, .int v1), (2, .int v2), (3, .int v3), (4, .int v4), (5, .int v5), (6, .int v6), (7, .int v7), (8, .int v8)] [] (f_M_install_293 fuel S v1 v2 v3 v4 v5 v6 v7 v8) := by
  intro fuel
  induction fuel with
  | zero =>
    intro S v1 v2 v3 v4 v5 v6 v7 v8 hm hk
    exact absurd hm (Nat.not_lt_zero _)
  | succ fn ih =>
    intro S v1 v2 v3 v4 v5 v6 v7 v8 hm hk
    rw [f_M_install_293]
    rw [k_M_install_293] at hk
    refine v_iload G 8 dX10_install_293 rfl ?_
    refine v_aload_n G 0 dX10_install_295 rfl ?_
    refine v_geti G (ci := 10) (T := TX10) (j := 4) inX10 rfl rfl rfl (by decide) w4_99 dX10_install_296 ?_
    refine v_iconst G (v := (4 : Int32)) dX10_install_299 (by decide) ?_
    refine v_idiv G dX10_install_300 (by decide) ?_
    refine v_icmp_ge G (tgt := 329) dX10_install_301 (by decide) (fun c_1294 => ?_) (fun c_1294 => ?_)
    · refine v_aload_n G 0 dX10_install_329 rfl ?_
      refine v_getr G (ci := 10) (T := TX10) (j := 11) inX10 rfl rfl rfl (by decide) w4_106 dX10_install_330 ?_
      refine v_bipush G (v := (35 : Int32)) dX10_install_333 (by decide) ?_
      refine v_iload G 5 dX10_install_335 rfl ?_
      refine v_iast G rfl (by unfold vp_in; decide) dX10_install_337 (fun S_1295 eS_1295 => ?_)
      refine v_aload_n G 0 dX10_install_338 rfl ?_
      refine v_getr G (ci := 10) (T := TX10) (j := 14) inX10 rfl rfl rfl (by decide) w4_109 dX10_install_339 ?_
      refine v_aload_n G 0 dX10_install_342 rfl ?_
      refine v_getr G (ci := 10) (T := TX10) (j := 11) inX10 rfl rfl rfl (by decide) w4_106 dX10_install_343 ?_
      refine v_putq G (ci := 9) (T := TX9) (j := 8) inX9 rfl rfl tyX9_ok nmX9 rfl (by decide) rfl (fun _ => rfl) (fun _ => rfl) w4_5 dX10_install_346 (fun S_1296 eS_1296 => ?_)
      refine v_aload_n G 0 dX10_install_349 rfl ?_
      refine v_getr G (ci := 10) (T := TX10) (j := 14) inX10 rfl rfl rfl (by decide) w4_109 dX10_install_350 ?_
      refine v_aload_n G 0 dX10_install_353 rfl ?_
      refine v_geti G (ci := 10) (T := TX10) (j := 10) inX10 rfl rfl rfl (by decide) w4_105 dX10_install_354 ?_
      refine v_puti G (ci := 9) (T := TX9) (j := 9) inX9 rfl rfl tyX9_ok nmX9 rfl (by decide) rfl rfl rfl w4_7 dX10_install_357 (fun S_1297 eS_1297 => ?_)
      refine v_aload_n G 0 dX10_install_360 rfl ?_
      refine v_getr G (ci := 10) (T := TX10) (j := 14) inX10 rfl rfl rfl (by decide) w4_109 dX10_install_361 ?_
      refine v_aload_n G 0 dX10_install_364 rfl ?_
      refine v_geti G (ci := 10) (T := TX10) (j := 3) inX10 rfl rfl rfl (by decide) w4_98 dX10_install_365 ?_
      refine v_puti G (ci := 9) (T := TX9) (j := 6) inX9 rfl rfl tyX9_ok nmX9 rfl (by decide) rfl rfl rfl w4_1 dX10_install_368 (fun S_1298 eS_1298 => ?_)
      refine v_aload_n G 0 dX10_install_371 rfl ?_
      refine v_getr G (ci := 10) (T := TX10) (j := 14) inX10 rfl rfl rfl (by decide) w4_109 dX10_install_372 ?_
      refine v_aload_n G 0 dX10_install_375 rfl ?_
      refine v_geti G (ci := 10) (T := TX10) (j := 4) inX10 rfl rfl rfl (by decide) w4_99 dX10_install_376 ?_
      refine v_puti G (ci := 9) (T := TX9) (j := 7) inX9 rfl rfl tyX9_ok nmX9 rfl (by decide) rfl rfl rfl w4_3 dX10_install_379 (fun S_1299 eS_1299 => ?_)
      refine v_aload_n G 0 dX10_install_382 rfl ?_
      refine v_getr G (ci := 10) (T := TX10) (j := 14) inX10 rfl rfl rfl (by decide) w4_109 dX10_install_383 ?_
      refine v_iconst G (v := (0 : Int32)) dX10_install_386 (by decide) ?_
      refine v_puti G (ci := 9) (T := TX9) (j := 11) inX9 rfl rfl tyX9_ok nmX9 rfl (by decide) rfl rfl rfl w4_9 dX10_install_387 (fun S_1300 eS_1300 => ?_)
      refine v_aload_n G 0 dX10_install_390 rfl ?_
      refine v_getr G (ci := 10) (T := TX10) (j := 15) inX10 rfl rfl rfl (by decide) w4_110 dX10_install_391 ?_
      refine v_iconst G (v := (0 : Int32)) dX10_install_394 (by decide) ?_
      refine v_puti G (ci := 9) (T := TX9) (j := 11) inX9 rfl rfl tyX9_ok nmX9 rfl (by decide) rfl rfl rfl w4_9 dX10_install_395 (fun S_1301 eS_1301 => ?_)
      refine v_aload_n G 0 dX10_install_398 rfl ?_
      refine v_getr G (ci := 10) (T := TX10) (j := 18) inX10 rfl rfl rfl (by decide) w4_113 dX10_install_399 ?_
      refine v_iconst G (v := (0 : Int32)) dX10_install_402 (by decide) ?_
      refine v_puti G (ci := 8) (T := TX8) (j := 0) inX8 rfl rfl tyX8_ok nmX8 rfl (by decide) rfl rfl rfl w4_70 dX10_install_403 (fun S_1302 eS_1302 => ?_)
      refine v_aload_n G 0 dX10_install_406 rfl ?_
      refine v_getr G (ci := 10) (T := TX10) (j := 19) inX10 rfl rfl rfl (by decide) w4_114 dX10_install_407 ?_
      refine v_iconst G (v := (0 : Int32)) dX10_install_410 (by decide) ?_
      refine v_puti G (ci := 8) (T := TX8) (j := 0) inX8 rfl rfl tyX8_ok nmX8 rfl (by decide) rfl rfl rfl w4_70 dX10_install_411 (fun S_1303 eS_1303 => ?_)
      refine v_aload_n G 0 dX10_install_414 rfl ?_
      refine v_iconst G (v := (0 : Int32)) dX10_install_415 (by decide) ?_
      refine v_puti G (ci := 10) (T := TX10) (j := 20) inX10 rfl rfl tyX10_ok nmX10 rfl (by decide) rfl rfl rfl w4_115 dX10_install_416 (fun S_1304 eS_1304 => ?_)
      refine v_aload_n G 0 dX10_install_419 rfl ?_
      refine v_iconst G (v := (0 : Int32)) dX10_install_420 (by decide) ?_
      refine v_puti G (ci := 10) (T := TX10) (j := 21) inX10 rfl rfl tyX10_ok nmX10 rfl (by decide) rfl rfl rfl w4_116 dX10_install_421 (fun S_1305 eS_1305 => ?_)
      refine v_aload_n G 0 dX10_install_424 rfl ?_
      refine v_iconst G (v := (0 : Int32)) dX10_install_425 (by decide) ?_
      refine v_puti G (ci := 10) (T := TX10) (j := 22) inX10 rfl rfl tyX10_ok nmX10 rfl (by decide) rfl rfl rfl w4_117 dX10_install_426 (fun S_1306 eS_1306 => ?_)
      refine v_aload_n G 0 dX10_install_429 rfl ?_
      refine v_iconst G (v := (0 : Int32)) dX10_install_430 (by decide) ?_
      refine v_puti G (ci := 10) (T := TX10) (j := 25) inX10 rfl rfl tyX10_ok nmX10 rfl (by decide) rfl rfl rfl w4_120 dX10_install_431 (fun S_1307 eS_1307 => ?_)
      refine v_aload_n G 0 dX10_install_434 rfl ?_
      refine v_iconst G (v := (0 : Int32)) dX10_install_435 (by decide) ?_
      refine v_puti G (ci := 10) (T := TX10) (j := 26) inX10 rfl rfl tyX10_ok nmX10 rfl (by decide) rfl rfl rfl w4_121 dX10_install_436 (fun S_1308 eS_1308 => ?_)
      refine v_aload_n G 0 dX10_install_439 rfl ?_
      refine v_iconst G (v := (0 : Int32)) dX10_install_440 (by decide) ?_
      refine v_puti G (ci := 10) (T := TX10) (j := 27) inX10 rfl rfl tyX10_ok nmX10 rfl (by decide) rfl rfl rfl w4_122 dX10_install_441 (fun S_1309 eS_1309 => ?_)
      refine v_aload_n G 0 dX10_install_444 rfl ?_
      refine v_iconst G (v := (0 : Int32)) dX10_install_445 (by decide) ?_
      refine v_puti G (ci := 10) (T := TX10) (j := 28) inX10 rfl rfl tyX10_ok nmX10 rfl (by decide) rfl rfl rfl w4_123 dX10_install_446 (fun S_1310 eS_1310 => ?_)
      refine v_aload_n G 0 dX10_install_449 rfl ?_
      refine v_iconst G (v := (0 : Int32)) dX10_install_450 (by decide) ?_
      refine v_puti G (ci := 10) (T := TX10) (j := 29) inX10 rfl rfl tyX10_ok nmX10 rfl (by decide) rfl rfl rfl w4_124 dX10_install_451 (fun S_1311 eS_1311 => ?_)
      refine v_aload_n G 0 dX10_install_454 rfl ?_
      refine v_iconst G (v := (0 : Int32)) dX10_install_455 (by decide) ?_
      refine v_puti G (ci := 10) (T := TX10) (j := 30) inX10 rfl rfl tyX10_ok nmX10 rfl (by decide) rfl rfl rfl w4_125 dX10_install_456 (fun S_1312 eS_1312 => ?_)
      refine v_aload_n G 0 dX10_install_459 rfl ?_
      refine v_iconst G (v := (0 : Int32)) dX10_install_460 (by decide) ?_
      refine v_puti G (ci := 10) (T := TX10) (j := 31) inX10 rfl rfl tyX10_ok nmX10 rfl (by decide) rfl rfl rfl w4_126 dX10_install_461 (fun S_1313 eS_1313 => ?_)
      refine v_iconst G (v := (0 : Int32)) dX10_install_464 (by decide) ?_
      exact v_iret G rfl (hρ _) dX10_install_465
    · replace hk := ok_t c_1294 hk
      refine v_aload_n G 0 dX10_install_304 rfl ?_
      refine v_getr G (ci := 10) (T := TX10) (j := 11) inX10 rfl rfl rfl (by decide) w4_106 dX10_install_305 ?_
      refine v_aload_n G 0 dX10_install_308 rfl ?_
      refine v_geti G (ci := 10) (T := TX10) (j := 10) inX10 rfl rfl rfl (by decide) w4_105 dX10_install_309 ?_
      refine v_iload G 8 dX10_install_312 rfl ?_
      refine v_iadd G dX10_install_314 ?_
      refine v_aload_n G 0 dX10_install_315 rfl ?_
      refine v_getr G (ci := 10) (T := TX10) (j := 12) inX10 rfl rfl rfl (by decide) w4_107 dX10_install_316 ?_
      refine v_iload G 8 dX10_install_319 rfl ?_
      refine v_iald G rfl hk.1 dX10_install_321 ?_
      replace hk := hk.2
      refine v_iast G rfl hk.1 dX10_install_322 (fun S_1314 eS_1314 => ?_)
      replace hk := hk.2
      replace hk := ok_v eS_1314 hk
      refine v_iinc G (v := v8 + (1 : Int32)) 8 [(8, .int (v8 + (1 : Int32))), (0, .ref (adr X 0)), (1, .int v1), (2, .int v2), (3, .int v3), (4, .int v4), (5, .int v5), (6, .int v6), (7, .int v7)] dX10_install_323 rfl rfl (by decide) rfl ?_
      refine v_goto G (tgt := 293) dX10_install_326 (by decide) ?_
      exact v_sub (lv' := [(0, .ref (adr X 0)), (1, .int v1), (2, .int v2), (3, .int v3), (4, .int v4), (5, .int v5), (6, .int v6), (7, .int v7), (8, .int (v8 + (1 : Int32)))]) [1, 2, 3, 4, 5, 6, 7, 8, 0] rfl (ih S_1314 v1 v2 v3 v4 v5 v6 v7 (v8 + (1 : Int32)) (lp_m31 (by assumption) hm) hk)
noncomputable def f_M_install_246 : Nat → St → Int32 → Int32 → Int32 → Int32 → Int32 → Int32 → Int32 → Int32 → Int32 × St
  | 0, S, _, _, _, _, _, _, _, _ => (0, S)
  | fn + 1, S, v1, v2, v3, v4, v5, v6, v7, v8 => (if v8 < v6 then bnv (st_up S 2 (v8 / (4 : Int32)).toNatClampNeg ((S 2 (v8 / (4 : Int32)).toNatClampNeg) ||| (((S 22 v8.toNatClampNeg) &&& (255 : Int32)) <<< (((8 : Int32) * (v8 - v8 / (4 : Int32) * (4 : Int32))) &&& 31)))) (fun S_1248 => (f_M_install_246 fn S_1248 v1 v2 v3 v4 v5 v6 v7 (v8 + (1 : Int32)))) else (f_M_install_293 fuz S v1 v2 v3 v4 v5 v6 v7 (0 : Int32)))
def k_M_install_246 : Nat → St → Int32 → Int32 → Int32 → Int32 → Int32 → Int32 → Int32 → Int32 → Prop
  | 0, _, _, _, _, _, _, _, _, _ => True
  | fn + 1, S, v1, v2, v3, v4, v5, v6, v7, v8 => (if v8 < v6 then (vp_in (v8 / (4 : Int32)) 2048 ∧ (vp_in v8 8200 ∧ (vp_in (v8 / (4 : Int32)) 2048 ∧ bnv (st_up S 2 (v8 / (4 : Int32)).toNatClampNeg ((S 2 (v8 / (4 : Int32)).toNatClampNeg) ||| (((S 22 v8.toNatClampNeg) &&& (255 : Int32)) <<< (((8 : Int32) * (v8 - v8 / (4 : Int32) * (4 : Int32))) &&& 31)))) (fun S_1248 => (k_M_install_246 fn S_1248 v1 v2 v3 v4 v5 v6 v7 (v8 + (1 : Int32))))))) else (k_M_install_293 fuz S v1 v2 v3 v4 v5 v6 v7 (0 : Int32)))
set_option linter.unusedVariables false in
set_option maxHeartbeats 4000000 in
set_option maxRecDepth 100000 in
theorem v_M_install_246 {p : Program} {l : Launch} {e : Env} {s : State} {m : MethodId} {args : Array Value} {below : List Frame} {meth : Method} {c : Code} {X : vD} {ρ : Int32 × St → Option Value × St} (hρ : ∀ q : Int32 × St, ρ q = ((some (.int q.1), q.2) : Option Value × St))  (hJ : sh_J X) (hX : shp X = shM) (G : vG p s m args meth c X shM "SensorNodeModel" cX10_install 9 (some .int))  : ∀ (fuel : Nat) (S : St) (v1 v2 v3 v4 v5 v6 v7 v8 : Int32) , ((v6).toInt - v8.toInt).toNat < fuel → k_M_install_246 fuel S v1 v2 v3 v4 v5 v6 v7 v8 → V p l e 0 s m args below meth c X 9 ρ S 246 [(0, .ref (adr X 0)), (1, .int v1), (2, .int v2), (3, .int v3), (4, .int v4), (5, .int v5), (6, .int v6), (7, .int v7), (8, .int v8)] [] (f_M_install_246 fuel S v1 v2 v3 v4 v5 v6 v7 v8) := by
  intro fuel
  induction fuel with
  | zero =>
    intro S v1 v2 v3 v4 v5 v6 v7 v8 hm hk
    exact absurd hm (Nat.not_lt_zero _)
  | succ fn ih =>
    intro S v1 v2 v3 v4 v5 v6 v7 v8 hm hk
    rw [f_M_install_246]
    rw [k_M_install_246] at hk
    refine v_iload G 8 dX10_install_246 rfl ?_
    refine v_iload G 6 dX10_install_248 rfl ?_
    refine v_icmp_ge G (tgt := 290) dX10_install_250 (by decide) (fun c_1247 => ?_) (fun c_1247 => ?_)
    · replace hk := ok_f c_1247 hk
      refine v_iconst G (v := (0 : Int32)) dX10_install_290 (by decide) ?_
      refine v_istore G [(8, .int (0 : Int32)), (0, .ref (adr X 0)), (1, .int v1), (2, .int v2), (3, .int v3), (4, .int v4), (5, .int v5), (6, .int v6), (7, .int v7)] dX10_install_291 (by decide) rfl ?_
      exact v_sub (lv' := [(0, .ref (adr X 0)), (1, .int v1), (2, .int v2), (3, .int v3), (4, .int v4), (5, .int v5), (6, .int v6), (7, .int v7), (8, .int (0 : Int32))]) [1, 2, 3, 4, 5, 6, 7, 8, 0] rfl (v_M_install_293 hρ hJ hX G fuz S v1 v2 v3 v4 v5 v6 v7 (0 : Int32) (lp_z31 _) hk)
    · replace hk := ok_t c_1247 hk
      refine v_aload_n G 0 dX10_install_253 rfl ?_
      refine v_getr G (ci := 10) (T := TX10) (j := 12) inX10 rfl rfl rfl (by decide) w4_107 dX10_install_254 ?_
      refine v_iload G 8 dX10_install_257 rfl ?_
      refine v_iconst G (v := (4 : Int32)) dX10_install_259 (by decide) ?_
      refine v_idiv G dX10_install_260 (by decide) ?_
      refine v_dup2 G dX10_install_261 rfl rfl ?_
      refine v_iald G rfl hk.1 dX10_install_262 ?_
      replace hk := hk.2
      refine v_aload_n G 0 dX10_install_263 rfl ?_
      refine v_getr G (ci := 10) (T := TX10) (j := 33) inX10 rfl rfl rfl (by decide) w4_128 dX10_install_264 ?_
      refine v_iload G 8 dX10_install_267 rfl ?_
      refine v_bald G rfl hk.1 dX10_install_269 ?_
      replace hk := hk.2
      refine v_sipush G (v := (255 : Int32)) dX10_install_270 (by decide) ?_
      refine v_iand G dX10_install_273 ?_
      refine v_bipush G (v := (8 : Int32)) dX10_install_274 (by decide) ?_
      refine v_iload G 8 dX10_install_276 rfl ?_
      refine v_iconst G (v := (4 : Int32)) dX10_install_278 (by decide) ?_
      refine v_irem G dX10_install_279 (by decide) ?_
      refine v_imul G dX10_install_280 ?_
      refine v_ishl G dX10_install_281 ?_
      refine v_ior G dX10_install_282 ?_
      refine v_iast G rfl hk.1 dX10_install_283 (fun S_1248 eS_1248 => ?_)
      replace hk := hk.2
      replace hk := ok_v eS_1248 hk
      refine v_iinc G (v := v8 + (1 : Int32)) 8 [(8, .int (v8 + (1 : Int32))), (0, .ref (adr X 0)), (1, .int v1), (2, .int v2), (3, .int v3), (4, .int v4), (5, .int v5), (6, .int v6), (7, .int v7)] dX10_install_284 rfl rfl (by decide) rfl ?_
      refine v_goto G (tgt := 246) dX10_install_287 (by decide) ?_
      exact v_sub (lv' := [(0, .ref (adr X 0)), (1, .int v1), (2, .int v2), (3, .int v3), (4, .int v4), (5, .int v5), (6, .int v6), (7, .int v7), (8, .int (v8 + (1 : Int32)))]) [1, 2, 3, 4, 5, 6, 7, 8, 0] rfl (ih S_1248 v1 v2 v3 v4 v5 v6 v7 (v8 + (1 : Int32)) (lp_m (by assumption) hm) hk)
noncomputable def f_M_install_221 : Nat → St → Int32 → Int32 → Int32 → Int32 → Int32 → Int32 → Int32 → Int32 → Int32 × St
  | 0, S, _, _, _, _, _, _, _, _ => (0, S)
  | fn + 1, S, v1, v2, v3, v4, v5, v6, v7, v8 => (if v8 < (2048 : Int32) then bnv (st_up S 2 v8.toNatClampNeg (0 : Int32)) (fun S_1223 => (f_M_install_221 fn S_1223 v1 v2 v3 v4 v5 v6 v7 (v8 + (1 : Int32)))) else (f_M_install_246 fuz S v1 v2 v3 v4 v5 v6 v7 (0 : Int32)))
def k_M_install_221 : Nat → St → Int32 → Int32 → Int32 → Int32 → Int32 → Int32 → Int32 → Int32 → Prop
  | 0, _, _, _, _, _, _, _, _, _ => True
  | fn + 1, S, v1, v2, v3, v4, v5, v6, v7, v8 => (if v8 < (2048 : Int32) then bnv (st_up S 2 v8.toNatClampNeg (0 : Int32)) (fun S_1223 => (k_M_install_221 fn S_1223 v1 v2 v3 v4 v5 v6 v7 (v8 + (1 : Int32)))) else (k_M_install_246 fuz S v1 v2 v3 v4 v5 v6 v7 (0 : Int32)))
set_option linter.unusedVariables false in
set_option maxHeartbeats 4000000 in
set_option maxRecDepth 100000 in
theorem v_M_install_221 {p : Program} {l : Launch} {e : Env} {s : State} {m : MethodId} {args : Array Value} {below : List Frame} {meth : Method} {c : Code} {X : vD} {ρ : Int32 × St → Option Value × St} (hρ : ∀ q : Int32 × St, ρ q = ((some (.int q.1), q.2) : Option Value × St))  (hJ : sh_J X) (hX : shp X = shM) (G : vG p s m args meth c X shM "SensorNodeModel" cX10_install 9 (some .int))  : ∀ (fuel : Nat) (S : St) (v1 v2 v3 v4 v5 v6 v7 v8 : Int32) , (((2048 : Int32)).toInt - v8.toInt).toNat < fuel → ¬ v8 < 0 → k_M_install_221 fuel S v1 v2 v3 v4 v5 v6 v7 v8 → V p l e 0 s m args below meth c X 9 ρ S 221 [(0, .ref (adr X 0)), (1, .int v1), (2, .int v2), (3, .int v3), (4, .int v4), (5, .int v5), (6, .int v6), (7, .int v7), (8, .int v8)] [] (f_M_install_221 fuel S v1 v2 v3 v4 v5 v6 v7 v8) := by
  intro fuel
  induction fuel with
  | zero =>
    intro S v1 v2 v3 v4 v5 v6 v7 v8 hm hi hk
    exact absurd hm (Nat.not_lt_zero _)
  | succ fn ih =>
    intro S v1 v2 v3 v4 v5 v6 v7 v8 hm hi hk
    rw [f_M_install_221]
    rw [k_M_install_221] at hk
    refine v_iload G 8 dX10_install_221 rfl ?_
    refine v_sipush G (v := (2048 : Int32)) dX10_install_223 (by decide) ?_
    refine v_icmp_ge G (tgt := 243) dX10_install_226 (by decide) (fun c_1222 => ?_) (fun c_1222 => ?_)
    · replace hk := ok_f c_1222 hk
      refine v_iconst G (v := (0 : Int32)) dX10_install_243 (by decide) ?_
      refine v_istore G [(8, .int (0 : Int32)), (0, .ref (adr X 0)), (1, .int v1), (2, .int v2), (3, .int v3), (4, .int v4), (5, .int v5), (6, .int v6), (7, .int v7)] dX10_install_244 (by decide) rfl ?_
      exact v_sub (lv' := [(0, .ref (adr X 0)), (1, .int v1), (2, .int v2), (3, .int v3), (4, .int v4), (5, .int v5), (6, .int v6), (7, .int v7), (8, .int (0 : Int32))]) [1, 2, 3, 4, 5, 6, 7, 8, 0] rfl (v_M_install_246 hρ hJ hX G fuz S v1 v2 v3 v4 v5 v6 v7 (0 : Int32) (lp_z _ _) hk)
    · replace hk := ok_t c_1222 hk
      refine v_aload_n G 0 dX10_install_229 rfl ?_
      refine v_getr G (ci := 10) (T := TX10) (j := 12) inX10 rfl rfl rfl (by decide) w4_107 dX10_install_230 ?_
      refine v_iload G 8 dX10_install_233 rfl ?_
      refine v_iconst G (v := (0 : Int32)) dX10_install_235 (by decide) ?_
      refine v_iast G rfl (vi_br hi (by assumption) (by decide)) dX10_install_236 (fun S_1223 eS_1223 => ?_)
      replace hk := ok_v eS_1223 hk
      refine v_iinc G (v := v8 + (1 : Int32)) 8 [(8, .int (v8 + (1 : Int32))), (0, .ref (adr X 0)), (1, .int v1), (2, .int v2), (3, .int v3), (4, .int v4), (5, .int v5), (6, .int v6), (7, .int v7)] dX10_install_237 rfl rfl (by decide) rfl ?_
      refine v_goto G (tgt := 221) dX10_install_240 (by decide) ?_
      exact v_sub (lv' := [(0, .ref (adr X 0)), (1, .int v1), (2, .int v2), (3, .int v3), (4, .int v4), (5, .int v5), (6, .int v6), (7, .int v7), (8, .int (v8 + (1 : Int32)))]) [1, 2, 3, 4, 5, 6, 7, 8, 0] rfl (ih S_1223 v1 v2 v3 v4 v5 v6 v7 (v8 + (1 : Int32)) (lp_m (by assumption) hm) (lp_nn (by assumption) hi) hk)
noncomputable def f_M_install_194 : Nat → St → Int32 → Int32 → Int32 → Int32 → Int32 → Int32 → Int32 → Int32 → Int32 × St
  | 0, S, _, _, _, _, _, _, _, _ => (0, S)
  | fn + 1, S, v1, v2, v3, v4, v5, v6, v7, v8 => (if v8 < (nI 6219) then bnv (st_up S 1 v8.toNatClampNeg (0 : Int32)) (fun S_1196 => (f_M_install_194 fn S_1196 v1 v2 v3 v4 v5 v6 v7 (v8 + (1 : Int32)))) else (f_M_install_221 fuz S v1 v2 v3 v4 v5 v6 v7 (0 : Int32)))
def k_M_install_194 : Nat → St → Int32 → Int32 → Int32 → Int32 → Int32 → Int32 → Int32 → Int32 → Prop
  | 0, _, _, _, _, _, _, _, _, _ => True
  | fn + 1, S, v1, v2, v3, v4, v5, v6, v7, v8 => (if v8 < (nI 6219) then bnv (st_up S 1 v8.toNatClampNeg (0 : Int32)) (fun S_1196 => (k_M_install_194 fn S_1196 v1 v2 v3 v4 v5 v6 v7 (v8 + (1 : Int32)))) else (k_M_install_221 fuz S v1 v2 v3 v4 v5 v6 v7 (0 : Int32)))
set_option linter.unusedVariables false in
set_option maxHeartbeats 4000000 in
set_option maxRecDepth 100000 in
theorem v_M_install_194 {p : Program} {l : Launch} {e : Env} {s : State} {m : MethodId} {args : Array Value} {below : List Frame} {meth : Method} {c : Code} {X : vD} {ρ : Int32 × St → Option Value × St} (hρ : ∀ q : Int32 × St, ρ q = ((some (.int q.1), q.2) : Option Value × St))  (hJ : sh_J X) (hX : shp X = shM) (G : vG p s m args meth c X shM "SensorNodeModel" cX10_install 9 (some .int))  : ∀ (fuel : Nat) (S : St) (v1 v2 v3 v4 v5 v6 v7 v8 : Int32) , ((nI 6219).toInt - v8.toInt).toNat < fuel → ¬ v8 < 0 → k_M_install_194 fuel S v1 v2 v3 v4 v5 v6 v7 v8 → V p l e 0 s m args below meth c X 9 ρ S 194 [(0, .ref (adr X 0)), (1, .int v1), (2, .int v2), (3, .int v3), (4, .int v4), (5, .int v5), (6, .int v6), (7, .int v7), (8, .int v8)] [] (f_M_install_194 fuel S v1 v2 v3 v4 v5 v6 v7 v8) := by
  intro fuel
  induction fuel with
  | zero =>
    intro S v1 v2 v3 v4 v5 v6 v7 v8 hm hi hk
    exact absurd hm (Nat.not_lt_zero _)
  | succ fn ih =>
    intro S v1 v2 v3 v4 v5 v6 v7 v8 hm hi hk
    rw [f_M_install_194]
    rw [k_M_install_194] at hk
    refine v_iload G 8 dX10_install_194 rfl ?_
    refine v_aload_n G 0 dX10_install_196 rfl ?_
    refine v_getr G (ci := 10) (T := TX10) (j := 11) inX10 rfl rfl rfl (by decide) w4_106 dX10_install_197 ?_
    refine v_alen G (ty := .int) rfl rfl dX10_install_200 ?_
    refine v_icmp_ge G (tgt := 218) dX10_install_201 (by decide) (fun c_1195 => ?_) (fun c_1195 => ?_)
    · replace hk := ok_f c_1195 hk
      refine v_iconst G (v := (0 : Int32)) dX10_install_218 (by decide) ?_
      refine v_istore G [(8, .int (0 : Int32)), (0, .ref (adr X 0)), (1, .int v1), (2, .int v2), (3, .int v3), (4, .int v4), (5, .int v5), (6, .int v6), (7, .int v7)] dX10_install_219 (by decide) rfl ?_
      exact v_sub (lv' := [(0, .ref (adr X 0)), (1, .int v1), (2, .int v2), (3, .int v3), (4, .int v4), (5, .int v5), (6, .int v6), (7, .int v7), (8, .int (0 : Int32))]) [1, 2, 3, 4, 5, 6, 7, 8, 0] rfl (v_M_install_221 hρ hJ hX G fuz S v1 v2 v3 v4 v5 v6 v7 (0 : Int32) (lp_z _ _) (by decide) hk)
    · replace hk := ok_t c_1195 hk
      refine v_aload_n G 0 dX10_install_204 rfl ?_
      refine v_getr G (ci := 10) (T := TX10) (j := 11) inX10 rfl rfl rfl (by decide) w4_106 dX10_install_205 ?_
      refine v_iload G 8 dX10_install_208 rfl ?_
      refine v_iconst G (v := (0 : Int32)) dX10_install_210 (by decide) ?_
      refine v_iast G rfl (vi_br hi (by assumption) (by decide)) dX10_install_211 (fun S_1196 eS_1196 => ?_)
      replace hk := ok_v eS_1196 hk
      refine v_iinc G (v := v8 + (1 : Int32)) 8 [(8, .int (v8 + (1 : Int32))), (0, .ref (adr X 0)), (1, .int v1), (2, .int v2), (3, .int v3), (4, .int v4), (5, .int v5), (6, .int v6), (7, .int v7)] dX10_install_212 rfl rfl (by decide) rfl ?_
      refine v_goto G (tgt := 194) dX10_install_215 (by decide) ?_
      exact v_sub (lv' := [(0, .ref (adr X 0)), (1, .int v1), (2, .int v2), (3, .int v3), (4, .int v4), (5, .int v5), (6, .int v6), (7, .int v7), (8, .int (v8 + (1 : Int32)))]) [1, 2, 3, 4, 5, 6, 7, 8, 0] rfl (ih S_1196 v1 v2 v3 v4 v5 v6 v7 (v8 + (1 : Int32)) (lp_m (by assumption) hm) (lp_nn (by assumption) hi) hk)
noncomputable def f_M_install (S : St) (a1 : Int32) (a2 : Int32) (a3 : Int32) (a4 : Int32) (a5 : Int32) : Int32 × St := bnx (S 0 34) (fun x_1 => bnv (st_up S 0 34 (0 : Int32)) (fun S_2 => (if a1 < (4 : Int32) then ((-1 : Int32), S_2) else (if (4096 : Int32) < a1 then ((-1 : Int32), S_2) else (if (a1 - a1 / (4 : Int32) * (4 : Int32)) = 0 then (if a2 < (4 : Int32) then ((-1 : Int32), S_2) else (if (8192 : Int32) < a2 then ((-1 : Int32), S_2) else (if (a2 - a2 / (4 : Int32) * (4 : Int32)) = 0 then (if a3 < (8 : Int32) then ((-1 : Int32), S_2) else (if (1024 : Int32) < a3 then ((-1 : Int32), S_2) else (if a4 < (16 : Int32) then ((-1 : Int32), S_2) else (if (65536 : Int32) < a4 then ((-1 : Int32), S_2) else (if a2 < x_1 then ((-2 : Int32), S_2) else bnv (st_up S_2 0 0 (1 : Int32)) (fun S_14 => bnv (st_up S_14 0 1 (0 : Int32)) (fun S_15 => bnv (st_up S_15 0 2 (0 : Int32)) (fun S_16 => bnv (st_up S_16 0 17 (0 : Int32)) (fun S_17 => bnv (st_up S_17 0 3 a1) (fun S_18 => bnv (st_up S_18 0 4 a2) (fun S_19 => bnv (st_up S_19 0 5 a3) (fun S_20 => bnv (st_up S_20 0 6 a4) (fun S_21 => bnv (st_up S_21 0 7 a5) (fun S_22 => bnv (st_up S_22 0 9 ((3 : Int32) + ((2 : Int32) * ((36 : Int32) + ((S_22 0 3) / (4 : Int32)))))) (fun S_23 => bnv (st_up S_23 0 10 ((S_23 0 9) + ((2 : Int32) * (S_23 0 5)))) (fun S_24 => bnv (st_up S_24 0 8 ((S_24 0 10) + ((S_24 0 4) / (4 : Int32)))) (fun S_25 => (f_M_install_194 fuz S_25 a1 a2 a3 a4 a5 x_1 (1 : Int32) (0 : Int32))))))))))))))))))) else ((-1 : Int32), S_2)))) else ((-1 : Int32), S_2))))))
def k_M_install (S : St) (a1 : Int32) (a2 : Int32) (a3 : Int32) (a4 : Int32) (a5 : Int32) : Prop := bnx (S 0 34) (fun x_1 => bnv (st_up S 0 34 (0 : Int32)) (fun S_2 => (if a1 < (4 : Int32) then True else (if (4096 : Int32) < a1 then True else (if (a1 - a1 / (4 : Int32) * (4 : Int32)) = 0 then (if a2 < (4 : Int32) then True else (if (8192 : Int32) < a2 then True else (if (a2 - a2 / (4 : Int32) * (4 : Int32)) = 0 then (if a3 < (8 : Int32) then True else (if (1024 : Int32) < a3 then True else (if a4 < (16 : Int32) then True else (if (65536 : Int32) < a4 then True else (if a2 < x_1 then True else bnv (st_up S_2 0 0 (1 : Int32)) (fun S_14 => bnv (st_up S_14 0 1 (0 : Int32)) (fun S_15 => bnv (st_up S_15 0 2 (0 : Int32)) (fun S_16 => bnv (st_up S_16 0 17 (0 : Int32)) (fun S_17 => bnv (st_up S_17 0 3 a1) (fun S_18 => bnv (st_up S_18 0 4 a2) (fun S_19 => bnv (st_up S_19 0 5 a3) (fun S_20 => bnv (st_up S_20 0 6 a4) (fun S_21 => bnv (st_up S_21 0 7 a5) (fun S_22 => bnv (st_up S_22 0 9 ((3 : Int32) + ((2 : Int32) * ((36 : Int32) + ((S_22 0 3) / (4 : Int32)))))) (fun S_23 => bnv (st_up S_23 0 10 ((S_23 0 9) + ((2 : Int32) * (S_23 0 5)))) (fun S_24 => bnv (st_up S_24 0 8 ((S_24 0 10) + ((S_24 0 4) / (4 : Int32)))) (fun S_25 => (k_M_install_194 fuz S_25 a1 a2 a3 a4 a5 x_1 (1 : Int32) (0 : Int32))))))))))))))))))) else True))) else True)))))
set_option linter.unusedVariables false in
set_option maxHeartbeats 4000000 in
set_option maxRecDepth 100000 in
theorem c_M_install (l : Launch) {X : vD} (hJ : sh_J X) (hX : shp X = shM)  (S : St) (a1 : Int32) (a2 : Int32) (a3 : Int32) (a4 : Int32) (a5 : Int32) (hk : k_M_install S a1 a2 a3 a4 a5) : Con l X yX10_install cX10_install 9 (some .int) 0 [.ref (adr X 0), .int a1, .int a2, .int a3, .int a4, .int a5] S (some (.int (f_M_install S a1 a2 a3 a4 a5).1), (f_M_install S a1 a2 a3 a4 a5).2) := by
  refine con_of (ρ := (fun q : Int32 × St => ((some (.int q.1), q.2) : Option Value × St))) (K := f_M_install S a1 a2 a3 a4 a5) hJ hX (by decide) (Nat.le_of_ble_eq_true rfl) (lv := [(0, .ref (adr X 0)), (1, .int a1), (2, .int a2), (3, .int a3), (4, .int a4), (5, .int a5)]) rfl ?_
  intro p e s m below meth c G
  generalize hρ0 : (fun q : Int32 × St => ((some (.int q.1), q.2) : Option Value × St)) = ρ
  have hρ : ∀ q : Int32 × St, ρ q = ((some (.int q.1), q.2) : Option Value × St) := fun q => by rw [← hρ0]
  have G : vG p s m _ meth c X shM "SensorNodeModel" cX10_install 9 (some .int) := G
  unfold f_M_install
  unfold k_M_install at hk
  refine v_aload_n G 0 dX10_install_0 rfl ?_
  refine v_geti G (ci := 10) (T := TX10) (j := 34) inX10 rfl rfl rfl (by decide) w4_129 dX10_install_1 ?_
  refine v_namei (fun x_1 ex_1 => ?_)
  replace hk := ok_x ex_1 hk
  refine v_istore G [(6, .int x_1), (0, .ref (adr X 0)), (1, .int a1), (2, .int a2), (3, .int a3), (4, .int a4), (5, .int a5)] dX10_install_4 (by decide) rfl ?_
  refine v_aload_n G 1 dX10_install_6 rfl ?_
  refine v_iconst G (v := (0 : Int32)) dX10_install_7 (by decide) ?_
  refine v_puti G (ci := 10) (T := TX10) (j := 34) inX10 rfl rfl tyX10_ok nmX10 rfl (by decide) rfl rfl rfl w4_129 dX10_install_8 (fun S_2 eS_2 => ?_)
  replace hk := ok_v eS_2 hk
  refine v_iload_n G 2 dX10_install_11 rfl ?_
  refine v_iconst G (v := (4 : Int32)) dX10_install_12 (by decide) ?_
  refine v_icmp_lt G (tgt := 78) dX10_install_13 (by decide) (fun c_3 => ?_) (fun c_3 => ?_)
  · refine v_iconst G (v := (0 : Int32)) dX10_install_78 (by decide) ?_
    refine v_istore G [(7, .int (0 : Int32)), (6, .int x_1), (0, .ref (adr X 0)), (1, .int a1), (2, .int a2), (3, .int a3), (4, .int a4), (5, .int a5)] dX10_install_79 (by decide) rfl ?_
    refine v_iload G 0 dX10_install_81 rfl ?_
    refine v_if_ne_f G (tgt := 88) dX10_install_83 (by decide) (by decide) ?_
    refine v_iconst G (v := (-1 : Int32)) dX10_install_86 (by decide) ?_
    exact v_iret G rfl (hρ _) dX10_install_87
  · replace hk := ok_f c_3 hk
    refine v_iload_n G 2 dX10_install_16 rfl ?_
    refine v_sipush G (v := (4096 : Int32)) dX10_install_17 (by decide) ?_
    refine v_icmp_gt G (tgt := 78) dX10_install_20 (by decide) (fun c_4 => ?_) (fun c_4 => ?_)
    · refine v_iconst G (v := (0 : Int32)) dX10_install_78 (by decide) ?_
      refine v_istore G [(7, .int (0 : Int32)), (6, .int x_1), (0, .ref (adr X 0)), (1, .int a1), (2, .int a2), (3, .int a3), (4, .int a4), (5, .int a5)] dX10_install_79 (by decide) rfl ?_
      refine v_iload G 0 dX10_install_81 rfl ?_
      refine v_if_ne_f G (tgt := 88) dX10_install_83 (by decide) (by decide) ?_
      refine v_iconst G (v := (-1 : Int32)) dX10_install_86 (by decide) ?_
      exact v_iret G rfl (hρ _) dX10_install_87
    · replace hk := ok_f c_4 hk
      refine v_iload_n G 2 dX10_install_23 rfl ?_
      refine v_iconst G (v := (4 : Int32)) dX10_install_24 (by decide) ?_
      refine v_irem G dX10_install_25 (by decide) ?_
      refine v_if_ne G (tgt := 78) dX10_install_26 (by decide) (fun c_5 => ?_) (fun c_5 => ?_)
      · refine v_iconst G (v := (0 : Int32)) dX10_install_78 (by decide) ?_
        refine v_istore G [(7, .int (0 : Int32)), (6, .int x_1), (0, .ref (adr X 0)), (1, .int a1), (2, .int a2), (3, .int a3), (4, .int a4), (5, .int a5)] dX10_install_79 (by decide) rfl ?_
        refine v_iload G 0 dX10_install_81 rfl ?_
        refine v_if_ne_f G (tgt := 88) dX10_install_83 (by decide) (by decide) ?_
        refine v_iconst G (v := (-1 : Int32)) dX10_install_86 (by decide) ?_
        exact v_iret G rfl (hρ _) dX10_install_87
      · replace hk := ok_t c_5 hk
        refine v_iload_n G 3 dX10_install_29 rfl ?_
        refine v_iconst G (v := (4 : Int32)) dX10_install_30 (by decide) ?_
        refine v_icmp_lt G (tgt := 78) dX10_install_31 (by decide) (fun c_6 => ?_) (fun c_6 => ?_)
        · refine v_iconst G (v := (0 : Int32)) dX10_install_78 (by decide) ?_
          refine v_istore G [(7, .int (0 : Int32)), (6, .int x_1), (0, .ref (adr X 0)), (1, .int a1), (2, .int a2), (3, .int a3), (4, .int a4), (5, .int a5)] dX10_install_79 (by decide) rfl ?_
          refine v_iload G 0 dX10_install_81 rfl ?_
          refine v_if_ne_f G (tgt := 88) dX10_install_83 (by decide) (by decide) ?_
          refine v_iconst G (v := (-1 : Int32)) dX10_install_86 (by decide) ?_
          exact v_iret G rfl (hρ _) dX10_install_87
        · replace hk := ok_f c_6 hk
          refine v_iload_n G 3 dX10_install_34 rfl ?_
          refine v_sipush G (v := (8192 : Int32)) dX10_install_35 (by decide) ?_
          refine v_icmp_gt G (tgt := 78) dX10_install_38 (by decide) (fun c_7 => ?_) (fun c_7 => ?_)
          · refine v_iconst G (v := (0 : Int32)) dX10_install_78 (by decide) ?_
            refine v_istore G [(7, .int (0 : Int32)), (6, .int x_1), (0, .ref (adr X 0)), (1, .int a1), (2, .int a2), (3, .int a3), (4, .int a4), (5, .int a5)] dX10_install_79 (by decide) rfl ?_
            refine v_iload G 0 dX10_install_81 rfl ?_
            refine v_if_ne_f G (tgt := 88) dX10_install_83 (by decide) (by decide) ?_
            refine v_iconst G (v := (-1 : Int32)) dX10_install_86 (by decide) ?_
            exact v_iret G rfl (hρ _) dX10_install_87
          · replace hk := ok_f c_7 hk
            refine v_iload_n G 3 dX10_install_41 rfl ?_
            refine v_iconst G (v := (4 : Int32)) dX10_install_42 (by decide) ?_
            refine v_irem G dX10_install_43 (by decide) ?_
            refine v_if_ne G (tgt := 78) dX10_install_44 (by decide) (fun c_8 => ?_) (fun c_8 => ?_)
            · refine v_iconst G (v := (0 : Int32)) dX10_install_78 (by decide) ?_
              refine v_istore G [(7, .int (0 : Int32)), (6, .int x_1), (0, .ref (adr X 0)), (1, .int a1), (2, .int a2), (3, .int a3), (4, .int a4), (5, .int a5)] dX10_install_79 (by decide) rfl ?_
              refine v_iload G 0 dX10_install_81 rfl ?_
              refine v_if_ne_f G (tgt := 88) dX10_install_83 (by decide) (by decide) ?_
              refine v_iconst G (v := (-1 : Int32)) dX10_install_86 (by decide) ?_
              exact v_iret G rfl (hρ _) dX10_install_87
            · replace hk := ok_t c_8 hk
              refine v_iload_n G 4 dX10_install_47 rfl ?_
              refine v_bipush G (v := (8 : Int32)) dX10_install_48 (by decide) ?_
              refine v_icmp_lt G (tgt := 78) dX10_install_50 (by decide) (fun c_9 => ?_) (fun c_9 => ?_)
              · refine v_iconst G (v := (0 : Int32)) dX10_install_78 (by decide) ?_
                refine v_istore G [(7, .int (0 : Int32)), (6, .int x_1), (0, .ref (adr X 0)), (1, .int a1), (2, .int a2), (3, .int a3), (4, .int a4), (5, .int a5)] dX10_install_79 (by decide) rfl ?_
                refine v_iload G 0 dX10_install_81 rfl ?_
                refine v_if_ne_f G (tgt := 88) dX10_install_83 (by decide) (by decide) ?_
                refine v_iconst G (v := (-1 : Int32)) dX10_install_86 (by decide) ?_
                exact v_iret G rfl (hρ _) dX10_install_87
              · replace hk := ok_f c_9 hk
                refine v_iload_n G 4 dX10_install_53 rfl ?_
                refine v_sipush G (v := (1024 : Int32)) dX10_install_54 (by decide) ?_
                refine v_icmp_gt G (tgt := 78) dX10_install_57 (by decide) (fun c_10 => ?_) (fun c_10 => ?_)
                · refine v_iconst G (v := (0 : Int32)) dX10_install_78 (by decide) ?_
                  refine v_istore G [(7, .int (0 : Int32)), (6, .int x_1), (0, .ref (adr X 0)), (1, .int a1), (2, .int a2), (3, .int a3), (4, .int a4), (5, .int a5)] dX10_install_79 (by decide) rfl ?_
                  refine v_iload G 0 dX10_install_81 rfl ?_
                  refine v_if_ne_f G (tgt := 88) dX10_install_83 (by decide) (by decide) ?_
                  refine v_iconst G (v := (-1 : Int32)) dX10_install_86 (by decide) ?_
                  exact v_iret G rfl (hρ _) dX10_install_87
                · replace hk := ok_f c_10 hk
                  refine v_iload G 5 dX10_install_60 rfl ?_
                  refine v_bipush G (v := (16 : Int32)) dX10_install_62 (by decide) ?_
                  refine v_icmp_lt G (tgt := 78) dX10_install_64 (by decide) (fun c_11 => ?_) (fun c_11 => ?_)
                  · refine v_iconst G (v := (0 : Int32)) dX10_install_78 (by decide) ?_
                    refine v_istore G [(7, .int (0 : Int32)), (6, .int x_1), (0, .ref (adr X 0)), (1, .int a1), (2, .int a2), (3, .int a3), (4, .int a4), (5, .int a5)] dX10_install_79 (by decide) rfl ?_
                    refine v_iload G 0 dX10_install_81 rfl ?_
                    refine v_if_ne_f G (tgt := 88) dX10_install_83 (by decide) (by decide) ?_
                    refine v_iconst G (v := (-1 : Int32)) dX10_install_86 (by decide) ?_
                    exact v_iret G rfl (hρ _) dX10_install_87
                  · replace hk := ok_f c_11 hk
                    refine v_iload G 5 dX10_install_67 rfl ?_
                    refine v_ldc G (v := (65536 : Int32)) dX10_install_69 w4_209 ?_
                    refine v_icmp_gt G (tgt := 78) dX10_install_71 (by decide) (fun c_12 => ?_) (fun c_12 => ?_)
                    · refine v_iconst G (v := (0 : Int32)) dX10_install_78 (by decide) ?_
                      refine v_istore G [(7, .int (0 : Int32)), (6, .int x_1), (0, .ref (adr X 0)), (1, .int a1), (2, .int a2), (3, .int a3), (4, .int a4), (5, .int a5)] dX10_install_79 (by decide) rfl ?_
                      refine v_iload G 0 dX10_install_81 rfl ?_
                      refine v_if_ne_f G (tgt := 88) dX10_install_83 (by decide) (by decide) ?_
                      refine v_iconst G (v := (-1 : Int32)) dX10_install_86 (by decide) ?_
                      exact v_iret G rfl (hρ _) dX10_install_87
                    · replace hk := ok_f c_12 hk
                      refine v_iconst G (v := (1 : Int32)) dX10_install_74 (by decide) ?_
                      refine v_goto G (tgt := 79) dX10_install_75 (by decide) ?_
                      refine v_istore G [(7, .int (1 : Int32)), (6, .int x_1), (0, .ref (adr X 0)), (1, .int a1), (2, .int a2), (3, .int a3), (4, .int a4), (5, .int a5)] dX10_install_79 (by decide) rfl ?_
                      refine v_iload G 0 dX10_install_81 rfl ?_
                      refine v_if_ne_t G (tgt := 88) dX10_install_83 (by decide) (by decide) ?_
                      refine v_iload G 1 dX10_install_88 rfl ?_
                      refine v_iload_n G 4 dX10_install_90 rfl ?_
                      refine v_icmp_le G (tgt := 97) dX10_install_91 (by decide) (fun c_13 => ?_) (fun c_13 => ?_)
                      · replace hk := ok_f c_13 hk
                        refine v_aload_n G 2 dX10_install_97 rfl ?_
                        refine v_iconst G (v := (1 : Int32)) dX10_install_98 (by decide) ?_
                        refine v_puti G (ci := 10) (T := TX10) (j := 0) inX10 rfl rfl tyX10_ok nmX10 rfl (by decide) rfl rfl rfl w4_95 dX10_install_99 (fun S_14 eS_14 => ?_)
                        replace hk := ok_v eS_14 hk
                        refine v_aload_n G 2 dX10_install_102 rfl ?_
                        refine v_iconst G (v := (0 : Int32)) dX10_install_103 (by decide) ?_
                        refine v_puti G (ci := 10) (T := TX10) (j := 1) inX10 rfl rfl tyX10_ok nmX10 rfl (by decide) rfl rfl rfl w4_96 dX10_install_104 (fun S_15 eS_15 => ?_)
                        replace hk := ok_v eS_15 hk
                        refine v_aload_n G 2 dX10_install_107 rfl ?_
                        refine v_iconst G (v := (0 : Int32)) dX10_install_108 (by decide) ?_
                        refine v_puti G (ci := 10) (T := TX10) (j := 2) inX10 rfl rfl tyX10_ok nmX10 rfl (by decide) rfl rfl rfl w4_97 dX10_install_109 (fun S_16 eS_16 => ?_)
                        replace hk := ok_v eS_16 hk
                        refine v_aload_n G 2 dX10_install_112 rfl ?_
                        refine v_iconst G (v := (0 : Int32)) dX10_install_113 (by decide) ?_
                        refine v_puti G (ci := 10) (T := TX10) (j := 17) inX10 rfl rfl tyX10_ok nmX10 rfl (by decide) rfl rfl rfl w4_112 dX10_install_114 (fun S_17 eS_17 => ?_)
                        replace hk := ok_v eS_17 hk
                        refine v_aload_n G 2 dX10_install_117 rfl ?_
                        refine v_iload_n G 3 dX10_install_118 rfl ?_
                        refine v_puti G (ci := 10) (T := TX10) (j := 3) inX10 rfl rfl tyX10_ok nmX10 rfl (by decide) rfl rfl rfl w4_98 dX10_install_119 (fun S_18 eS_18 => ?_)
                        replace hk := ok_v eS_18 hk
                        refine v_aload_n G 2 dX10_install_122 rfl ?_
                        refine v_iload_n G 4 dX10_install_123 rfl ?_
                        refine v_puti G (ci := 10) (T := TX10) (j := 4) inX10 rfl rfl tyX10_ok nmX10 rfl (by decide) rfl rfl rfl w4_99 dX10_install_124 (fun S_19 eS_19 => ?_)
                        replace hk := ok_v eS_19 hk
                        refine v_aload_n G 2 dX10_install_127 rfl ?_
                        refine v_iload_n G 5 dX10_install_128 rfl ?_
                        refine v_puti G (ci := 10) (T := TX10) (j := 5) inX10 rfl rfl tyX10_ok nmX10 rfl (by decide) rfl rfl rfl w4_100 dX10_install_129 (fun S_20 eS_20 => ?_)
                        replace hk := ok_v eS_20 hk
                        refine v_aload_n G 2 dX10_install_132 rfl ?_
                        refine v_iload G 6 dX10_install_133 rfl ?_
                        refine v_puti G (ci := 10) (T := TX10) (j := 6) inX10 rfl rfl tyX10_ok nmX10 rfl (by decide) rfl rfl rfl w4_101 dX10_install_135 (fun S_21 eS_21 => ?_)
                        replace hk := ok_v eS_21 hk
                        refine v_aload_n G 2 dX10_install_138 rfl ?_
                        refine v_iload G 7 dX10_install_139 rfl ?_
                        refine v_puti G (ci := 10) (T := TX10) (j := 7) inX10 rfl rfl tyX10_ok nmX10 rfl (by decide) rfl rfl rfl w4_102 dX10_install_141 (fun S_22 eS_22 => ?_)
                        replace hk := ok_v eS_22 hk
                        refine v_aload_n G 2 dX10_install_144 rfl ?_
                        refine v_iconst G (v := (3 : Int32)) dX10_install_145 (by decide) ?_
                        refine v_iconst G (v := (2 : Int32)) dX10_install_146 (by decide) ?_
                        refine v_bipush G (v := (36 : Int32)) dX10_install_147 (by decide) ?_
                        refine v_aload_n G 2 dX10_install_149 rfl ?_
                        refine v_geti G (ci := 10) (T := TX10) (j := 3) inX10 rfl rfl rfl (by decide) w4_98 dX10_install_150 ?_
                        refine v_iconst G (v := (4 : Int32)) dX10_install_153 (by decide) ?_
                        refine v_idiv G dX10_install_154 (by decide) ?_
                        refine v_iadd G dX10_install_155 ?_
                        refine v_imul G dX10_install_156 ?_
                        refine v_iadd G dX10_install_157 ?_
                        refine v_puti G (ci := 10) (T := TX10) (j := 9) inX10 rfl rfl tyX10_ok nmX10 rfl (by decide) rfl rfl rfl w4_104 dX10_install_158 (fun S_23 eS_23 => ?_)
                        replace hk := ok_v eS_23 hk
                        refine v_aload_n G 2 dX10_install_161 rfl ?_
                        refine v_aload_n G 2 dX10_install_162 rfl ?_
                        refine v_geti G (ci := 10) (T := TX10) (j := 9) inX10 rfl rfl rfl (by decide) w4_104 dX10_install_163 ?_
                        refine v_iconst G (v := (2 : Int32)) dX10_install_166 (by decide) ?_
                        refine v_aload_n G 2 dX10_install_167 rfl ?_
                        refine v_geti G (ci := 10) (T := TX10) (j := 5) inX10 rfl rfl rfl (by decide) w4_100 dX10_install_168 ?_
                        refine v_imul G dX10_install_171 ?_
                        refine v_iadd G dX10_install_172 ?_
                        refine v_puti G (ci := 10) (T := TX10) (j := 10) inX10 rfl rfl tyX10_ok nmX10 rfl (by decide) rfl rfl rfl w4_105 dX10_install_173 (fun S_24 eS_24 => ?_)
                        replace hk := ok_v eS_24 hk
                        refine v_aload_n G 2 dX10_install_176 rfl ?_
                        refine v_aload_n G 2 dX10_install_177 rfl ?_
                        refine v_geti G (ci := 10) (T := TX10) (j := 10) inX10 rfl rfl rfl (by decide) w4_105 dX10_install_178 ?_
                        refine v_aload_n G 2 dX10_install_181 rfl ?_
                        refine v_geti G (ci := 10) (T := TX10) (j := 4) inX10 rfl rfl rfl (by decide) w4_99 dX10_install_182 ?_
                        refine v_iconst G (v := (4 : Int32)) dX10_install_185 (by decide) ?_
                        refine v_idiv G dX10_install_186 (by decide) ?_
                        refine v_iadd G dX10_install_187 ?_
                        refine v_puti G (ci := 10) (T := TX10) (j := 8) inX10 rfl rfl tyX10_ok nmX10 rfl (by decide) rfl rfl rfl w4_103 dX10_install_188 (fun S_25 eS_25 => ?_)
                        replace hk := ok_v eS_25 hk
                        refine v_iconst G (v := (0 : Int32)) dX10_install_191 (by decide) ?_
                        refine v_istore G [(8, .int (0 : Int32)), (7, .int (1 : Int32)), (6, .int x_1), (0, .ref (adr X 0)), (1, .int a1), (2, .int a2), (3, .int a3), (4, .int a4), (5, .int a5)] dX10_install_192 (by decide) rfl ?_
                        exact v_sub (lv' := [(0, .ref (adr X 0)), (1, .int a1), (2, .int a2), (3, .int a3), (4, .int a4), (5, .int a5), (6, .int x_1), (7, .int (1 : Int32)), (8, .int (0 : Int32))]) [3, 4, 5, 6, 7, 8, 2, 1, 0] rfl (v_M_install_194 hρ hJ hX G fuz S_25 a1 a2 a3 a4 a5 x_1 (1 : Int32) (0 : Int32) (lp_z _ _) (by decide) hk)
                      · refine v_bipush G (v := (-2 : Int32)) dX10_install_94 (by decide) ?_
                        exact v_iret G rfl (hρ _) dX10_install_96

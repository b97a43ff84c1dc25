/-! SensorNodeModel$Guest.decode -/
theorem qyX9_decode : yX9_decode.cls ≠ "java/lang/invoke/MethodHandle" ∧ yX9_decode.cls ≠ "java/lang/invoke/VarHandle" ∧ (parseMethodDescriptor yX9_decode.desc).map (fun d => d.parameters.length) = some 1 := by decide +kernel
noncomputable def f_H_decode_442 (S : St) (kg kx kr ko n : Nat) (v1 v2 v3 v4 v5 v6 : Int32) : St := (if v4 = (1 : Int32) then bnv (f_H_gives S kg kx kr ko n (f_H_shifted S v2 (v3 &&& (31 : Int32)) v4 v5)) (fun S_1444 => S_1444) else (if v4 = (5 : Int32) then bnv (f_H_gives S kg kx kr ko n (f_H_shifted S v2 (v3 &&& (31 : Int32)) v4 v5)) (fun S_1451 => S_1451) else (if v4 = 0 then (if v5 = (32 : Int32) then bnv (f_H_gives S kg kx kr ko n (v2 - v3)) (fun S_1450 => S_1450) else bnv (f_H_gives S kg kx kr ko n (f_H_worked S v2 v3 v4)) (fun S_1449 => S_1449)) else bnv (f_H_gives S kg kx kr ko n (f_H_worked S v2 v3 v4)) (fun S_1447 => S_1447))))
set_option linter.unusedVariables false in
set_option maxHeartbeats 4000000 in
set_option maxRecDepth 100000 in
theorem v_H_decode_442 {p : Program} {l : Launch} {e : Env} {s : State} {m : MethodId} {args : Array Value} {below : List Frame} {meth : Method} {c : Code} {X : vD}  (hJ : sh_J X) (hX : shp X = shM) {kg kx kr ko n : Nat} (G : vG p s m args meth c X shM "SensorNodeModel$Guest" cX9_decode 7 none) (hH : isH kg kx kr ko n) (S : St) (v1 v2 v3 v4 v5 v6 : Int32)   : V p l e 3 s m args below meth c X 7 (fun S : St => ((none, S) : Option Value × St)) S 442 [(0, .ref (adr X kg)), (1, .int v1), (2, .int v2), (3, .int v3), (4, .int v4), (5, .int v5), (6, .int v6)] [] (f_H_decode_442 S kg kx kr ko n v1 v2 v3 v4 v5 v6) := by
  unfold f_H_decode_442
  refine v_aload_n G 0 dX9_decode_442 rfl ?_
  refine v_iload G 4 dX9_decode_443 rfl ?_
  refine v_iconst G (v := (1 : Int32)) dX9_decode_445 (by decide) ?_
  refine v_icmp_eq G (tgt := 455) dX9_decode_446 (by decide) (fun c_1443 => ?_) (fun c_1443 => ?_)
  · refine v_iload_n G 2 dX9_decode_455 rfl ?_
    refine v_iload_n G 3 dX9_decode_456 rfl ?_
    refine v_bipush G (v := (31 : Int32)) dX9_decode_457 (by decide) ?_
    refine v_iand G dX9_decode_459 ?_
    refine v_iload G 4 dX9_decode_460 rfl ?_
    refine v_iload G 5 dX9_decode_462 rfl ?_
    refine v_callSi G (As := [.int v2, .int (v3 &&& (31 : Int32)), .int v4, .int v5]) (st := [.ref (adr X kg)]) (c_H_shifted l hJ hX S v2 (v3 &&& (31 : Int32)) v4 v5) (by decide) (by decide) w5_118 w5_119 w1_10 w5_120 qyX9_shifted rfl (Nat.le_of_ble_eq_true rfl) dX9_decode_464 ?_
    refine v_goto G (tgt := 495) dX9_decode_467 (by decide) ?_
    refine v_callVv G (As := [.int (f_H_shifted S v2 (v3 &&& (31 : Int32)) v4 v5)]) (st := []) (c_H_gives l hJ hX kg kx kr ko n hH S (f_H_shifted S v2 (v3 &&& (31 : Int32)) v4 v5)) (by decide) (by decide) (ci := 9) rfl hH.1 w5_89 w5_91 w0_44 w1_10 w5_92 qyX9_gives rfl (Nat.le_of_ble_eq_true rfl) dX9_decode_495 ?_
    refine v_bnv (fun S_1444 eS_1444 => ?_)
    refine v_goto G (tgt := 543) dX9_decode_498 (by decide) ?_
    exact v_vret G rfl rfl dX9_decode_543
  · refine v_iload G 4 dX9_decode_449 rfl ?_
    refine v_iconst G (v := (5 : Int32)) dX9_decode_451 (by decide) ?_
    refine v_icmp_ne G (tgt := 470) dX9_decode_452 (by decide) (fun c_1445 => ?_) (fun c_1445 => ?_)
    · refine v_iload G 4 dX9_decode_470 rfl ?_
      refine v_if_ne G (tgt := 488) dX9_decode_472 (by decide) (fun c_1446 => ?_) (fun c_1446 => ?_)
      · refine v_iload_n G 2 dX9_decode_488 rfl ?_
        refine v_iload_n G 3 dX9_decode_489 rfl ?_
        refine v_iload G 4 dX9_decode_490 rfl ?_
        refine v_callSi G (As := [.int v2, .int v3, .int v4]) (st := [.ref (adr X kg)]) (c_H_worked l hJ hX S v2 v3 v4) (by decide) (by decide) w5_121 w5_122 w1_10 w5_123 qyX9_worked rfl (Nat.le_of_ble_eq_true rfl) dX9_decode_492 ?_
        refine v_callVv G (As := [.int (f_H_worked S v2 v3 v4)]) (st := []) (c_H_gives l hJ hX kg kx kr ko n hH S (f_H_worked S v2 v3 v4)) (by decide) (by decide) (ci := 9) rfl hH.1 w5_89 w5_91 w0_44 w1_10 w5_92 qyX9_gives rfl (Nat.le_of_ble_eq_true rfl) dX9_decode_495 ?_
        refine v_bnv (fun S_1447 eS_1447 => ?_)
        refine v_goto G (tgt := 543) dX9_decode_498 (by decide) ?_
        exact v_vret G rfl rfl dX9_decode_543
      · refine v_iload G 5 dX9_decode_475 rfl ?_
        refine v_bipush G (v := (32 : Int32)) dX9_decode_477 (by decide) ?_
        refine v_icmp_ne G (tgt := 488) dX9_decode_479 (by decide) (fun c_1448 => ?_) (fun c_1448 => ?_)
        · refine v_iload_n G 2 dX9_decode_488 rfl ?_
          refine v_iload_n G 3 dX9_decode_489 rfl ?_
          refine v_iload G 4 dX9_decode_490 rfl ?_
          refine v_callSi G (As := [.int v2, .int v3, .int v4]) (st := [.ref (adr X kg)]) (c_H_worked l hJ hX S v2 v3 v4) (by decide) (by decide) w5_121 w5_122 w1_10 w5_123 qyX9_worked rfl (Nat.le_of_ble_eq_true rfl) dX9_decode_492 ?_
          refine v_callVv G (As := [.int (f_H_worked S v2 v3 v4)]) (st := []) (c_H_gives l hJ hX kg kx kr ko n hH S (f_H_worked S v2 v3 v4)) (by decide) (by decide) (ci := 9) rfl hH.1 w5_89 w5_91 w0_44 w1_10 w5_92 qyX9_gives rfl (Nat.le_of_ble_eq_true rfl) dX9_decode_495 ?_
          refine v_bnv (fun S_1449 eS_1449 => ?_)
          refine v_goto G (tgt := 543) dX9_decode_498 (by decide) ?_
          exact v_vret G rfl rfl dX9_decode_543
        · refine v_iload_n G 2 dX9_decode_482 rfl ?_
          refine v_iload_n G 3 dX9_decode_483 rfl ?_
          refine v_isub G dX9_decode_484 ?_
          refine v_goto G (tgt := 495) dX9_decode_485 (by decide) ?_
          refine v_callVv G (As := [.int (v2 - v3)]) (st := []) (c_H_gives l hJ hX kg kx kr ko n hH S (v2 - v3)) (by decide) (by decide) (ci := 9) rfl hH.1 w5_89 w5_91 w0_44 w1_10 w5_92 qyX9_gives rfl (Nat.le_of_ble_eq_true rfl) dX9_decode_495 ?_
          refine v_bnv (fun S_1450 eS_1450 => ?_)
          refine v_goto G (tgt := 543) dX9_decode_498 (by decide) ?_
          exact v_vret G rfl rfl dX9_decode_543
    · refine v_iload_n G 2 dX9_decode_455 rfl ?_
      refine v_iload_n G 3 dX9_decode_456 rfl ?_
      refine v_bipush G (v := (31 : Int32)) dX9_decode_457 (by decide) ?_
      refine v_iand G dX9_decode_459 ?_
      refine v_iload G 4 dX9_decode_460 rfl ?_
      refine v_iload G 5 dX9_decode_462 rfl ?_
      refine v_callSi G (As := [.int v2, .int (v3 &&& (31 : Int32)), .int v4, .int v5]) (st := [.ref (adr X kg)]) (c_H_shifted l hJ hX S v2 (v3 &&& (31 : Int32)) v4 v5) (by decide) (by decide) w5_118 w5_119 w1_10 w5_120 qyX9_shifted rfl (Nat.le_of_ble_eq_true rfl) dX9_decode_464 ?_
      refine v_goto G (tgt := 495) dX9_decode_467 (by decide) ?_
      refine v_callVv G (As := [.int (f_H_shifted S v2 (v3 &&& (31 : Int32)) v4 v5)]) (st := []) (c_H_gives l hJ hX kg kx kr ko n hH S (f_H_shifted S v2 (v3 &&& (31 : Int32)) v4 v5)) (by decide) (by decide) (ci := 9) rfl hH.1 w5_89 w5_91 w0_44 w1_10 w5_92 qyX9_gives rfl (Nat.le_of_ble_eq_true rfl) dX9_decode_495 ?_
      refine v_bnv (fun S_1451 eS_1451 => ?_)
      refine v_goto G (tgt := 543) dX9_decode_498 (by decide) ?_
      exact v_vret G rfl rfl dX9_decode_543
noncomputable def f_H_decode_368 (S : St) (kg kx kr ko n : Nat) (v1 v2 v3 v4 v5 v6 : Int32) : St := (if v4 = (1 : Int32) then bnv (f_H_gives S kg kx kr ko n (f_H_shifted S v2 (f_H_bits S v1 (20 : Int32) (5 : Int32)) v4 v5)) (fun S_1370 => S_1370) else (if v4 = (5 : Int32) then bnv (f_H_gives S kg kx kr ko n (f_H_shifted S v2 (f_H_bits S v1 (20 : Int32) (5 : Int32)) v4 v5)) (fun S_1373 => S_1373) else bnv (f_H_gives S kg kx kr ko n (f_H_worked S v2 v6 v4)) (fun S_1372 => S_1372)))
set_option linter.unusedVariables false in
set_option maxHeartbeats 4000000 in
set_option maxRecDepth 100000 in
theorem v_H_decode_368 {p : Program} {l : Launch} {e : Env} {s : State} {m : MethodId} {args : Array Value} {below : List Frame} {meth : Method} {c : Code} {X : vD}  (hJ : sh_J X) (hX : shp X = shM) {kg kx kr ko n : Nat} (G : vG p s m args meth c X shM "SensorNodeModel$Guest" cX9_decode 7 none) (hH : isH kg kx kr ko n) (S : St) (v1 v2 v3 v4 v5 v6 : Int32)   : V p l e 3 s m args below meth c X 7 (fun S : St => ((none, S) : Option Value × St)) S 368 [(0, .ref (adr X kg)), (1, .int v1), (2, .int v2), (3, .int v3), (4, .int v4), (5, .int v5), (6, .int v6)] [] (f_H_decode_368 S kg kx kr ko n v1 v2 v3 v4 v5 v6) := by
  unfold f_H_decode_368
  refine v_aload_n G 0 dX9_decode_368 rfl ?_
  refine v_iload G 4 dX9_decode_369 rfl ?_
  refine v_iconst G (v := (1 : Int32)) dX9_decode_371 (by decide) ?_
  refine v_icmp_eq G (tgt := 381) dX9_decode_372 (by decide) (fun c_1369 => ?_) (fun c_1369 => ?_)
  · refine v_iload_n G 2 dX9_decode_381 rfl ?_
    refine v_iload_n G 1 dX9_decode_382 rfl ?_
    refine v_bipush G (v := (20 : Int32)) dX9_decode_383 (by decide) ?_
    refine v_iconst G (v := (5 : Int32)) dX9_decode_385 (by decide) ?_
    refine v_callSi G (As := [.int v1, .int (20 : Int32), .int (5 : Int32)]) (st := [.int v2, .ref (adr X kg)]) (c_H_bits l hJ hX S v1 (20 : Int32) (5 : Int32)) (by decide) (by decide) w5_57 w5_58 w1_10 w5_59 qyX9_bits rfl (Nat.le_of_ble_eq_true rfl) dX9_decode_386 ?_
    refine v_iload G 4 dX9_decode_389 rfl ?_
    refine v_iload G 5 dX9_decode_391 rfl ?_
    refine v_callSi G (As := [.int v2, .int (f_H_bits S v1 (20 : Int32) (5 : Int32)), .int v4, .int v5]) (st := [.ref (adr X kg)]) (c_H_shifted l hJ hX S v2 (f_H_bits S v1 (20 : Int32) (5 : Int32)) v4 v5) (by decide) (by decide) w5_118 w5_119 w1_10 w5_120 qyX9_shifted rfl (Nat.le_of_ble_eq_true rfl) dX9_decode_393 ?_
    refine v_goto G (tgt := 407) dX9_decode_396 (by decide) ?_
    refine v_callVv G (As := [.int (f_H_shifted S v2 (f_H_bits S v1 (20 : Int32) (5 : Int32)) v4 v5)]) (st := []) (c_H_gives l hJ hX kg kx kr ko n hH S (f_H_shifted S v2 (f_H_bits S v1 (20 : Int32) (5 : Int32)) v4 v5)) (by decide) (by decide) (ci := 9) rfl hH.1 w5_89 w5_91 w0_44 w1_10 w5_92 qyX9_gives rfl (Nat.le_of_ble_eq_true rfl) dX9_decode_407 ?_
    refine v_bnv (fun S_1370 eS_1370 => ?_)
    refine v_goto G (tgt := 543) dX9_decode_410 (by decide) ?_
    exact v_vret G rfl rfl dX9_decode_543
  · refine v_iload G 4 dX9_decode_375 rfl ?_
    refine v_iconst G (v := (5 : Int32)) dX9_decode_377 (by decide) ?_
    refine v_icmp_ne G (tgt := 399) dX9_decode_378 (by decide) (fun c_1371 => ?_) (fun c_1371 => ?_)
    · refine v_iload_n G 2 dX9_decode_399 rfl ?_
      refine v_iload G 6 dX9_decode_400 rfl ?_
      refine v_iload G 4 dX9_decode_402 rfl ?_
      refine v_callSi G (As := [.int v2, .int v6, .int v4]) (st := [.ref (adr X kg)]) (c_H_worked l hJ hX S v2 v6 v4) (by decide) (by decide) w5_121 w5_122 w1_10 w5_123 qyX9_worked rfl (Nat.le_of_ble_eq_true rfl) dX9_decode_404 ?_
      refine v_callVv G (As := [.int (f_H_worked S v2 v6 v4)]) (st := []) (c_H_gives l hJ hX kg kx kr ko n hH S (f_H_worked S v2 v6 v4)) (by decide) (by decide) (ci := 9) rfl hH.1 w5_89 w5_91 w0_44 w1_10 w5_92 qyX9_gives rfl (Nat.le_of_ble_eq_true rfl) dX9_decode_407 ?_
      refine v_bnv (fun S_1372 eS_1372 => ?_)
      refine v_goto G (tgt := 543) dX9_decode_410 (by decide) ?_
      exact v_vret G rfl rfl dX9_decode_543
    · refine v_iload_n G 2 dX9_decode_381 rfl ?_
      refine v_iload_n G 1 dX9_decode_382 rfl ?_
      refine v_bipush G (v := (20 : Int32)) dX9_decode_383 (by decide) ?_
      refine v_iconst G (v := (5 : Int32)) dX9_decode_385 (by decide) ?_
      refine v_callSi G (As := [.int v1, .int (20 : Int32), .int (5 : Int32)]) (st := [.int v2, .ref (adr X kg)]) (c_H_bits l hJ hX S v1 (20 : Int32) (5 : Int32)) (by decide) (by decide) w5_57 w5_58 w1_10 w5_59 qyX9_bits rfl (Nat.le_of_ble_eq_true rfl) dX9_decode_386 ?_
      refine v_iload G 4 dX9_decode_389 rfl ?_
      refine v_iload G 5 dX9_decode_391 rfl ?_
      refine v_callSi G (As := [.int v2, .int (f_H_bits S v1 (20 : Int32) (5 : Int32)), .int v4, .int v5]) (st := [.ref (adr X kg)]) (c_H_shifted l hJ hX S v2 (f_H_bits S v1 (20 : Int32) (5 : Int32)) v4 v5) (by decide) (by decide) w5_118 w5_119 w1_10 w5_120 qyX9_shifted rfl (Nat.le_of_ble_eq_true rfl) dX9_decode_393 ?_
      refine v_goto G (tgt := 407) dX9_decode_396 (by decide) ?_
      refine v_callVv G (As := [.int (f_H_shifted S v2 (f_H_bits S v1 (20 : Int32) (5 : Int32)) v4 v5)]) (st := []) (c_H_gives l hJ hX kg kx kr ko n hH S (f_H_shifted S v2 (f_H_bits S v1 (20 : Int32) (5 : Int32)) v4 v5)) (by decide) (by decide) (ci := 9) rfl hH.1 w5_89 w5_91 w0_44 w1_10 w5_92 qyX9_gives rfl (Nat.le_of_ble_eq_true rfl) dX9_decode_407 ?_
      refine v_bnv (fun S_1373 eS_1373 => ?_)
      refine v_goto G (tgt := 543) dX9_decode_410 (by decide) ?_
      exact v_vret G rfl rfl dX9_decode_543
noncomputable def f_H_decode_257 (S : St) (kg kx kr ko n : Nat) (v1 v2 v3 v4 v5 v6 : Int32) : St := bnv (f_H_gives S kg kx kr ko n ((S kg 1) + (4 : Int32))) (fun S_1258 => bnv (f_H_goes S_1258 kg kx kr ko n ((v2 + v6) &&& (-2 : Int32))) (fun S_1259 => S_1259))
set_option linter.unusedVariables false in
set_option maxHeartbeats 4000000 in
set_option maxRecDepth 100000 in
theorem v_H_decode_257 {p : Program} {l : Launch} {e : Env} {s : State} {m : MethodId} {args : Array Value} {below : List Frame} {meth : Method} {c : Code} {X : vD}  (hJ : sh_J X) (hX : shp X = shM) {kg kx kr ko n : Nat} (G : vG p s m args meth c X shM "SensorNodeModel$Guest" cX9_decode 7 none) (hH : isH kg kx kr ko n) (S : St) (v1 v2 v3 v4 v5 v6 : Int32)   : V p l e 3 s m args below meth c X 7 (fun S : St => ((none, S) : Option Value × St)) S 257 [(0, .ref (adr X kg)), (1, .int v1), (2, .int v2), (3, .int v3), (4, .int v4), (5, .int v5), (6, .int v6)] [] (f_H_decode_257 S kg kx kr ko n v1 v2 v3 v4 v5 v6) := by
  unfold f_H_decode_257
  refine v_aload_n G 0 dX9_decode_257 rfl ?_
  refine v_aload_n G 0 dX9_decode_258 rfl ?_
  refine v_geti G (ci := 9) (T := TX9) (j := 1) inX9 rfl hH.1 rfl (by decide) w3_230 dX9_decode_259 ?_
  refine v_iconst G (v := (4 : Int32)) dX9_decode_262 (by decide) ?_
  refine v_iadd G dX9_decode_263 ?_
  refine v_callVv G (As := [.int ((S kg 1) + (4 : Int32))]) (st := []) (c_H_gives l hJ hX kg kx kr ko n hH S ((S kg 1) + (4 : Int32))) (by decide) (by decide) (ci := 9) rfl hH.1 w5_89 w5_91 w0_44 w1_10 w5_92 qyX9_gives rfl (Nat.le_of_ble_eq_true rfl) dX9_decode_264 ?_
  refine v_bnv (fun S_1258 eS_1258 => ?_)
  refine v_aload_n G 0 dX9_decode_267 rfl ?_
  refine v_iload_n G 2 dX9_decode_268 rfl ?_
  refine v_iload G 6 dX9_decode_269 rfl ?_
  refine v_iadd G dX9_decode_271 ?_
  refine v_bipush G (v := (-2 : Int32)) dX9_decode_272 (by decide) ?_
  refine v_iand G dX9_decode_274 ?_
  refine v_callVv G (As := [.int ((v2 + v6) &&& (-2 : Int32))]) (st := []) (c_H_goes l hJ hX kg kx kr ko n hH S_1258 ((v2 + v6) &&& (-2 : Int32))) (by decide) (by decide) (ci := 9) rfl hH.1 w5_94 w5_96 w0_45 w1_10 w5_97 qyX9_goes rfl (Nat.le_of_ble_eq_true rfl) dX9_decode_275 ?_
  refine v_bnv (fun S_1259 eS_1259 => ?_)
  refine v_goto G (tgt := 543) dX9_decode_278 (by decide) ?_
  exact v_vret G rfl rfl dX9_decode_543
noncomputable def f_H_decode (S : St) (kg kx kr ko n : Nat) (a1 : Int32) : St := bnx (S kx (f_H_bits S a1 (15 : Int32) (5 : Int32)).toNatClampNeg) (fun x_1 => bnx (S kx (f_H_bits S a1 (20 : Int32) (5 : Int32)).toNatClampNeg) (fun x_2 => bnx (f_H_bits S a1 (12 : Int32) (3 : Int32)) (fun x_3 => bnx (f_H_bits S a1 (25 : Int32) (7 : Int32)) (fun x_4 => bnx (a1 >>> ((20 : Int32) &&& 31)) (fun x_5 => bnx (a1 &&& (127 : Int32)) (fun x_6 => (if x_6 = (3 : Int32) then bnv (f_H_loads S kg kx kr ko n (x_1 + x_5) x_3) (fun S_8 => S_8)
 else (if x_6 = (15 : Int32) then (if 0 < x_3 then bnv (st_up S kg 12 (11 : Int32)) (fun S_11 => S_11) else S)
 else (if x_6 = (19 : Int32) then (if x_3 = (1 : Int32) then (if 0 < x_4 then bnv (st_up S kg 12 (11 : Int32)) (fun S_19 => (f_H_decode_368 S_19 kg kx kr ko n a1 x_1 x_2 x_3 x_4 x_5)) else (if x_3 = (5 : Int32) then (if x_4 = 0 then (f_H_decode_368 S kg kx kr ko n a1 x_1 x_2 x_3 x_4 x_5) else (if x_4 = (32 : Int32) then (f_H_decode_368 S kg kx kr ko n a1 x_1 x_2 x_3 x_4 x_5) else bnv (st_up S kg 12 (11 : Int32)) (fun S_23 => (f_H_decode_368 S_23 kg kx kr ko n a1 x_1 x_2 x_3 x_4 x_5)))) else (f_H_decode_368 S kg kx kr ko n a1 x_1 x_2 x_3 x_4 x_5))) else (if x_3 = (5 : Int32) then (if x_4 = 0 then (f_H_decode_368 S kg kx kr ko n a1 x_1 x_2 x_3 x_4 x_5) else (if x_4 = (32 : Int32) then (f_H_decode_368 S kg kx kr ko n a1 x_1 x_2 x_3 x_4 x_5) else bnv (st_up S kg 12 (11 : Int32)) (fun S_17 => (f_H_decode_368 S_17 kg kx kr ko n a1 x_1 x_2 x_3 x_4 x_5)))) else (f_H_decode_368 S kg kx kr ko n a1 x_1 x_2 x_3 x_4 x_5)))
 else (if x_6 = (23 : Int32) then bnv (f_H_gives S kg kx kr ko n ((S kg 1) + (a1 &&& (-4096 : Int32)))) (fun S_25 => S_25)
 else (if x_6 = (35 : Int32) then bnv (f_H_stores S kg kx kr ko n (x_1 + (((a1 >>> ((25 : Int32) &&& 31)) * (32 : Int32)) + (f_H_bits S a1 (7 : Int32) (5 : Int32)))) x_2 x_3) (fun S_27 => S_27)
 else (if x_6 = (51 : Int32) then (if x_4 = 0 then (f_H_decode_442 S kg kx kr ko n a1 x_1 x_2 x_3 x_4 x_5) else (if x_4 = (32 : Int32) then (if x_3 = 0 then (f_H_decode_442 S kg kx kr ko n a1 x_1 x_2 x_3 x_4 x_5) else (if x_3 = (5 : Int32) then (f_H_decode_442 S kg kx kr ko n a1 x_1 x_2 x_3 x_4 x_5) else bnv (st_up S kg 12 (11 : Int32)) (fun S_34 => (f_H_decode_442 S_34 kg kx kr ko n a1 x_1 x_2 x_3 x_4 x_5)))) else bnv (st_up S kg 12 (11 : Int32)) (fun S_31 => (f_H_decode_442 S_31 kg kx kr ko n a1 x_1 x_2 x_3 x_4 x_5))))
 else (if x_6 = (55 : Int32) then bnv (f_H_gives S kg kx kr ko n (a1 &&& (-4096 : Int32))) (fun S_36 => S_36)
 else (if x_6 = (99 : Int32) then bnv (f_H_branch S kg kx kr ko n a1 x_1 x_2 x_3) (fun S_38 => S_38)
 else (if x_6 = (103 : Int32) then (if 0 < x_3 then bnv (st_up S kg 12 (11 : Int32)) (fun S_41 => (f_H_decode_257 S_41 kg kx kr ko n a1 x_1 x_2 x_3 x_4 x_5)) else (f_H_decode_257 S kg kx kr ko n a1 x_1 x_2 x_3 x_4 x_5))
 else (if x_6 = (111 : Int32) then bnv (f_H_gives S kg kx kr ko n ((S kg 1) + (4 : Int32))) (fun S_43 => bnv (f_H_goes S_43 kg kx kr ko n ((S_43 kg 1) + (((((a1 >>> ((31 : Int32) &&& 31)) * (1048576 : Int32)) + ((f_H_bits S_43 a1 (12 : Int32) (8 : Int32)) * (4096 : Int32))) + ((f_H_bits S_43 a1 (20 : Int32) (1 : Int32)) * (2048 : Int32))) + ((f_H_bits S_43 a1 (21 : Int32) (10 : Int32)) * (2 : Int32))))) (fun S_44 => S_44))
 else (if x_6 = (115 : Int32) then (if a1 = (115 : Int32) then bnv (f_H_calls S kg kx kr ko n) (fun S_48 => S_48) else bnv (st_up S kg 12 (11 : Int32)) (fun S_47 => S_47))
 else bnv (st_up S kg 12 (11 : Int32)) (fun S_49 => S_49))))))))))))))))))
def k_H_decode (S : St) (kg kx kr ko n : Nat) (a1 : Int32) : Prop := (vp_in (f_H_bits S a1 (15 : Int32) (5 : Int32)) 32 ∧ bnx (S kx (f_H_bits S a1 (15 : Int32) (5 : Int32)).toNatClampNeg) (fun x_1 => (vp_in (f_H_bits S a1 (20 : Int32) (5 : Int32)) 32 ∧ bnx (S kx (f_H_bits S a1 (20 : Int32) (5 : Int32)).toNatClampNeg) (fun x_2 => bnx (f_H_bits S a1 (12 : Int32) (3 : Int32)) (fun x_3 => bnx (f_H_bits S a1 (25 : Int32) (7 : Int32)) (fun x_4 => bnx (a1 >>> ((20 : Int32) &&& 31)) (fun x_5 => bnx (a1 &&& (127 : Int32)) (fun x_6 => (if x_6 = (3 : Int32) then k_H_loads S kg kx kr ko n (x_1 + x_5) x_3
 else (if x_6 = (15 : Int32) then True
 else (if x_6 = (19 : Int32) then True
 else (if x_6 = (23 : Int32) then True
 else (if x_6 = (35 : Int32) then k_H_stores S kg kx kr ko n (x_1 + (((a1 >>> ((25 : Int32) &&& 31)) * (32 : Int32)) + (f_H_bits S a1 (7 : Int32) (5 : Int32)))) x_2 x_3
 else (if x_6 = (51 : Int32) then True
 else (if x_6 = (55 : Int32) then True
 else (if x_6 = (99 : Int32) then True
 else (if x_6 = (103 : Int32) then True
 else (if x_6 = (111 : Int32) then True
 else (if x_6 = (115 : Int32) then True
 else True)))))))))))))))))))
set_option linter.unusedVariables false in
set_option maxHeartbeats 4000000 in
set_option maxRecDepth 100000 in
theorem c_H_decode (l : Launch) {X : vD} (hJ : sh_J X) (hX : shp X = shM) (kg kx kr ko n : Nat) (hH : isH kg kx kr ko n) (S : St) (a1 : Int32) (hk : k_H_decode S kg kx kr ko n a1) : Con l X yX9_decode cX9_decode 7 none 3 [.ref (adr X kg), .int a1] S (none, f_H_decode S kg kx kr ko n a1) := by
  refine con_of (ρ := (fun S : St => ((none, S) : Option Value × St))) (K := f_H_decode S kg kx kr ko n a1) hJ hX (by decide) (Nat.le_of_ble_eq_true rfl) (lv := [(0, .ref (adr X kg)), (1, .int a1)]) rfl ?_
  intro p e s m below meth c G
  have G : vG p s m _ meth c X shM "SensorNodeModel$Guest" cX9_decode 7 none := G
  unfold f_H_decode
  unfold k_H_decode at hk
  refine v_aload_n G 0 dX9_decode_0 rfl ?_
  refine v_getr G (ci := 9) (T := TX9) (j := 0) inX9 rfl hH.1 rfl (by decide) w3_228 dX9_decode_1 ?_
  refine v_iload_n G 1 dX9_decode_4 rfl ?_
  refine v_bipush G (v := (15 : Int32)) dX9_decode_5 (by decide) ?_
  refine v_iconst G (v := (5 : Int32)) dX9_decode_7 (by decide) ?_
  refine v_callSi G (As := [.int a1, .int (15 : Int32), .int (5 : Int32)]) (st := [.ref (adr X kx)]) (c_H_bits l hJ hX S a1 (15 : Int32) (5 : Int32)) (by decide) (by decide) w5_57 w5_58 w1_10 w5_59 qyX9_bits rfl (Nat.le_of_ble_eq_true rfl) dX9_decode_8 ?_
  refine v_iald G hH.2.1 hk.1 dX9_decode_11 ?_
  replace hk := hk.2
  refine v_namei (fun x_1 ex_1 => ?_)
  replace hk := ok_x ex_1 hk
  refine v_istore_n G [(2, .int x_1), (0, .ref (adr X kg)), (1, .int a1)] dX9_decode_12 (by decide) rfl ?_
  refine v_aload_n G 1 dX9_decode_13 rfl ?_
  refine v_getr G (ci := 9) (T := TX9) (j := 0) inX9 rfl hH.1 rfl (by decide) w3_228 dX9_decode_14 ?_
  refine v_iload_n G 2 dX9_decode_17 rfl ?_
  refine v_bipush G (v := (20 : Int32)) dX9_decode_18 (by decide) ?_
  refine v_iconst G (v := (5 : Int32)) dX9_decode_20 (by decide) ?_
  refine v_callSi G (As := [.int a1, .int (20 : Int32), .int (5 : Int32)]) (st := [.ref (adr X kx)]) (c_H_bits l hJ hX S a1 (20 : Int32) (5 : Int32)) (by decide) (by decide) w5_57 w5_58 w1_10 w5_59 qyX9_bits rfl (Nat.le_of_ble_eq_true rfl) dX9_decode_21 ?_
  refine v_iald G hH.2.1 hk.1 dX9_decode_24 ?_
  replace hk := hk.2
  refine v_namei (fun x_2 ex_2 => ?_)
  replace hk := ok_x ex_2 hk
  refine v_istore_n G [(3, .int x_2), (2, .int x_1), (0, .ref (adr X kg)), (1, .int a1)] dX9_decode_25 (by decide) rfl ?_
  refine v_iload_n G 3 dX9_decode_26 rfl ?_
  refine v_bipush G (v := (12 : Int32)) dX9_decode_27 (by decide) ?_
  refine v_iconst G (v := (3 : Int32)) dX9_decode_29 (by decide) ?_
  refine v_callSi G (As := [.int a1, .int (12 : Int32), .int (3 : Int32)]) (st := []) (c_H_bits l hJ hX S a1 (12 : Int32) (3 : Int32)) (by decide) (by decide) w5_57 w5_58 w1_10 w5_59 qyX9_bits rfl (Nat.le_of_ble_eq_true rfl) dX9_decode_30 ?_
  refine v_namei (fun x_3 ex_3 => ?_)
  replace hk := ok_x ex_3 hk
  refine v_istore G [(4, .int x_3), (3, .int x_2), (2, .int x_1), (0, .ref (adr X kg)), (1, .int a1)] dX9_decode_33 (by decide) rfl ?_
  refine v_iload_n G 4 dX9_decode_35 rfl ?_
  refine v_bipush G (v := (25 : Int32)) dX9_decode_36 (by decide) ?_
  refine v_bipush G (v := (7 : Int32)) dX9_decode_38 (by decide) ?_
  refine v_callSi G (As := [.int a1, .int (25 : Int32), .int (7 : Int32)]) (st := []) (c_H_bits l hJ hX S a1 (25 : Int32) (7 : Int32)) (by decide) (by decide) w5_57 w5_58 w1_10 w5_59 qyX9_bits rfl (Nat.le_of_ble_eq_true rfl) dX9_decode_40 ?_
  refine v_namei (fun x_4 ex_4 => ?_)
  replace hk := ok_x ex_4 hk
  refine v_istore G [(5, .int x_4), (4, .int x_3), (3, .int x_2), (2, .int x_1), (0, .ref (adr X kg)), (1, .int a1)] dX9_decode_43 (by decide) rfl ?_
  refine v_iload_n G 5 dX9_decode_45 rfl ?_
  refine v_bipush G (v := (20 : Int32)) dX9_decode_46 (by decide) ?_
  refine v_ishr G dX9_decode_48 ?_
  refine v_namei (fun x_5 ex_5 => ?_)
  replace hk := ok_x ex_5 hk
  refine v_istore G [(6, .int x_5), (5, .int x_4), (4, .int x_3), (3, .int x_2), (2, .int x_1), (0, .ref (adr X kg)), (1, .int a1)] dX9_decode_49 (by decide) rfl ?_
  refine v_iload_n G 6 dX9_decode_51 rfl ?_
  refine v_bipush G (v := (127 : Int32)) dX9_decode_52 (by decide) ?_
  refine v_iand G dX9_decode_54 ?_
  refine v_namei (fun x_6 ex_6 => ?_)
  replace hk := ok_x ex_6 hk
  refine v_sw (3 : Int32) (fun h_7 => ?_) (fun h_7 => ?_)
  · replace hk := ok_t h_7 hk
    refine v_lookup G (tgt := 293) (off := 238) dX9_decode_55 (by decide) (by decide) (by decide) ?_
    refine v_aload_n G 5 dX9_decode_293 rfl ?_
    refine v_iload_n G 4 dX9_decode_294 rfl ?_
    refine v_iload G 0 dX9_decode_295 rfl ?_
    refine v_iadd G dX9_decode_297 ?_
    refine v_iload G 2 dX9_decode_298 rfl ?_
    refine v_callVv G (As := [.int (x_1 + x_5), .int x_3]) (st := []) (c_H_loads l hJ hX kg kx kr ko n hH S (x_1 + x_5) x_3 hk) (by decide) (by decide) (ci := 9) rfl hH.1 w5_105 w5_107 w0_47 w1_10 w5_108 qyX9_loads rfl (Nat.le_of_ble_eq_true rfl) dX9_decode_300 ?_
    refine v_bnv (fun S_8 eS_8 => ?_)
    refine v_goto G (tgt := 543) dX9_decode_303 (by decide) ?_
    exact v_vret G rfl rfl dX9_decode_543
  replace hk := ok_f h_7 hk
  refine v_sw (15 : Int32) (fun h_9 => ?_) (fun h_9 => ?_)
  · refine v_lookup G (tgt := 501) (off := 446) dX9_decode_55 (by decide) (by decide) (by decide) ?_
    refine v_iload G 2 dX9_decode_501 rfl ?_
    refine v_if_le G (tgt := 543) dX9_decode_503 (by decide) (fun c_10 => ?_) (fun c_10 => ?_)
    · exact v_vret G rfl rfl dX9_decode_543
    · refine v_aload_n G 5 dX9_decode_506 rfl ?_
      refine v_bipush G (v := (11 : Int32)) dX9_decode_507 (by decide) ?_
      refine v_puti G (ci := 9) (T := TX9) (j := 12) inX9 rfl hH.1 tyX9_ok nmX9 rfl (by decide) rfl rfl rfl w4_11 dX9_decode_509 (fun S_11 eS_11 => ?_)
      refine v_goto G (tgt := 543) dX9_decode_512 (by decide) ?_
      exact v_vret G rfl rfl dX9_decode_543
  replace hk := ok_f h_9 hk
  refine v_sw (19 : Int32) (fun h_12 => ?_) (fun h_12 => ?_)
  · refine v_lookup G (tgt := 333) (off := 278) dX9_decode_55 (by decide) (by decide) (by decide) ?_
    refine v_iload G 2 dX9_decode_333 rfl ?_
    refine v_iconst G (v := (1 : Int32)) dX9_decode_335 (by decide) ?_
    refine v_icmp_ne G (tgt := 344) dX9_decode_336 (by decide) (fun c_13 => ?_) (fun c_13 => ?_)
    · refine v_iload G 2 dX9_decode_344 rfl ?_
      refine v_iconst G (v := (5 : Int32)) dX9_decode_346 (by decide) ?_
      refine v_icmp_ne G (tgt := 368) dX9_decode_347 (by decide) (fun c_14 => ?_) (fun c_14 => ?_)
      · exact v_sub (lv' := [(0, .ref (adr X kg)), (1, .int a1), (2, .int x_1), (3, .int x_2), (4, .int x_3), (5, .int x_4), (6, .int x_5)]) [5, 6, 4, 3, 2, 1, 0] rfl (v_H_decode_368 hJ hX G hH S a1 x_1 x_2 x_3 x_4 x_5)
      · refine v_iload G 1 dX9_decode_350 rfl ?_
        refine v_if_eq G (tgt := 368) dX9_decode_352 (by decide) (fun c_15 => ?_) (fun c_15 => ?_)
        · exact v_sub (lv' := [(0, .ref (adr X kg)), (1, .int a1), (2, .int x_1), (3, .int x_2), (4, .int x_3), (5, .int x_4), (6, .int x_5)]) [5, 6, 4, 3, 2, 1, 0] rfl (v_H_decode_368 hJ hX G hH S a1 x_1 x_2 x_3 x_4 x_5)
        · refine v_iload G 1 dX9_decode_355 rfl ?_
          refine v_bipush G (v := (32 : Int32)) dX9_decode_357 (by decide) ?_
          refine v_icmp_eq G (tgt := 368) dX9_decode_359 (by decide) (fun c_16 => ?_) (fun c_16 => ?_)
          · exact v_sub (lv' := [(0, .ref (adr X kg)), (1, .int a1), (2, .int x_1), (3, .int x_2), (4, .int x_3), (5, .int x_4), (6, .int x_5)]) [5, 6, 4, 3, 2, 1, 0] rfl (v_H_decode_368 hJ hX G hH S a1 x_1 x_2 x_3 x_4 x_5)
          · refine v_aload_n G 5 dX9_decode_362 rfl ?_
            refine v_bipush G (v := (11 : Int32)) dX9_decode_363 (by decide) ?_
            refine v_puti G (ci := 9) (T := TX9) (j := 12) inX9 rfl hH.1 tyX9_ok nmX9 rfl (by decide) rfl rfl rfl w4_11 dX9_decode_365 (fun S_17 eS_17 => ?_)
            exact v_sub (lv' := [(0, .ref (adr X kg)), (1, .int a1), (2, .int x_1), (3, .int x_2), (4, .int x_3), (5, .int x_4), (6, .int x_5)]) [5, 6, 4, 3, 2, 1, 0] rfl (v_H_decode_368 hJ hX G hH S_17 a1 x_1 x_2 x_3 x_4 x_5)
    · refine v_iload G 1 dX9_decode_339 rfl ?_
      refine v_if_gt G (tgt := 362) dX9_decode_341 (by decide) (fun c_18 => ?_) (fun c_18 => ?_)
      · refine v_aload_n G 5 dX9_decode_362 rfl ?_
        refine v_bipush G (v := (11 : Int32)) dX9_decode_363 (by decide) ?_
        refine v_puti G (ci := 9) (T := TX9) (j := 12) inX9 rfl hH.1 tyX9_ok nmX9 rfl (by decide) rfl rfl rfl w4_11 dX9_decode_365 (fun S_19 eS_19 => ?_)
        exact v_sub (lv' := [(0, .ref (adr X kg)), (1, .int a1), (2, .int x_1), (3, .int x_2), (4, .int x_3), (5, .int x_4), (6, .int x_5)]) [5, 6, 4, 3, 2, 1, 0] rfl (v_H_decode_368 hJ hX G hH S_19 a1 x_1 x_2 x_3 x_4 x_5)
      · refine v_iload G 2 dX9_decode_344 rfl ?_
        refine v_iconst G (v := (5 : Int32)) dX9_decode_346 (by decide) ?_
        refine v_icmp_ne G (tgt := 368) dX9_decode_347 (by decide) (fun c_20 => ?_) (fun c_20 => ?_)
        · exact v_sub (lv' := [(0, .ref (adr X kg)), (1, .int a1), (2, .int x_1), (3, .int x_2), (4, .int x_3), (5, .int x_4), (6, .int x_5)]) [5, 6, 4, 3, 2, 1, 0] rfl (v_H_decode_368 hJ hX G hH S a1 x_1 x_2 x_3 x_4 x_5)
        · refine v_iload G 1 dX9_decode_350 rfl ?_
          refine v_if_eq G (tgt := 368) dX9_decode_352 (by decide) (fun c_21 => ?_) (fun c_21 => ?_)
          · exact v_sub (lv' := [(0, .ref (adr X kg)), (1, .int a1), (2, .int x_1), (3, .int x_2), (4, .int x_3), (5, .int x_4), (6, .int x_5)]) [5, 6, 4, 3, 2, 1, 0] rfl (v_H_decode_368 hJ hX G hH S a1 x_1 x_2 x_3 x_4 x_5)
          · refine v_iload G 1 dX9_decode_355 rfl ?_
            refine v_bipush G (v := (32 : Int32)) dX9_decode_357 (by decide) ?_
            refine v_icmp_eq G (tgt := 368) dX9_decode_359 (by decide) (fun c_22 => ?_) (fun c_22 => ?_)
            · exact v_sub (lv' := [(0, .ref (adr X kg)), (1, .int a1), (2, .int x_1), (3, .int x_2), (4, .int x_3), (5, .int x_4), (6, .int x_5)]) [5, 6, 4, 3, 2, 1, 0] rfl (v_H_decode_368 hJ hX G hH S a1 x_1 x_2 x_3 x_4 x_5)
            · refine v_aload_n G 5 dX9_decode_362 rfl ?_
              refine v_bipush G (v := (11 : Int32)) dX9_decode_363 (by decide) ?_
              refine v_puti G (ci := 9) (T := TX9) (j := 12) inX9 rfl hH.1 tyX9_ok nmX9 rfl (by decide) rfl rfl rfl w4_11 dX9_decode_365 (fun S_23 eS_23 => ?_)
              exact v_sub (lv' := [(0, .ref (adr X kg)), (1, .int a1), (2, .int x_1), (3, .int x_2), (4, .int x_3), (5, .int x_4), (6, .int x_5)]) [5, 6, 4, 3, 2, 1, 0] rfl (v_H_decode_368 hJ hX G hH S_23 a1 x_1 x_2 x_3 x_4 x_5)
  replace hk := ok_f h_12 hk
  refine v_sw (23 : Int32) (fun h_24 => ?_) (fun h_24 => ?_)
  · refine v_lookup G (tgt := 164) (off := 109) dX9_decode_55 (by decide) (by decide) (by decide) ?_
    refine v_aload_n G 5 dX9_decode_164 rfl ?_
    refine v_aload_n G 5 dX9_decode_165 rfl ?_
    refine v_geti G (ci := 9) (T := TX9) (j := 1) inX9 rfl hH.1 rfl (by decide) w3_230 dX9_decode_166 ?_
    refine v_iload_n G 6 dX9_decode_169 rfl ?_
    refine v_sipush G (v := (-4096 : Int32)) dX9_decode_170 (by decide) ?_
    refine v_iand G dX9_decode_173 ?_
    refine v_iadd G dX9_decode_174 ?_
    refine v_callVv G (As := [.int ((S kg 1) + (a1 &&& (-4096 : Int32)))]) (st := []) (c_H_gives l hJ hX kg kx kr ko n hH S ((S kg 1) + (a1 &&& (-4096 : Int32)))) (by decide) (by decide) (ci := 9) rfl hH.1 w5_89 w5_91 w0_44 w1_10 w5_92 qyX9_gives rfl (Nat.le_of_ble_eq_true rfl) dX9_decode_175 ?_
    refine v_bnv (fun S_25 eS_25 => ?_)
    refine v_goto G (tgt := 543) dX9_decode_178 (by decide) ?_
    exact v_vret G rfl rfl dX9_decode_543
  replace hk := ok_f h_24 hk
  refine v_sw (35 : Int32) (fun h_26 => ?_) (fun h_26 => ?_)
  · replace hk := ok_t h_26 hk
    refine v_lookup G (tgt := 306) (off := 251) dX9_decode_55 (by decide) (by decide) (by decide) ?_
    refine v_aload_n G 5 dX9_decode_306 rfl ?_
    refine v_iload_n G 4 dX9_decode_307 rfl ?_
    refine v_iload_n G 6 dX9_decode_308 rfl ?_
    refine v_bipush G (v := (25 : Int32)) dX9_decode_309 (by decide) ?_
    refine v_ishr G dX9_decode_311 ?_
    refine v_bipush G (v := (32 : Int32)) dX9_decode_312 (by decide) ?_
    refine v_imul G dX9_decode_314 ?_
    refine v_iload_n G 6 dX9_decode_315 rfl ?_
    refine v_bipush G (v := (7 : Int32)) dX9_decode_316 (by decide) ?_
    refine v_iconst G (v := (5 : Int32)) dX9_decode_318 (by decide) ?_
    refine v_callSi G (As := [.int a1, .int (7 : Int32), .int (5 : Int32)]) (st := [.int ((a1 >>> ((25 : Int32) &&& 31)) * (32 : Int32)), .int x_1, .ref (adr X kg)]) (c_H_bits l hJ hX S a1 (7 : Int32) (5 : Int32)) (by decide) (by decide) w5_57 w5_58 w1_10 w5_59 qyX9_bits rfl (Nat.le_of_ble_eq_true rfl) dX9_decode_319 ?_
    refine v_iadd G dX9_decode_322 ?_
    refine v_iadd G dX9_decode_323 ?_
    refine v_iload_n G 3 dX9_decode_324 rfl ?_
    refine v_iload G 2 dX9_decode_325 rfl ?_
    refine v_callVv G (As := [.int (x_1 + (((a1 >>> ((25 : Int32) &&& 31)) * (32 : Int32)) + (f_H_bits S a1 (7 : Int32) (5 : Int32)))), .int x_2, .int x_3]) (st := []) (c_H_stores l hJ hX kg kx kr ko n hH S (x_1 + (((a1 >>> ((25 : Int32) &&& 31)) * (32 : Int32)) + (f_H_bits S a1 (7 : Int32) (5 : Int32)))) x_2 x_3 hk) (by decide) (by decide) (ci := 9) rfl hH.1 w5_114 w5_116 w0_49 w1_10 w5_117 qyX9_stores rfl (Nat.le_of_ble_eq_true rfl) dX9_decode_327 ?_
    refine v_bnv (fun S_27 eS_27 => ?_)
    refine v_goto G (tgt := 543) dX9_decode_330 (by decide) ?_
    exact v_vret G rfl rfl dX9_decode_543
  replace hk := ok_f h_26 hk
  refine v_sw (51 : Int32) (fun h_28 => ?_) (fun h_28 => ?_)
  · refine v_lookup G (tgt := 413) (off := 358) dX9_decode_55 (by decide) (by decide) (by decide) ?_
    refine v_iload G 1 dX9_decode_413 rfl ?_
    refine v_if_eq G (tgt := 442) dX9_decode_415 (by decide) (fun c_29 => ?_) (fun c_29 => ?_)
    · exact v_sub (lv' := [(0, .ref (adr X kg)), (1, .int a1), (2, .int x_1), (3, .int x_2), (4, .int x_3), (5, .int x_4), (6, .int x_5)]) [5, 6, 4, 3, 2, 1, 0] rfl (v_H_decode_442 hJ hX G hH S a1 x_1 x_2 x_3 x_4 x_5)
    · refine v_iload G 1 dX9_decode_418 rfl ?_
      refine v_bipush G (v := (32 : Int32)) dX9_decode_420 (by decide) ?_
      refine v_icmp_ne G (tgt := 436) dX9_decode_422 (by decide) (fun c_30 => ?_) (fun c_30 => ?_)
      · refine v_aload_n G 5 dX9_decode_436 rfl ?_
        refine v_bipush G (v := (11 : Int32)) dX9_decode_437 (by decide) ?_
        refine v_puti G (ci := 9) (T := TX9) (j := 12) inX9 rfl hH.1 tyX9_ok nmX9 rfl (by decide) rfl rfl rfl w4_11 dX9_decode_439 (fun S_31 eS_31 => ?_)
        exact v_sub (lv' := [(0, .ref (adr X kg)), (1, .int a1), (2, .int x_1), (3, .int x_2), (4, .int x_3), (5, .int x_4), (6, .int x_5)]) [5, 6, 4, 3, 2, 1, 0] rfl (v_H_decode_442 hJ hX G hH S_31 a1 x_1 x_2 x_3 x_4 x_5)
      · refine v_iload G 2 dX9_decode_425 rfl ?_
        refine v_if_eq G (tgt := 442) dX9_decode_427 (by decide) (fun c_32 => ?_) (fun c_32 => ?_)
        · exact v_sub (lv' := [(0, .ref (adr X kg)), (1, .int a1), (2, .int x_1), (3, .int x_2), (4, .int x_3), (5, .int x_4), (6, .int x_5)]) [5, 6, 4, 3, 2, 1, 0] rfl (v_H_decode_442 hJ hX G hH S a1 x_1 x_2 x_3 x_4 x_5)
        · refine v_iload G 2 dX9_decode_430 rfl ?_
          refine v_iconst G (v := (5 : Int32)) dX9_decode_432 (by decide) ?_
          refine v_icmp_eq G (tgt := 442) dX9_decode_433 (by decide) (fun c_33 => ?_) (fun c_33 => ?_)
          · exact v_sub (lv' := [(0, .ref (adr X kg)), (1, .int a1), (2, .int x_1), (3, .int x_2), (4, .int x_3), (5, .int x_4), (6, .int x_5)]) [5, 6, 4, 3, 2, 1, 0] rfl (v_H_decode_442 hJ hX G hH S a1 x_1 x_2 x_3 x_4 x_5)
          · refine v_aload_n G 5 dX9_decode_436 rfl ?_
            refine v_bipush G (v := (11 : Int32)) dX9_decode_437 (by decide) ?_
            refine v_puti G (ci := 9) (T := TX9) (j := 12) inX9 rfl hH.1 tyX9_ok nmX9 rfl (by decide) rfl rfl rfl w4_11 dX9_decode_439 (fun S_34 eS_34 => ?_)
            exact v_sub (lv' := [(0, .ref (adr X kg)), (1, .int a1), (2, .int x_1), (3, .int x_2), (4, .int x_3), (5, .int x_4), (6, .int x_5)]) [5, 6, 4, 3, 2, 1, 0] rfl (v_H_decode_442 hJ hX G hH S_34 a1 x_1 x_2 x_3 x_4 x_5)
  replace hk := ok_f h_28 hk
  refine v_sw (55 : Int32) (fun h_35 => ?_) (fun h_35 => ?_)
  · refine v_lookup G (tgt := 152) (off := 97) dX9_decode_55 (by decide) (by decide) (by decide) ?_
    refine v_aload_n G 5 dX9_decode_152 rfl ?_
    refine v_iload_n G 6 dX9_decode_153 rfl ?_
    refine v_sipush G (v := (-4096 : Int32)) dX9_decode_154 (by decide) ?_
    refine v_iand G dX9_decode_157 ?_
    refine v_callVv G (As := [.int (a1 &&& (-4096 : Int32))]) (st := []) (c_H_gives l hJ hX kg kx kr ko n hH S (a1 &&& (-4096 : Int32))) (by decide) (by decide) (ci := 9) rfl hH.1 w5_89 w5_91 w0_44 w1_10 w5_92 qyX9_gives rfl (Nat.le_of_ble_eq_true rfl) dX9_decode_158 ?_
    refine v_bnv (fun S_36 eS_36 => ?_)
    refine v_goto G (tgt := 543) dX9_decode_161 (by decide) ?_
    exact v_vret G rfl rfl dX9_decode_543
  replace hk := ok_f h_35 hk
  refine v_sw (99 : Int32) (fun h_37 => ?_) (fun h_37 => ?_)
  · refine v_lookup G (tgt := 281) (off := 226) dX9_decode_55 (by decide) (by decide) (by decide) ?_
    refine v_aload_n G 5 dX9_decode_281 rfl ?_
    refine v_iload_n G 6 dX9_decode_282 rfl ?_
    refine v_iload_n G 4 dX9_decode_283 rfl ?_
    refine v_iload_n G 3 dX9_decode_284 rfl ?_
    refine v_iload G 2 dX9_decode_285 rfl ?_
    refine v_callVv G (As := [.int a1, .int x_1, .int x_2, .int x_3]) (st := []) (c_H_branch l hJ hX kg kx kr ko n hH S a1 x_1 x_2 x_3) (by decide) (by decide) (ci := 9) rfl hH.1 w5_98 w5_100 w0_46 w1_10 w5_101 qyX9_branch rfl (Nat.le_of_ble_eq_true rfl) dX9_decode_287 ?_
    refine v_bnv (fun S_38 eS_38 => ?_)
    refine v_goto G (tgt := 543) dX9_decode_290 (by decide) ?_
    exact v_vret G rfl rfl dX9_decode_543
  replace hk := ok_f h_37 hk
  refine v_sw (103 : Int32) (fun h_39 => ?_) (fun h_39 => ?_)
  · refine v_lookup G (tgt := 246) (off := 191) dX9_decode_55 (by decide) (by decide) (by decide) ?_
    refine v_iload G 2 dX9_decode_246 rfl ?_
    refine v_if_le G (tgt := 257) dX9_decode_248 (by decide) (fun c_40 => ?_) (fun c_40 => ?_)
    · exact v_sub (lv' := [(0, .ref (adr X kg)), (1, .int a1), (2, .int x_1), (3, .int x_2), (4, .int x_3), (5, .int x_4), (6, .int x_5)]) [5, 6, 4, 3, 2, 1, 0] rfl (v_H_decode_257 hJ hX G hH S a1 x_1 x_2 x_3 x_4 x_5)
    · refine v_aload_n G 5 dX9_decode_251 rfl ?_
      refine v_bipush G (v := (11 : Int32)) dX9_decode_252 (by decide) ?_
      refine v_puti G (ci := 9) (T := TX9) (j := 12) inX9 rfl hH.1 tyX9_ok nmX9 rfl (by decide) rfl rfl rfl w4_11 dX9_decode_254 (fun S_41 eS_41 => ?_)
      exact v_sub (lv' := [(0, .ref (adr X kg)), (1, .int a1), (2, .int x_1), (3, .int x_2), (4, .int x_3), (5, .int x_4), (6, .int x_5)]) [5, 6, 4, 3, 2, 1, 0] rfl (v_H_decode_257 hJ hX G hH S_41 a1 x_1 x_2 x_3 x_4 x_5)
  replace hk := ok_f h_39 hk
  refine v_sw (111 : Int32) (fun h_42 => ?_) (fun h_42 => ?_)
  · refine v_lookup G (tgt := 181) (off := 126) dX9_decode_55 (by decide) (by decide) (by decide) ?_
    refine v_aload_n G 5 dX9_decode_181 rfl ?_
    refine v_aload_n G 5 dX9_decode_182 rfl ?_
    refine v_geti G (ci := 9) (T := TX9) (j := 1) inX9 rfl hH.1 rfl (by decide) w3_230 dX9_decode_183 ?_
    refine v_iconst G (v := (4 : Int32)) dX9_decode_186 (by decide) ?_
    refine v_iadd G dX9_decode_187 ?_
    refine v_callVv G (As := [.int ((S kg 1) + (4 : Int32))]) (st := []) (c_H_gives l hJ hX kg kx kr ko n hH S ((S kg 1) + (4 : Int32))) (by decide) (by decide) (ci := 9) rfl hH.1 w5_89 w5_91 w0_44 w1_10 w5_92 qyX9_gives rfl (Nat.le_of_ble_eq_true rfl) dX9_decode_188 ?_
    refine v_bnv (fun S_43 eS_43 => ?_)
    refine v_aload_n G 5 dX9_decode_191 rfl ?_
    refine v_aload_n G 5 dX9_decode_192 rfl ?_
    refine v_geti G (ci := 9) (T := TX9) (j := 1) inX9 rfl hH.1 rfl (by decide) w3_230 dX9_decode_193 ?_
    refine v_iload_n G 6 dX9_decode_196 rfl ?_
    refine v_bipush G (v := (31 : Int32)) dX9_decode_197 (by decide) ?_
    refine v_ishr G dX9_decode_199 ?_
    refine v_ldc G (v := (1048576 : Int32)) dX9_decode_200 w5_93 ?_
    refine v_imul G dX9_decode_202 ?_
    refine v_iload_n G 6 dX9_decode_203 rfl ?_
    refine v_bipush G (v := (12 : Int32)) dX9_decode_204 (by decide) ?_
    refine v_bipush G (v := (8 : Int32)) dX9_decode_206 (by decide) ?_
    refine v_callSi G (As := [.int a1, .int (12 : Int32), .int (8 : Int32)]) (st := [.int ((a1 >>> ((31 : Int32) &&& 31)) * (1048576 : Int32)), .int (S_43 kg 1), .ref (adr X kg)]) (c_H_bits l hJ hX S_43 a1 (12 : Int32) (8 : Int32)) (by decide) (by decide) w5_57 w5_58 w1_10 w5_59 qyX9_bits rfl (Nat.le_of_ble_eq_true rfl) dX9_decode_208 ?_
    refine v_sipush G (v := (4096 : Int32)) dX9_decode_211 (by decide) ?_
    refine v_imul G dX9_decode_214 ?_
    refine v_iadd G dX9_decode_215 ?_
    refine v_iload_n G 6 dX9_decode_216 rfl ?_
    refine v_bipush G (v := (20 : Int32)) dX9_decode_217 (by decide) ?_
    refine v_iconst G (v := (1 : Int32)) dX9_decode_219 (by decide) ?_
    refine v_callSi G (As := [.int a1, .int (20 : Int32), .int (1 : Int32)]) (st := [.int (((a1 >>> ((31 : Int32) &&& 31)) * (1048576 : Int32)) + ((f_H_bits S_43 a1 (12 : Int32) (8 : Int32)) * (4096 : Int32))), .int (S_43 kg 1), .ref (adr X kg)]) (c_H_bits l hJ hX S_43 a1 (20 : Int32) (1 : Int32)) (by decide) (by decide) w5_57 w5_58 w1_10 w5_59 qyX9_bits rfl (Nat.le_of_ble_eq_true rfl) dX9_decode_220 ?_
    refine v_sipush G (v := (2048 : Int32)) dX9_decode_223 (by decide) ?_
    refine v_imul G dX9_decode_226 ?_
    refine v_iadd G dX9_decode_227 ?_
    refine v_iload_n G 6 dX9_decode_228 rfl ?_
    refine v_bipush G (v := (21 : Int32)) dX9_decode_229 (by decide) ?_
    refine v_bipush G (v := (10 : Int32)) dX9_decode_231 (by decide) ?_
    refine v_callSi G (As := [.int a1, .int (21 : Int32), .int (10 : Int32)]) (st := [.int ((((a1 >>> ((31 : Int32) &&& 31)) * (1048576 : Int32)) + ((f_H_bits S_43 a1 (12 : Int32) (8 : Int32)) * (4096 : Int32))) + ((f_H_bits S_43 a1 (20 : Int32) (1 : Int32)) * (2048 : Int32))), .int (S_43 kg 1), .ref (adr X kg)]) (c_H_bits l hJ hX S_43 a1 (21 : Int32) (10 : Int32)) (by decide) (by decide) w5_57 w5_58 w1_10 w5_59 qyX9_bits rfl (Nat.le_of_ble_eq_true rfl) dX9_decode_233 ?_
    refine v_iconst G (v := (2 : Int32)) dX9_decode_236 (by decide) ?_
    refine v_imul G dX9_decode_237 ?_
    refine v_iadd G dX9_decode_238 ?_
    refine v_iadd G dX9_decode_239 ?_
    refine v_callVv G (As := [.int ((S_43 kg 1) + (((((a1 >>> ((31 : Int32) &&& 31)) * (1048576 : Int32)) + ((f_H_bits S_43 a1 (12 : Int32) (8 : Int32)) * (4096 : Int32))) + ((f_H_bits S_43 a1 (20 : Int32) (1 : Int32)) * (2048 : Int32))) + ((f_H_bits S_43 a1 (21 : Int32) (10 : Int32)) * (2 : Int32))))]) (st := []) (c_H_goes l hJ hX kg kx kr ko n hH S_43 ((S_43 kg 1) + (((((a1 >>> ((31 : Int32) &&& 31)) * (1048576 : Int32)) + ((f_H_bits S_43 a1 (12 : Int32) (8 : Int32)) * (4096 : Int32))) + ((f_H_bits S_43 a1 (20 : Int32) (1 : Int32)) * (2048 : Int32))) + ((f_H_bits S_43 a1 (21 : Int32) (10 : Int32)) * (2 : Int32))))) (by decide) (by decide) (ci := 9) rfl hH.1 w5_94 w5_96 w0_45 w1_10 w5_97 qyX9_goes rfl (Nat.le_of_ble_eq_true rfl) dX9_decode_240 ?_
    refine v_bnv (fun S_44 eS_44 => ?_)
    refine v_goto G (tgt := 543) dX9_decode_243 (by decide) ?_
    exact v_vret G rfl rfl dX9_decode_543
  replace hk := ok_f h_42 hk
  refine v_sw (115 : Int32) (fun h_45 => ?_) (fun h_45 => ?_)
  · refine v_lookup G (tgt := 515) (off := 460) dX9_decode_55 (by decide) (by decide) (by decide) ?_
    refine v_iload_n G 6 dX9_decode_515 rfl ?_
    refine v_bipush G (v := (115 : Int32)) dX9_decode_516 (by decide) ?_
    refine v_icmp_ne G (tgt := 528) dX9_decode_518 (by decide) (fun c_46 => ?_) (fun c_46 => ?_)
    · refine v_aload_n G 5 dX9_decode_528 rfl ?_
      refine v_bipush G (v := (11 : Int32)) dX9_decode_529 (by decide) ?_
      refine v_puti G (ci := 9) (T := TX9) (j := 12) inX9 rfl hH.1 tyX9_ok nmX9 rfl (by decide) rfl rfl rfl w4_11 dX9_decode_531 (fun S_47 eS_47 => ?_)
      refine v_goto G (tgt := 543) dX9_decode_534 (by decide) ?_
      exact v_vret G rfl rfl dX9_decode_543
    · refine v_aload_n G 5 dX9_decode_521 rfl ?_
      refine v_callVv G (As := []) (st := []) (c_H_calls l hJ hX kg kx kr ko n hH S) (by decide) (by decide) (ci := 9) rfl hH.1 w5_124 w5_126 w0_50 w1_10 w5_127 qyX9_calls rfl (Nat.le_of_ble_eq_true rfl) dX9_decode_522 ?_
      refine v_bnv (fun S_48 eS_48 => ?_)
      refine v_goto G (tgt := 543) dX9_decode_525 (by decide) ?_
      exact v_vret G rfl rfl dX9_decode_543
  replace hk := ok_f h_45 hk
  refine v_lookup G (tgt := 537) (off := 482) dX9_decode_55 (by decide) (by show Op.lookupswitch.offset [(3, 238), (15, 446), (19, 278), (23, 109), (35, 251), (51, 358), (55, 97), (99, 226), (103, 191), (111, 126), (115, 460)] _ _ = _; rw [lv_osw h_7 (by decide), lv_osw h_9 (by decide), lv_osw h_12 (by decide), lv_osw h_24 (by decide), lv_osw h_26 (by decide), lv_osw h_28 (by decide), lv_osw h_35 (by decide), lv_osw h_37 (by decide), lv_osw h_39 (by decide), lv_osw h_42 (by decide), lv_osw h_45 (by decide)]; rfl) (by decide) ?_
  refine v_aload_n G 5 dX9_decode_537 rfl ?_
  refine v_bipush G (v := (11 : Int32)) dX9_decode_538 (by decide) ?_
  refine v_puti G (ci := 9) (T := TX9) (j := 12) inX9 rfl hH.1 tyX9_ok nmX9 rfl (by decide) rfl rfl rfl w4_11 dX9_decode_540 (fun S_49 eS_49 => ?_)
  exact v_vret G rfl rfl dX9_decode_543
/-! SensorNodeModel$Guest.look -/
theorem qyX9_look : yX9_look.cls ≠ "java/lang/invoke/MethodHandle" ∧ yX9_look.cls ≠ "java/lang/invoke/VarHandle" ∧ (parseMethodDescriptor yX9_look.desc).map (fun d => d.parameters.length) = some 0 := by decide +kernel
noncomputable def f_H_look (S : St) (kg kx kr ko n : Nat) : St := bnv (st_up S kg 13 (0 : Int32)) (fun S_1 => bnv (st_up S_1 kg 18 (0 : Int32)) (fun S_2 => bnv (st_up S_2 kg 19 (0 : Int32)) (fun S_3 => bnv (st_up S_3 kg 12 (0 : Int32)) (fun S_4 => (if ((S_4 kg 1) &&& (3 : Int32)) = 0 then (if (f_H_isIn S_4 kg kx kr ko n (S_4 kg 1) (4 : Int64)) = 0 then bnv (st_up S_4 kg 12 (13 : Int32)) (fun S_9 => S_9) else bnv (st_up S_4 kg 14 ((S_4 kg 1) + (4 : Int32))) (fun S_7 => bnv (f_H_decode S_7 kg kx kr ko n (f_H_wordAt S_7 kg kx kr ko n (S_7 kg 1))) (fun S_8 => S_8))) else bnv (st_up S_4 kg 12 (12 : Int32)) (fun S_10 => S_10))))))
def k_H_look (S : St) (kg kx kr ko n : Nat) : Prop := bnv (st_up S kg 13 (0 : Int32)) (fun S_1 => bnv (st_up S_1 kg 18 (0 : Int32)) (fun S_2 => bnv (st_up S_2 kg 19 (0 : Int32)) (fun S_3 => bnv (st_up S_3 kg 12 (0 : Int32)) (fun S_4 => (if ((S_4 kg 1) &&& (3 : Int32)) = 0 then (if (f_H_isIn S_4 kg kx kr ko n (S_4 kg 1) (4 : Int64)) = 0 then True else bnv (st_up S_4 kg 14 ((S_4 kg 1) + (4 : Int32))) (fun S_7 => (k_H_wordAt S_7 kg kx kr ko n (S_7 kg 1) ∧ k_H_decode S_7 kg kx kr ko n (f_H_wordAt S_7 kg kx kr ko n (S_7 kg 1))))) else True)))))
set_option linter.unusedVariables false in
set_option maxHeartbeats 4000000 in
set_option maxRecDepth 100000 in
theorem c_H_look (l : Launch) {X : vD} (hJ : sh_J X) (hX : shp X = shM) (kg kx kr ko n : Nat) (hH : isH kg kx kr ko n) (S : St) (hk : k_H_look S kg kx kr ko n) : Con l X yX9_look cX9_look 1 none 4 [.ref (adr X kg)] S (none, f_H_look S kg kx kr ko n) := by
  refine con_of (ρ := (fun S : St => ((none, S) : Option Value × St))) (K := f_H_look S kg kx kr ko n) hJ hX (by decide) (Nat.le_of_ble_eq_true rfl) (lv := [(0, .ref (adr X kg))]) rfl ?_
  intro p e s m below meth c G
  have G : vG p s m _ meth c X shM "SensorNodeModel$Guest" cX9_look 1 none := G
  unfold f_H_look
  unfold k_H_look at hk
  refine v_aload_n G 0 dX9_look_0 rfl ?_
  refine v_iconst G (v := (0 : Int32)) dX9_look_1 (by decide) ?_
  refine v_puti G (ci := 9) (T := TX9) (j := 13) inX9 rfl hH.1 tyX9_ok nmX9 rfl (by decide) rfl rfl rfl w4_13 dX9_look_2 (fun S_1 eS_1 => ?_)
  replace hk := ok_v eS_1 hk
  refine v_aload_n G 0 dX9_look_5 rfl ?_
  refine v_iconst G (v := (0 : Int32)) dX9_look_6 (by decide) ?_
  refine v_puti G (ci := 9) (T := TX9) (j := 18) inX9 rfl hH.1 tyX9_ok nmX9 rfl (by decide) rfl rfl rfl w4_20 dX9_look_7 (fun S_2 eS_2 => ?_)
  replace hk := ok_v eS_2 hk
  refine v_aload_n G 0 dX9_look_10 rfl ?_
  refine v_iconst G (v := (0 : Int32)) dX9_look_11 (by decide) ?_
  refine v_puti G (ci := 9) (T := TX9) (j := 19) inX9 rfl hH.1 tyX9_ok nmX9 rfl (by decide) rfl rfl rfl w4_21 dX9_look_12 (fun S_3 eS_3 => ?_)
  replace hk := ok_v eS_3 hk
  refine v_aload_n G 0 dX9_look_15 rfl ?_
  refine v_iconst G (v := (0 : Int32)) dX9_look_16 (by decide) ?_
  refine v_puti G (ci := 9) (T := TX9) (j := 12) inX9 rfl hH.1 tyX9_ok nmX9 rfl (by decide) rfl rfl rfl w4_11 dX9_look_17 (fun S_4 eS_4 => ?_)
  replace hk := ok_v eS_4 hk
  refine v_aload_n G 0 dX9_look_20 rfl ?_
  refine v_geti G (ci := 9) (T := TX9) (j := 1) inX9 rfl hH.1 rfl (by decide) w3_230 dX9_look_21 ?_
  refine v_iconst G (v := (3 : Int32)) dX9_look_24 (by decide) ?_
  refine v_iand G dX9_look_25 ?_
  refine v_if_eq G (tgt := 38) dX9_look_26 (by decide) (fun c_5 => ?_) (fun c_5 => ?_)
  · replace hk := ok_t c_5 hk
    refine v_aload_n G 0 dX9_look_38 rfl ?_
    refine v_aload_n G 0 dX9_look_39 rfl ?_
    refine v_geti G (ci := 9) (T := TX9) (j := 1) inX9 rfl hH.1 rfl (by decide) w3_230 dX9_look_40 ?_
    refine v_ldc2 G (v := (4 : Int64)) dX9_look_43 w5_80 ?_
    refine v_callVi G (As := [.int (S_4 kg 1), .long (4 : Int64)]) (st := []) (c_H_isIn l hJ hX kg kx kr ko n hH S_4 (S_4 kg 1) (4 : Int64)) (by decide) (by decide) (ci := 9) rfl hH.1 w5_81 w5_82 w5_83 w1_10 w5_84 qyX9_isIn rfl (Nat.le_of_ble_eq_true rfl) dX9_look_46 ?_
    refine v_if_ne G (tgt := 61) dX9_look_49 (by decide) (fun c_6 => ?_) (fun c_6 => ?_)
    · replace hk := ok_f c_6 hk
      refine v_aload_n G 0 dX9_look_61 rfl ?_
      refine v_aload_n G 0 dX9_look_62 rfl ?_
      refine v_geti G (ci := 9) (T := TX9) (j := 1) inX9 rfl hH.1 rfl (by decide) w3_230 dX9_look_63 ?_
      refine v_iconst G (v := (4 : Int32)) dX9_look_66 (by decide) ?_
      refine v_iadd G dX9_look_67 ?_
      refine v_puti G (ci := 9) (T := TX9) (j := 14) inX9 rfl hH.1 tyX9_ok nmX9 rfl (by decide) rfl rfl rfl w4_15 dX9_look_68 (fun S_7 eS_7 => ?_)
      replace hk := ok_v eS_7 hk
      refine v_aload_n G 0 dX9_look_71 rfl ?_
      refine v_aload_n G 0 dX9_look_72 rfl ?_
      refine v_aload_n G 0 dX9_look_73 rfl ?_
      refine v_geti G (ci := 9) (T := TX9) (j := 1) inX9 rfl hH.1 rfl (by decide) w3_230 dX9_look_74 ?_
      refine v_callVi G (As := [.int (S_7 kg 1)]) (st := [.ref (adr X kg)]) (c_H_wordAt l hJ hX kg kx kr ko n hH S_7 (S_7 kg 1) hk.1) (by decide) (by decide) (ci := 9) rfl hH.1 w5_47 w5_48 w5_49 w1_10 w5_50 qyX9_wordAt rfl (Nat.le_of_ble_eq_true rfl) dX9_look_77 ?_
      replace hk := hk.2
      refine v_callVv G (As := [.int (f_H_wordAt S_7 kg kx kr ko n (S_7 kg 1))]) (st := []) (c_H_decode l hJ hX kg kx kr ko n hH S_7 (f_H_wordAt S_7 kg kx kr ko n (S_7 kg 1)) hk) (by decide) (by decide) (ci := 9) rfl hH.1 w5_85 w5_87 w0_43 w1_10 w5_88 qyX9_decode rfl (Nat.le_of_ble_eq_true rfl) dX9_look_80 ?_
      refine v_bnv (fun S_8 eS_8 => ?_)
      exact v_vret G rfl rfl dX9_look_83
    · refine v_aload_n G 0 dX9_look_52 rfl ?_
      refine v_bipush G (v := (13 : Int32)) dX9_look_53 (by decide) ?_
      refine v_puti G (ci := 9) (T := TX9) (j := 12) inX9 rfl hH.1 tyX9_ok nmX9 rfl (by decide) rfl rfl rfl w4_11 dX9_look_55 (fun S_9 eS_9 => ?_)
      refine v_goto G (tgt := 83) dX9_look_58 (by decide) ?_
      exact v_vret G rfl rfl dX9_look_83
  · refine v_aload_n G 0 dX9_look_29 rfl ?_
    refine v_bipush G (v := (12 : Int32)) dX9_look_30 (by decide) ?_
    refine v_puti G (ci := 9) (T := TX9) (j := 12) inX9 rfl hH.1 tyX9_ok nmX9 rfl (by decide) rfl rfl rfl w4_11 dX9_look_32 (fun S_10 eS_10 => ?_)
    refine v_goto G (tgt := 83) dX9_look_35 (by decide) ?_
    exact v_vret G rfl rfl dX9_look_83
/-! SensorNodeModel$Guest.perform -/
theorem qyX9_perform : yX9_perform.cls ≠ "java/lang/invoke/MethodHandle" ∧ yX9_perform.cls ≠ "java/lang/invoke/VarHandle" ∧ (parseMethodDescriptor yX9_perform.desc).map (fun d => d.parameters.length) = some 0 := by decide +kernel
noncomputable def f_H_perform_164 (S : St) (kg kx kr ko n : Nat) (v1 : Int32) : St := bnv (st_up S kx (0 : Int32).toNatClampNeg (0 : Int32)) (fun S_1165 => bnv (st_up S_1165 kg 1 (S_1165 kg 14)) (fun S_1166 => bnv (st_up S_1166 kg 4 ((S_1166 kg 4) + (1 : Int32))) (fun S_1167 => S_1167)))
set_option linter.unusedVariables false in
set_option maxHeartbeats 4000000 in
set_option maxRecDepth 100000 in
theorem v_H_perform_164 {p : Program} {l : Launch} {e : Env} {s : State} {m : MethodId} {args : Array Value} {below : List Frame} {meth : Method} {c : Code} {X : vD}  (hJ : sh_J X) (hX : shp X = shM) {kg kx kr ko n : Nat} (G : vG p s m args meth c X shM "SensorNodeModel$Guest" cX9_perform 2 none) (hH : isH kg kx kr ko n) (S : St) (v1 : Int32)   : V p l e 2 s m args below meth c X 2 (fun S : St => ((none, S) : Option Value × St)) S 164 [(0, .ref (adr X kg)), (1, .int v1)] [] (f_H_perform_164 S kg kx kr ko n v1) := by
  unfold f_H_perform_164
  refine v_aload_n G 0 dX9_perform_164 rfl ?_
  refine v_getr G (ci := 9) (T := TX9) (j := 0) inX9 rfl hH.1 rfl (by decide) w3_228 dX9_perform_165 ?_
  refine v_iconst G (v := (0 : Int32)) dX9_perform_168 (by decide) ?_
  refine v_iconst G (v := (0 : Int32)) dX9_perform_169 (by decide) ?_
  refine v_iast G hH.2.1 (by unfold vp_in; decide) dX9_perform_170 (fun S_1165 eS_1165 => ?_)
  refine v_aload_n G 0 dX9_perform_171 rfl ?_
  refine v_aload_n G 0 dX9_perform_172 rfl ?_
  refine v_geti G (ci := 9) (T := TX9) (j := 14) inX9 rfl hH.1 rfl (by decide) w4_15 dX9_perform_173 ?_
  refine v_puti G (ci := 9) (T := TX9) (j := 1) inX9 rfl hH.1 tyX9_ok nmX9 rfl (by decide) rfl rfl rfl w3_230 dX9_perform_176 (fun S_1166 eS_1166 => ?_)
  refine v_aload_n G 0 dX9_perform_179 rfl ?_
  refine v_dup G dX9_perform_180 rfl ?_
  refine v_geti G (ci := 9) (T := TX9) (j := 4) inX9 rfl hH.1 rfl (by decide) w3_236 dX9_perform_181 ?_
  refine v_iconst G (v := (1 : Int32)) dX9_perform_184 (by decide) ?_
  refine v_iadd G dX9_perform_185 ?_
  refine v_puti G (ci := 9) (T := TX9) (j := 4) inX9 rfl hH.1 tyX9_ok nmX9 rfl (by decide) rfl rfl rfl w3_236 dX9_perform_186 (fun S_1167 eS_1167 => ?_)
  exact v_vret G rfl rfl dX9_perform_189
noncomputable def f_H_perform_78 (S : St) (kg kx kr ko n : Nat) (v1 : Int32) : St := (if (S kg 13) = (2 : Int32) then bnv (st_up S kg 3 ((S kg 3) + (1 : Int32))) (fun S_1089 => bnv (st_up S_1089 kx (10 : Int32).toNatClampNeg (S_1089 kg 3)) (fun S_1090 => (f_H_perform_164 S_1090 kg kx kr ko n v1))) else (if v1 = (115 : Int32) then (if (S kg 2) < 0 then bnv (st_up S kx (10 : Int32).toNatClampNeg (0 : Int32)) (fun S_1082 => bnv (st_up S_1082 kg 2 ((S_1082 kg 2) + (1 : Int32))) (fun S_1083 => (f_H_perform_164 S_1083 kg kx kr ko n v1))) else (if (S kg 2) < (S kg 11) then bnv (st_up S kx (10 : Int32).toNatClampNeg (S 3 (S kg 2).toNatClampNeg)) (fun S_1087 => bnv (st_up S_1087 kg 2 ((S_1087 kg 2) + (1 : Int32))) (fun S_1088 => (f_H_perform_164 S_1088 kg kx kr ko n v1))) else bnv (st_up S kx (10 : Int32).toNatClampNeg (0 : Int32)) (fun S_1085 => bnv (st_up S_1085 kg 2 ((S_1085 kg 2) + (1 : Int32))) (fun S_1086 => (f_H_perform_164 S_1086 kg kx kr ko n v1))))) else (f_H_perform_164 S kg kx kr ko n v1)))
def k_H_perform_78 (S : St) (kg kx kr ko n : Nat) (v1 : Int32) : Prop := (if (S kg 13) = (2 : Int32) then True else (if v1 = (115 : Int32) then (if (S kg 2) < 0 then True else (if (S kg 2) < (S kg 11) then vp_in (S kg 2) 1000 else True)) else True))
set_option linter.unusedVariables false in
set_option maxHeartbeats 4000000 in
set_option maxRecDepth 100000 in
theorem v_H_perform_78 {p : Program} {l : Launch} {e : Env} {s : State} {m : MethodId} {args : Array Value} {below : List Frame} {meth : Method} {c : Code} {X : vD}  (hJ : sh_J X) (hX : shp X = shM) {kg kx kr ko n : Nat} (G : vG p s m args meth c X shM "SensorNodeModel$Guest" cX9_perform 2 none) (hH : isH kg kx kr ko n) (S : St) (v1 : Int32)  (hk : k_H_perform_78 S kg kx kr ko n v1) : V p l e 2 s m args below meth c X 2 (fun S : St => ((none, S) : Option Value × St)) S 78 [(0, .ref (adr X kg)), (1, .int v1)] [] (f_H_perform_78 S kg kx kr ko n v1) := by
  unfold f_H_perform_78
  unfold k_H_perform_78 at hk
  refine v_aload_n G 0 dX9_perform_78 rfl ?_
  refine v_geti G (ci := 9) (T := TX9) (j := 13) inX9 rfl hH.1 rfl (by decide) w4_13 dX9_perform_79 ?_
  refine v_iconst G (v := (2 : Int32)) dX9_perform_82 (by decide) ?_
  refine v_icmp_ne G (tgt := 110) dX9_perform_83 (by decide) (fun c_1079 => ?_) (fun c_1079 => ?_)
  · replace hk := ok_f c_1079 hk
    refine v_iload_n G 1 dX9_perform_110 rfl ?_
    refine v_bipush G (v := (115 : Int32)) dX9_perform_111 (by decide) ?_
    refine v_icmp_ne G (tgt := 164) dX9_perform_113 (by decide) (fun c_1080 => ?_) (fun c_1080 => ?_)
    · exact v_sub (lv' := [(0, .ref (adr X kg)), (1, .int v1)]) [0, 1] rfl (v_H_perform_164 hJ hX G hH S v1)
    · replace hk := ok_t c_1080 hk
      refine v_aload_n G 0 dX9_perform_116 rfl ?_
      refine v_getr G (ci := 9) (T := TX9) (j := 0) inX9 rfl hH.1 rfl (by decide) w3_228 dX9_perform_117 ?_
      refine v_bipush G (v := (10 : Int32)) dX9_perform_120 (by decide) ?_
      refine v_aload_n G 0 dX9_perform_122 rfl ?_
      refine v_geti G (ci := 9) (T := TX9) (j := 2) inX9 rfl hH.1 rfl (by decide) w3_232 dX9_perform_123 ?_
      refine v_if_lt G (tgt := 152) dX9_perform_126 (by decide) (fun c_1081 => ?_) (fun c_1081 => ?_)
      · refine v_iconst G (v := (0 : Int32)) dX9_perform_152 (by decide) ?_
        refine v_iast G hH.2.1 (by unfold vp_in; decide) dX9_perform_153 (fun S_1082 eS_1082 => ?_)
        refine v_aload_n G 0 dX9_perform_154 rfl ?_
        refine v_dup G dX9_perform_155 rfl ?_
        refine v_geti G (ci := 9) (T := TX9) (j := 2) inX9 rfl hH.1 rfl (by decide) w3_232 dX9_perform_156 ?_
        refine v_iconst G (v := (1 : Int32)) dX9_perform_159 (by decide) ?_
        refine v_iadd G dX9_perform_160 ?_
        refine v_puti G (ci := 9) (T := TX9) (j := 2) inX9 rfl hH.1 tyX9_ok nmX9 rfl (by decide) rfl rfl rfl w3_232 dX9_perform_161 (fun S_1083 eS_1083 => ?_)
        exact v_sub (lv' := [(0, .ref (adr X kg)), (1, .int v1)]) [0, 1] rfl (v_H_perform_164 hJ hX G hH S_1083 v1)
      · replace hk := ok_f c_1081 hk
        refine v_aload_n G 0 dX9_perform_129 rfl ?_
        refine v_geti G (ci := 9) (T := TX9) (j := 2) inX9 rfl hH.1 rfl (by decide) w3_232 dX9_perform_130 ?_
        refine v_aload_n G 0 dX9_perform_133 rfl ?_
        refine v_geti G (ci := 9) (T := TX9) (j := 11) inX9 rfl hH.1 rfl (by decide) w4_10 dX9_perform_134 ?_
        refine v_icmp_ge G (tgt := 152) dX9_perform_137 (by decide) (fun c_1084 => ?_) (fun c_1084 => ?_)
        · refine v_iconst G (v := (0 : Int32)) dX9_perform_152 (by decide) ?_
          refine v_iast G hH.2.1 (by unfold vp_in; decide) dX9_perform_153 (fun S_1085 eS_1085 => ?_)
          refine v_aload_n G 0 dX9_perform_154 rfl ?_
          refine v_dup G dX9_perform_155 rfl ?_
          refine v_geti G (ci := 9) (T := TX9) (j := 2) inX9 rfl hH.1 rfl (by decide) w3_232 dX9_perform_156 ?_
          refine v_iconst G (v := (1 : Int32)) dX9_perform_159 (by decide) ?_
          refine v_iadd G dX9_perform_160 ?_
          refine v_puti G (ci := 9) (T := TX9) (j := 2) inX9 rfl hH.1 tyX9_ok nmX9 rfl (by decide) rfl rfl rfl w3_232 dX9_perform_161 (fun S_1086 eS_1086 => ?_)
          exact v_sub (lv' := [(0, .ref (adr X kg)), (1, .int v1)]) [0, 1] rfl (v_H_perform_164 hJ hX G hH S_1086 v1)
        · replace hk := ok_t c_1084 hk
          refine v_aload_n G 0 dX9_perform_140 rfl ?_
          refine v_getr G (ci := 9) (T := TX9) (j := 10) inX9 rfl hH.1 rfl (by decide) w4_8 dX9_perform_141 ?_
          refine v_aload_n G 0 dX9_perform_144 rfl ?_
          refine v_geti G (ci := 9) (T := TX9) (j := 2) inX9 rfl hH.1 rfl (by decide) w3_232 dX9_perform_145 ?_
          refine v_iald G rfl hk dX9_perform_148 ?_
          refine v_goto G (tgt := 153) dX9_perform_149 (by decide) ?_
          refine v_iast G hH.2.1 (by unfold vp_in; decide) dX9_perform_153 (fun S_1087 eS_1087 => ?_)
          refine v_aload_n G 0 dX9_perform_154 rfl ?_
          refine v_dup G dX9_perform_155 rfl ?_
          refine v_geti G (ci := 9) (T := TX9) (j := 2) inX9 rfl hH.1 rfl (by decide) w3_232 dX9_perform_156 ?_
          refine v_iconst G (v := (1 : Int32)) dX9_perform_159 (by decide) ?_
          refine v_iadd G dX9_perform_160 ?_
          refine v_puti G (ci := 9) (T := TX9) (j := 2) inX9 rfl hH.1 tyX9_ok nmX9 rfl (by decide) rfl rfl rfl w3_232 dX9_perform_161 (fun S_1088 eS_1088 => ?_)
          exact v_sub (lv' := [(0, .ref (adr X kg)), (1, .int v1)]) [0, 1] rfl (v_H_perform_164 hJ hX G hH S_1088 v1)
  · refine v_aload_n G 0 dX9_perform_86 rfl ?_
    refine v_dup G dX9_perform_87 rfl ?_
    refine v_geti G (ci := 9) (T := TX9) (j := 3) inX9 rfl hH.1 rfl (by decide) w3_234 dX9_perform_88 ?_
    refine v_iconst G (v := (1 : Int32)) dX9_perform_91 (by decide) ?_
    refine v_iadd G dX9_perform_92 ?_
    refine v_puti G (ci := 9) (T := TX9) (j := 3) inX9 rfl hH.1 tyX9_ok nmX9 rfl (by decide) rfl rfl rfl w3_234 dX9_perform_93 (fun S_1089 eS_1089 => ?_)
    refine v_aload_n G 0 dX9_perform_96 rfl ?_
    refine v_getr G (ci := 9) (T := TX9) (j := 0) inX9 rfl hH.1 rfl (by decide) w3_228 dX9_perform_97 ?_
    refine v_bipush G (v := (10 : Int32)) dX9_perform_100 (by decide) ?_
    refine v_aload_n G 0 dX9_perform_102 rfl ?_
    refine v_geti G (ci := 9) (T := TX9) (j := 3) inX9 rfl hH.1 rfl (by decide) w3_234 dX9_perform_103 ?_
    refine v_iast G hH.2.1 (by unfold vp_in; decide) dX9_perform_106 (fun S_1090 eS_1090 => ?_)
    refine v_goto G (tgt := 164) dX9_perform_107 (by decide) ?_
    exact v_sub (lv' := [(0, .ref (adr X kg)), (1, .int v1)]) [0, 1] rfl (v_H_perform_164 hJ hX G hH S_1090 v1)
noncomputable def f_H_perform_52 (S : St) (kg kx kr ko n : Nat) (v1 : Int32) : St := (if (S kg 13) = (1 : Int32) then bnv (st_up S ko ((S kg 9) + (S kg 16)).toNatClampNeg (S kg 15)) (fun S_1054 => (f_H_perform_78 S_1054 kg kx kr ko n v1)) else (f_H_perform_78 S kg kx kr ko n v1))
def k_H_perform_52 (S : St) (kg kx kr ko n : Nat) (v1 : Int32) : Prop := (if (S kg 13) = (1 : Int32) then (¬ S kg 8 = 0 ∧ (vp_in ((S kg 9) + (S kg 16)) n ∧ bnv (st_up S ko ((S kg 9) + (S kg 16)).toNatClampNeg (S kg 15)) (fun S_1054 => (k_H_perform_78 S_1054 kg kx kr ko n v1)))) else (k_H_perform_78 S kg kx kr ko n v1))
set_option linter.unusedVariables false in
set_option maxHeartbeats 4000000 in
set_option maxRecDepth 100000 in
theorem v_H_perform_52 {p : Program} {l : Launch} {e : Env} {s : State} {m : MethodId} {args : Array Value} {below : List Frame} {meth : Method} {c : Code} {X : vD}  (hJ : sh_J X) (hX : shp X = shM) {kg kx kr ko n : Nat} (G : vG p s m args meth c X shM "SensorNodeModel$Guest" cX9_perform 2 none) (hH : isH kg kx kr ko n) (S : St) (v1 : Int32)  (hk : k_H_perform_52 S kg kx kr ko n v1) : V p l e 2 s m args below meth c X 2 (fun S : St => ((none, S) : Option Value × St)) S 52 [(0, .ref (adr X kg)), (1, .int v1)] [] (f_H_perform_52 S kg kx kr ko n v1) := by
  unfold f_H_perform_52
  unfold k_H_perform_52 at hk
  refine v_aload_n G 0 dX9_perform_52 rfl ?_
  refine v_geti G (ci := 9) (T := TX9) (j := 13) inX9 rfl hH.1 rfl (by decide) w4_13 dX9_perform_53 ?_
  refine v_iconst G (v := (1 : Int32)) dX9_perform_56 (by decide) ?_
  refine v_icmp_ne G (tgt := 78) dX9_perform_57 (by decide) (fun c_1053 => ?_) (fun c_1053 => ?_)
  · replace hk := ok_f c_1053 hk
    exact v_sub (lv' := [(0, .ref (adr X kg)), (1, .int v1)]) [0, 1] rfl (v_H_perform_78 hJ hX G hH S v1 hk)
  · replace hk := ok_t c_1053 hk
    refine v_aload_n G 0 dX9_perform_60 rfl ?_
    refine v_getq G (ci := 9) (T := TX9) (j := 8) inX9 rfl hH.1 rfl (by decide) w4_4 hk.1 dX9_perform_61 ?_
    replace hk := hk.2
    refine v_aload_n G 0 dX9_perform_64 rfl ?_
    refine v_geti G (ci := 9) (T := TX9) (j := 9) inX9 rfl hH.1 rfl (by decide) w4_6 dX9_perform_65 ?_
    refine v_aload_n G 0 dX9_perform_68 rfl ?_
    refine v_geti G (ci := 9) (T := TX9) (j := 16) inX9 rfl hH.1 rfl (by decide) w4_18 dX9_perform_69 ?_
    refine v_iadd G dX9_perform_72 ?_
    refine v_aload_n G 0 dX9_perform_73 rfl ?_
    refine v_geti G (ci := 9) (T := TX9) (j := 15) inX9 rfl hH.1 rfl (by decide) w4_16 dX9_perform_74 ?_
    refine v_iast G hH.2.2.2 hk.1 dX9_perform_77 (fun S_1054 eS_1054 => ?_)
    replace hk := hk.2
    replace hk := ok_v eS_1054 hk
    exact v_sub (lv' := [(0, .ref (adr X kg)), (1, .int v1)]) [0, 1] rfl (v_H_perform_78 hJ hX G hH S_1054 v1 hk)
noncomputable def f_H_perform_32 (S : St) (kg kx kr ko n : Nat) (v1 : Int32) : St := (if (S kg 19) = 0 then (f_H_perform_52 S kg kx kr ko n v1) else bnv (st_up S kr (S kg 16).toNatClampNeg (S kg 15)) (fun S_1034 => (f_H_perform_52 S_1034 kg kx kr ko n v1)))
def k_H_perform_32 (S : St) (kg kx kr ko n : Nat) (v1 : Int32) : Prop := (if (S kg 19) = 0 then (k_H_perform_52 S kg kx kr ko n v1) else (vp_in (S kg 16) 1024 ∧ bnv (st_up S kr (S kg 16).toNatClampNeg (S kg 15)) (fun S_1034 => (k_H_perform_52 S_1034 kg kx kr ko n v1))))
set_option linter.unusedVariables false in
set_option maxHeartbeats 4000000 in
set_option maxRecDepth 100000 in
theorem v_H_perform_32 {p : Program} {l : Launch} {e : Env} {s : State} {m : MethodId} {args : Array Value} {below : List Frame} {meth : Method} {c : Code} {X : vD}  (hJ : sh_J X) (hX : shp X = shM) {kg kx kr ko n : Nat} (G : vG p s m args meth c X shM "SensorNodeModel$Guest" cX9_perform 2 none) (hH : isH kg kx kr ko n) (S : St) (v1 : Int32)  (hk : k_H_perform_32 S kg kx kr ko n v1) : V p l e 2 s m args below meth c X 2 (fun S : St => ((none, S) : Option Value × St)) S 32 [(0, .ref (adr X kg)), (1, .int v1)] [] (f_H_perform_32 S kg kx kr ko n v1) := by
  unfold f_H_perform_32
  unfold k_H_perform_32 at hk
  refine v_aload_n G 0 dX9_perform_32 rfl ?_
  refine v_geti G (ci := 9) (T := TX9) (j := 19) inX9 rfl hH.1 rfl (by decide) w4_21 dX9_perform_33 ?_
  refine v_if_eq G (tgt := 52) dX9_perform_36 (by decide) (fun c_1033 => ?_) (fun c_1033 => ?_)
  · replace hk := ok_t c_1033 hk
    exact v_sub (lv' := [(0, .ref (adr X kg)), (1, .int v1)]) [0, 1] rfl (v_H_perform_52 hJ hX G hH S v1 hk)
  · replace hk := ok_f c_1033 hk
    refine v_aload_n G 0 dX9_perform_39 rfl ?_
    refine v_getr G (ci := 9) (T := TX9) (j := 5) inX9 rfl hH.1 rfl (by decide) w3_238 dX9_perform_40 ?_
    refine v_aload_n G 0 dX9_perform_43 rfl ?_
    refine v_geti G (ci := 9) (T := TX9) (j := 16) inX9 rfl hH.1 rfl (by decide) w4_18 dX9_perform_44 ?_
    refine v_aload_n G 0 dX9_perform_47 rfl ?_
    refine v_geti G (ci := 9) (T := TX9) (j := 15) inX9 rfl hH.1 rfl (by decide) w4_16 dX9_perform_48 ?_
    refine v_iast G hH.2.2.1 hk.1 dX9_perform_51 (fun S_1034 eS_1034 => ?_)
    replace hk := hk.2
    replace hk := ok_v eS_1034 hk
    exact v_sub (lv' := [(0, .ref (adr X kg)), (1, .int v1)]) [0, 1] rfl (v_H_perform_52 hJ hX G hH S_1034 v1 hk)
noncomputable def f_H_perform (S : St) (kg kx kr ko n : Nat) : St := bnx (f_H_wordAt S kg kx kr ko n (S kg 1)) (fun x_1 => (if (S kg 18) = 0 then (f_H_perform_32 S kg kx kr ko n x_1) else bnv (st_up S kx (f_H_bits S x_1 (7 : Int32) (5 : Int32)).toNatClampNeg (S kg 15)) (fun S_3 => (f_H_perform_32 S_3 kg kx kr ko n x_1))))
def k_H_perform (S : St) (kg kx kr ko n : Nat) : Prop := (k_H_wordAt S kg kx kr ko n (S kg 1) ∧ bnx (f_H_wordAt S kg kx kr ko n (S kg 1)) (fun x_1 => (if (S kg 18) = 0 then (k_H_perform_32 S kg kx kr ko n x_1) else (vp_in (f_H_bits S x_1 (7 : Int32) (5 : Int32)) 32 ∧ bnv (st_up S kx (f_H_bits S x_1 (7 : Int32) (5 : Int32)).toNatClampNeg (S kg 15)) (fun S_3 => (k_H_perform_32 S_3 kg kx kr ko n x_1))))))
set_option linter.unusedVariables false in
set_option maxHeartbeats 4000000 in
set_option maxRecDepth 100000 in
theorem c_H_perform (l : Launch) {X : vD} (hJ : sh_J X) (hX : shp X = shM) (kg kx kr ko n : Nat) (hH : isH kg kx kr ko n) (S : St) (hk : k_H_perform S kg kx kr ko n) : Con l X yX9_perform cX9_perform 2 none 2 [.ref (adr X kg)] S (none, f_H_perform S kg kx kr ko n) := by
  refine con_of (ρ := (fun S : St => ((none, S) : Option Value × St))) (K := f_H_perform S kg kx kr ko n) hJ hX (by decide) (Nat.le_of_ble_eq_true rfl) (lv := [(0, .ref (adr X kg))]) rfl ?_
  intro p e s m below meth c G
  have G : vG p s m _ meth c X shM "SensorNodeModel$Guest" cX9_perform 2 none := G
  unfold f_H_perform
  unfold k_H_perform at hk
  refine v_aload_n G 0 dX9_perform_0 rfl ?_
  refine v_aload_n G 0 dX9_perform_1 rfl ?_
  refine v_geti G (ci := 9) (T := TX9) (j := 1) inX9 rfl hH.1 rfl (by decide) w3_230 dX9_perform_2 ?_
  refine v_callVi G (As := [.int (S kg 1)]) (st := []) (c_H_wordAt l hJ hX kg kx kr ko n hH S (S kg 1) hk.1) (by decide) (by decide) (ci := 9) rfl hH.1 w5_47 w5_48 w5_49 w1_10 w5_50 qyX9_wordAt rfl (Nat.le_of_ble_eq_true rfl) dX9_perform_5 ?_
  replace hk := hk.2
  refine v_namei (fun x_1 ex_1 => ?_)
  replace hk := ok_x ex_1 hk
  refine v_istore_n G [(1, .int x_1), (0, .ref (adr X kg))] dX9_perform_8 (by decide) rfl ?_
  refine v_aload_n G 1 dX9_perform_9 rfl ?_
  refine v_geti G (ci := 9) (T := TX9) (j := 18) inX9 rfl hH.1 rfl (by decide) w4_20 dX9_perform_10 ?_
  refine v_if_eq G (tgt := 32) dX9_perform_13 (by decide) (fun c_2 => ?_) (fun c_2 => ?_)
  · replace hk := ok_t c_2 hk
    exact v_sub (lv' := [(0, .ref (adr X kg)), (1, .int x_1)]) [1, 0] rfl (v_H_perform_32 hJ hX G hH S x_1 hk)
  · replace hk := ok_f c_2 hk
    refine v_aload_n G 1 dX9_perform_16 rfl ?_
    refine v_getr G (ci := 9) (T := TX9) (j := 0) inX9 rfl hH.1 rfl (by decide) w3_228 dX9_perform_17 ?_
    refine v_iload_n G 0 dX9_perform_20 rfl ?_
    refine v_bipush G (v := (7 : Int32)) dX9_perform_21 (by decide) ?_
    refine v_iconst G (v := (5 : Int32)) dX9_perform_23 (by decide) ?_
    refine v_callSi G (As := [.int x_1, .int (7 : Int32), .int (5 : Int32)]) (st := [.ref (adr X kx)]) (c_H_bits l hJ hX S x_1 (7 : Int32) (5 : Int32)) (by decide) (by decide) w5_57 w5_58 w1_10 w5_59 qyX9_bits rfl (Nat.le_of_ble_eq_true rfl) dX9_perform_24 ?_
    refine v_aload_n G 1 dX9_perform_27 rfl ?_
    refine v_geti G (ci := 9) (T := TX9) (j := 15) inX9 rfl hH.1 rfl (by decide) w4_16 dX9_perform_28 ?_
    refine v_iast G hH.2.1 hk.1 dX9_perform_31 (fun S_3 eS_3 => ?_)
    replace hk := hk.2
    replace hk := ok_v eS_3 hk
    exact v_sub (lv' := [(0, .ref (adr X kg)), (1, .int x_1)]) [1, 0] rfl (v_H_perform_32 hJ hX G hH S_3 x_1 hk)
/-! SensorNodeModel$Guest.sendTo -/
theorem qyX9_sendTo : yX9_sendTo.cls ≠ "java/lang/invoke/MethodHandle" ∧ yX9_sendTo.cls ≠ "java/lang/invoke/VarHandle" ∧ (parseMethodDescriptor yX9_sendTo.desc).map (fun d => d.parameters.length) = some 2 := by decide +kernel
noncomputable def f_H_sendTo_89 (S : St) (kg kx kr ko n ka kn kl kb ky : Nat) (v2 : Int32) : St := bnv (st_up S ka 0 ((S ka 0) + (1 : Int32))) (fun S_1090 => S_1090)
set_option linter.unusedVariables false in
set_option maxHeartbeats 4000000 in
set_option maxRecDepth 100000 in
theorem v_H_sendTo_89 {p : Program} {l : Launch} {e : Env} {s : State} {m : MethodId} {args : Array Value} {below : List Frame} {meth : Method} {c : Code} {X : vD}  (hJ : sh_J X) (hX : shp X = shM) {kg kx kr ko n ka kn kl kb ky : Nat} (G : vG p s m args meth c X shM "SensorNodeModel$Guest" cX9_sendTo 5 none) (hH : isH kg kx kr ko n) (hA : isA ka kn kl kb ky) (S : St) (v2 : Int32)   : V p l e 3 s m args below meth c X 5 (fun S : St => ((none, S) : Option Value × St)) S 89 [(0, .ref (adr X kg)), (1, .ref (adr X ka)), (2, .int v2)] [] (f_H_sendTo_89 S kg kx kr ko n ka kn kl kb ky v2) := by
  unfold f_H_sendTo_89
  refine v_aload_n G 1 dX9_sendTo_89 rfl ?_
  refine v_dup G dX9_sendTo_90 rfl ?_
  refine v_geti G (ci := 8) (T := TX8) (j := 0) inX8 rfl hA.1 rfl (by decide) w4_71 dX9_sendTo_91 ?_
  refine v_iconst G (v := (1 : Int32)) dX9_sendTo_94 (by decide) ?_
  refine v_iadd G dX9_sendTo_95 ?_
  refine v_puti G (ci := 8) (T := TX8) (j := 0) inX8 rfl hA.1 tyX8_ok nmX8 rfl (by decide) rfl rfl rfl w4_71 dX9_sendTo_96 (fun S_1090 eS_1090 => ?_)
  exact v_vret G rfl rfl dX9_sendTo_99
noncomputable def f_H_sendTo_47 : Nat → St → Nat → Nat → Nat → Nat → Nat → Nat → Nat → Nat → Nat → Nat → Int32 → Int32 → Int32 → St
  | 0, S, _, _, _, _, _, _, _, _, _, _, _, _, _ => S
  | fn + 1, S, kg, kx, kr, ko, n, ka, kn, kl, kb, ky, v2, v3, v4 => (if v4 < (S kg 17) then bnv (st_up S ky (((64 : Int32) * v3) + v4).toNatClampNeg (vp_nar .byte ((f_H_byteAt S kg kx kr ko n ((S kx (10 : Int32).toNatClampNeg) + v4)).toInt8.toInt32))) (fun S_1049 => (f_H_sendTo_47 fn S_1049 kg kx kr ko n ka kn kl kb ky v2 v3 (v4 + (1 : Int32)))) else (f_H_sendTo_89 S kg kx kr ko n ka kn kl kb ky v2))
def k_H_sendTo_47 : Nat → St → Nat → Nat → Nat → Nat → Nat → Nat → Nat → Nat → Nat → Nat → Int32 → Int32 → Int32 → Prop
  | 0, _, _, _, _, _, _, _, _, _, _, _, _, _, _ => True
  | fn + 1, S, kg, kx, kr, ko, n, ka, kn, kl, kb, ky, v2, v3, v4 => (if v4 < (S kg 17) then (k_H_byteAt S kg kx kr ko n ((S kx (10 : Int32).toNatClampNeg) + v4) ∧ (vp_in (((64 : Int32) * v3) + v4) 25600 ∧ bnv (st_up S ky (((64 : Int32) * v3) + v4).toNatClampNeg (vp_nar .byte ((f_H_byteAt S kg kx kr ko n ((S kx (10 : Int32).toNatClampNeg) + v4)).toInt8.toInt32))) (fun S_1049 => (k_H_sendTo_47 fn S_1049 kg kx kr ko n ka kn kl kb ky v2 v3 (v4 + (1 : Int32)))))) else True)
set_option linter.unusedVariables false in
set_option maxHeartbeats 4000000 in
set_option maxRecDepth 100000 in
theorem v_H_sendTo_47 {p : Program} {l : Launch} {e : Env} {s : State} {m : MethodId} {args : Array Value} {below : List Frame} {meth : Method} {c : Code} {X : vD}  (hJ : sh_J X) (hX : shp X = shM) {kg kx kr ko n ka kn kl kb ky : Nat} (G : vG p s m args meth c X shM "SensorNodeModel$Guest" cX9_sendTo 5 none) (hH : isH kg kx kr ko n) (hA : isA ka kn kl kb ky) : ∀ (fuel : Nat) (S : St) (v2 v3 v4 : Int32) , (2147483648 - v4.toInt).toNat < fuel → k_H_sendTo_47 fuel S kg kx kr ko n ka kn kl kb ky v2 v3 v4 → V p l e 3 s m args below meth c X 5 (fun S : St => ((none, S) : Option Value × St)) S 47 [(0, .ref (adr X kg)), (1, .ref (adr X ka)), (2, .int v2), (3, .int v3), (4, .int v4)] [] (f_H_sendTo_47 fuel S kg kx kr ko n ka kn kl kb ky v2 v3 v4) := by
  intro fuel
  induction fuel with
  | zero =>
    intro S v2 v3 v4 hm hk
    exact absurd hm (Nat.not_lt_zero _)
  | succ fn ih =>
    intro S v2 v3 v4 hm hk
    rw [f_H_sendTo_47]
    rw [k_H_sendTo_47] at hk
    refine v_iload G 4 dX9_sendTo_47 rfl ?_
    refine v_aload_n G 0 dX9_sendTo_49 rfl ?_
    refine v_geti G (ci := 9) (T := TX9) (j := 17) inX9 rfl hH.1 rfl (by decide) w4_19 dX9_sendTo_50 ?_
    refine v_icmp_ge G (tgt := 89) dX9_sendTo_53 (by decide) (fun c_1048 => ?_) (fun c_1048 => ?_)
    · exact v_sub (lv' := [(0, .ref (adr X kg)), (1, .ref (adr X ka)), (2, .int v2)]) [0, 1, 2] rfl (v_H_sendTo_89 hJ hX G hH hA S v2)
    · replace hk := ok_t c_1048 hk
      refine v_aload_n G 1 dX9_sendTo_56 rfl ?_
      refine v_getr G (ci := 8) (T := TX8) (j := 4) inX8 rfl hA.1 rfl (by decide) w4_82 dX9_sendTo_57 ?_
      refine v_bipush G (v := (64 : Int32)) dX9_sendTo_60 (by decide) ?_
      refine v_iload_n G 3 dX9_sendTo_62 rfl ?_
      refine v_imul G dX9_sendTo_63 ?_
      refine v_iload G 4 dX9_sendTo_64 rfl ?_
      refine v_iadd G dX9_sendTo_66 ?_
      refine v_aload_n G 0 dX9_sendTo_67 rfl ?_
      refine v_aload_n G 0 dX9_sendTo_68 rfl ?_
      refine v_getr G (ci := 9) (T := TX9) (j := 0) inX9 rfl hH.1 rfl (by decide) w3_228 dX9_sendTo_69 ?_
      refine v_bipush G (v := (10 : Int32)) dX9_sendTo_72 (by decide) ?_
      refine v_iald G hH.2.1 (by unfold vp_in; decide) dX9_sendTo_74 ?_
      refine v_iload G 4 dX9_sendTo_75 rfl ?_
      refine v_iadd G dX9_sendTo_77 ?_
      refine v_callVi G (As := [.int ((S kx (10 : Int32).toNatClampNeg) + v4)]) (st := [.int (((64 : Int32) * v3) + v4), .ref (adr X ky)]) (c_H_byteAt l hJ hX kg kx kr ko n hH S ((S kx (10 : Int32).toNatClampNeg) + v4) hk.1) (by decide) (by decide) (ci := 9) rfl hH.1 w5_68 w5_69 w5_70 w1_10 w5_71 qyX9_byteAt rfl (Nat.le_of_ble_eq_true rfl) dX9_sendTo_78 ?_
      replace hk := hk.2
      refine v_i2b G dX9_sendTo_81 ?_
      refine v_bast G hA.2.2.2.2 hk.1 dX9_sendTo_82 (fun S_1049 eS_1049 => ?_)
      replace hk := hk.2
      replace hk := ok_v eS_1049 hk
      refine v_iinc G (v := v4 + (1 : Int32)) 4 [(4, .int (v4 + (1 : Int32))), (0, .ref (adr X kg)), (1, .ref (adr X ka)), (2, .int v2), (3, .int v3)] dX9_sendTo_83 rfl rfl (by decide) rfl ?_
      refine v_goto G (tgt := 47) dX9_sendTo_86 (by decide) ?_
      exact v_sub (lv' := [(0, .ref (adr X kg)), (1, .ref (adr X ka)), (2, .int v2), (3, .int v3), (4, .int (v4 + (1 : Int32)))]) [1, 2, 3, 4, 0] rfl (ih S_1049 v2 v3 (v4 + (1 : Int32)) (lp_m31 (by assumption) hm) hk)
noncomputable def f_H_sendTo (S : St) (kg kx kr ko n ka kn kl kb ky : Nat) (a2 : Int32) : St := (if (S ka 0) < (400 : Int32) then bnx (S ka 0) (fun x_2 => bnv (st_up S kn x_2.toNatClampNeg ((S kg 3) + (1 : Int32))) (fun S_3 => bnv (st_up S_3 kl x_2.toNatClampNeg (S_3 kg 17)) (fun S_4 => bnv (st_up S_4 kb x_2.toNatClampNeg a2) (fun S_5 => (f_H_sendTo_47 fuz S_5 kg kx kr ko n ka kn kl kb ky a2 x_2 (0 : Int32)))))) else (f_H_sendTo_89 S kg kx kr ko n ka kn kl kb ky a2))
def k_H_sendTo (S : St) (kg kx kr ko n ka kn kl kb ky : Nat) (a2 : Int32) : Prop := (if (S ka 0) < (400 : Int32) then bnx (S ka 0) (fun x_2 => (vp_in x_2 400 ∧ bnv (st_up S kn x_2.toNatClampNeg ((S kg 3) + (1 : Int32))) (fun S_3 => (vp_in x_2 400 ∧ bnv (st_up S_3 kl x_2.toNatClampNeg (S_3 kg 17)) (fun S_4 => (vp_in x_2 400 ∧ bnv (st_up S_4 kb x_2.toNatClampNeg a2) (fun S_5 => (k_H_sendTo_47 fuz S_5 kg kx kr ko n ka kn kl kb ky a2 x_2 (0 : Int32))))))))) else True)
set_option linter.unusedVariables false in
set_option maxHeartbeats 4000000 in
set_option maxRecDepth 100000 in
theorem c_H_sendTo (l : Launch) {X : vD} (hJ : sh_J X) (hX : shp X = shM) (kg kx kr ko n ka kn kl kb ky : Nat) (hH : isH kg kx kr ko n) (hA : isA ka kn kl kb ky) (S : St) (a2 : Int32) (hk : k_H_sendTo S kg kx kr ko n ka kn kl kb ky a2) : Con l X yX9_sendTo cX9_sendTo 5 none 3 [.ref (adr X kg), .ref (adr X ka), .int a2] S (none, f_H_sendTo S kg kx kr ko n ka kn kl kb ky a2) := by
  refine con_of (ρ := (fun S : St => ((none, S) : Option Value × St))) (K := f_H_sendTo S kg kx kr ko n ka kn kl kb ky a2) hJ hX (by decide) (Nat.le_of_ble_eq_true rfl) (lv := [(0, .ref (adr X kg)), (1, .ref (adr X ka)), (2, .int a2)]) rfl ?_
  intro p e s m below meth c G
  have G : vG p s m _ meth c X shM "SensorNodeModel$Guest" cX9_sendTo 5 none := G
  unfold f_H_sendTo
  unfold k_H_sendTo at hk
  refine v_aload_n G 1 dX9_sendTo_0 rfl ?_
  refine v_geti G (ci := 8) (T := TX8) (j := 0) inX8 rfl hA.1 rfl (by decide) w4_71 dX9_sendTo_1 ?_
  refine v_sipush G (v := (400 : Int32)) dX9_sendTo_4 (by decide) ?_
  refine v_icmp_ge G (tgt := 89) dX9_sendTo_7 (by decide) (fun c_1 => ?_) (fun c_1 => ?_)
  · exact v_sub (lv' := [(0, .ref (adr X kg)), (1, .ref (adr X ka)), (2, .int a2)]) [0, 1, 2] rfl (v_H_sendTo_89 hJ hX G hH hA S a2)
  · replace hk := ok_t c_1 hk
    refine v_aload_n G 1 dX9_sendTo_10 rfl ?_
    refine v_geti G (ci := 8) (T := TX8) (j := 0) inX8 rfl hA.1 rfl (by decide) w4_71 dX9_sendTo_11 ?_
    refine v_namei (fun x_2 ex_2 => ?_)
    replace hk := ok_x ex_2 hk
    refine v_istore_n G [(3, .int x_2), (0, .ref (adr X kg)), (1, .ref (adr X ka)), (2, .int a2)] dX9_sendTo_14 (by decide) rfl ?_
    refine v_aload_n G 2 dX9_sendTo_15 rfl ?_
    refine v_getr G (ci := 8) (T := TX8) (j := 1) inX8 rfl hA.1 rfl (by decide) w4_73 dX9_sendTo_16 ?_
    refine v_iload_n G 0 dX9_sendTo_19 rfl ?_
    refine v_aload_n G 1 dX9_sendTo_20 rfl ?_
    refine v_geti G (ci := 9) (T := TX9) (j := 3) inX9 rfl hH.1 rfl (by decide) w3_234 dX9_sendTo_21 ?_
    refine v_iconst G (v := (1 : Int32)) dX9_sendTo_24 (by decide) ?_
    refine v_iadd G dX9_sendTo_25 ?_
    refine v_iast G hA.2.1 hk.1 dX9_sendTo_26 (fun S_3 eS_3 => ?_)
    replace hk := hk.2
    replace hk := ok_v eS_3 hk
    refine v_aload_n G 2 dX9_sendTo_27 rfl ?_
    refine v_getr G (ci := 8) (T := TX8) (j := 2) inX8 rfl hA.1 rfl (by decide) w4_76 dX9_sendTo_28 ?_
    refine v_iload_n G 0 dX9_sendTo_31 rfl ?_
    refine v_aload_n G 1 dX9_sendTo_32 rfl ?_
    refine v_geti G (ci := 9) (T := TX9) (j := 17) inX9 rfl hH.1 rfl (by decide) w4_19 dX9_sendTo_33 ?_
    refine v_iast G hA.2.2.1 hk.1 dX9_sendTo_36 (fun S_4 eS_4 => ?_)
    replace hk := hk.2
    replace hk := ok_v eS_4 hk
    refine v_aload_n G 2 dX9_sendTo_37 rfl ?_
    refine v_getr G (ci := 8) (T := TX8) (j := 3) inX8 rfl hA.1 rfl (by decide) w4_79 dX9_sendTo_38 ?_
    refine v_iload_n G 0 dX9_sendTo_41 rfl ?_
    refine v_iload_n G 3 dX9_sendTo_42 rfl ?_
    refine v_iast G hA.2.2.2.1 hk.1 dX9_sendTo_43 (fun S_5 eS_5 => ?_)
    replace hk := hk.2
    replace hk := ok_v eS_5 hk
    refine v_iconst G (v := (0 : Int32)) dX9_sendTo_44 (by decide) ?_
    refine v_istore G [(4, .int (0 : Int32)), (3, .int x_2), (0, .ref (adr X kg)), (1, .ref (adr X ka)), (2, .int a2)] dX9_sendTo_45 (by decide) rfl ?_
    exact v_sub (lv' := [(0, .ref (adr X kg)), (1, .ref (adr X ka)), (2, .int a2), (3, .int x_2), (4, .int (0 : Int32))]) [2, 3, 4, 1, 0] rfl (v_H_sendTo_47 hJ hX G hH hA fuz S_5 a2 x_2 (0 : Int32) (lp_z31 _) hk)

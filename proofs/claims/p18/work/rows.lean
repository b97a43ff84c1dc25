section
-- ===== PART A: goes FIRST, ahead of the names: the tables' words, and 'selects' of the private methods out of them =====
/-- a private method of a class that the tables say can be made, by its rows of tables_1 -/
def lw_okq (q : MethodName × Nat) : Prop := (q.1.cls ≠ "java/lang/invoke/MethodHandle" ∧ q.1.cls ≠ "java/lang/invoke/VarHandle") ∧ Cond.instantiable q.1.cls q.2 ∈ tables_1 ∧ Cond.privateMethod q.1 ∈ tables_1 ∧ Cond.instanceMethod q.1 ∈ tables_1
theorem lw_p0 : lw_okq (⟨"SensorNode$Node", "generation", "()I"⟩, 15) := ⟨⟨by decide +kernel, by decide +kernel⟩, List.mem_of_getElem? (i := 90) (by decide +kernel), List.mem_of_getElem? (i := 346) (by decide +kernel), List.mem_of_getElem? (i := 347) (by decide +kernel)⟩
theorem lw_p1 : lw_okq (⟨"SensorNode$Node", "bufferStart", "(I)I"⟩, 15) := ⟨⟨by decide +kernel, by decide +kernel⟩, List.mem_of_getElem? (i := 90) (by decide +kernel), List.mem_of_getElem? (i := 351) (by decide +kernel), List.mem_of_getElem? (i := 352) (by decide +kernel)⟩
theorem lw_p2 : lw_okq (⟨"SensorNode$Node", "meetLog", "()V"⟩, 15) := ⟨⟨by decide +kernel, by decide +kernel⟩, List.mem_of_getElem? (i := 90) (by decide +kernel), List.mem_of_getElem? (i := 363) (by decide +kernel), List.mem_of_getElem? (i := 364) (by decide +kernel)⟩
theorem lw_p3 : lw_okq (⟨"SensorNode$Node", "entriesThatCount", "()I"⟩, 15) := ⟨⟨by decide +kernel, by decide +kernel⟩, List.mem_of_getElem? (i := 90) (by decide +kernel), List.mem_of_getElem? (i := 367) (by decide +kernel), List.mem_of_getElem? (i := 368) (by decide +kernel)⟩
theorem lw_p4 : lw_okq (⟨"SensorNode$Node", "hasPower", "()Z"⟩, 15) := ⟨⟨by decide +kernel, by decide +kernel⟩, List.mem_of_getElem? (i := 90) (by decide +kernel), List.mem_of_getElem? (i := 379) (by decide +kernel), List.mem_of_getElem? (i := 380) (by decide +kernel)⟩
theorem lw_p5 : lw_okq (⟨"SensorNode$Node", "choose", "()V"⟩, 15) := ⟨⟨by decide +kernel, by decide +kernel⟩, List.mem_of_getElem? (i := 90) (by decide +kernel), List.mem_of_getElem? (i := 391) (by decide +kernel), List.mem_of_getElem? (i := 392) (by decide +kernel)⟩
theorem lw_p6 : lw_okq (⟨"SensorNode$Guest", "trapOfPlace", "(II)I"⟩, 10) := ⟨⟨by decide +kernel, by decide +kernel⟩, List.mem_of_getElem? (i := 123) (by decide +kernel), List.mem_of_getElem? (i := 399) (by decide +kernel), List.mem_of_getElem? (i := 400) (by decide +kernel)⟩
theorem lw_p7 : lw_okq (⟨"SensorNode$Guest", "wordAt", "(I)I"⟩, 10) := ⟨⟨by decide +kernel, by decide +kernel⟩, List.mem_of_getElem? (i := 123) (by decide +kernel), List.mem_of_getElem? (i := 408) (by decide +kernel), List.mem_of_getElem? (i := 409) (by decide +kernel)⟩
theorem lw_p8 : lw_okq (⟨"SensorNode$Guest", "give", "(I)I"⟩, 10) := ⟨⟨by decide +kernel, by decide +kernel⟩, List.mem_of_getElem? (i := 123) (by decide +kernel), List.mem_of_getElem? (i := 416) (by decide +kernel), List.mem_of_getElem? (i := 417) (by decide +kernel)⟩
theorem lw_p9 : lw_okq (⟨"SensorNode$Guest", "jump", "(II)I"⟩, 10) := ⟨⟨by decide +kernel, by decide +kernel⟩, List.mem_of_getElem? (i := 123) (by decide +kernel), List.mem_of_getElem? (i := 424) (by decide +kernel), List.mem_of_getElem? (i := 425) (by decide +kernel)⟩
theorem lw_p10 : lw_okq (⟨"SensorNode$Guest", "branch", "(IIII)I"⟩, 10) := ⟨⟨by decide +kernel, by decide +kernel⟩, List.mem_of_getElem? (i := 123) (by decide +kernel), List.mem_of_getElem? (i := 431) (by decide +kernel), List.mem_of_getElem? (i := 432) (by decide +kernel)⟩
theorem lw_p11 : lw_okq (⟨"SensorNode$Guest", "load", "(II)I"⟩, 10) := ⟨⟨by decide +kernel, by decide +kernel⟩, List.mem_of_getElem? (i := 123) (by decide +kernel), List.mem_of_getElem? (i := 439) (by decide +kernel), List.mem_of_getElem? (i := 440) (by decide +kernel)⟩
theorem lw_p12 : lw_okq (⟨"SensorNode$Guest", "storeAt", "(III)I"⟩, 10) := ⟨⟨by decide +kernel, by decide +kernel⟩, List.mem_of_getElem? (i := 123) (by decide +kernel), List.mem_of_getElem? (i := 444) (by decide +kernel), List.mem_of_getElem? (i := 445) (by decide +kernel)⟩
theorem lw_p13 : lw_okq (⟨"SensorNode$Guest", "withNumber", "(IIII)I"⟩, 10) := ⟨⟨by decide +kernel, by decide +kernel⟩, List.mem_of_getElem? (i := 123) (by decide +kernel), List.mem_of_getElem? (i := 448) (by decide +kernel), List.mem_of_getElem? (i := 449) (by decide +kernel)⟩
theorem lw_p14 : lw_okq (⟨"SensorNode$Guest", "withRegister", "(IIII)I"⟩, 10) := ⟨⟨by decide +kernel, by decide +kernel⟩, List.mem_of_getElem? (i := 123) (by decide +kernel), List.mem_of_getElem? (i := 455) (by decide +kernel), List.mem_of_getElem? (i := 456) (by decide +kernel)⟩
theorem lw_p15 : lw_okq (⟨"SensorNode$Guest", "call", "()I"⟩, 10) := ⟨⟨by decide +kernel, by decide +kernel⟩, List.mem_of_getElem? (i := 123) (by decide +kernel), List.mem_of_getElem? (i := 459) (by decide +kernel), List.mem_of_getElem? (i := 460) (by decide +kernel)⟩
def lw_privs_1 : List (MethodName × Nat) := [(⟨"SensorNode$Node", "generation", "()I"⟩, 15), (⟨"SensorNode$Node", "bufferStart", "(I)I"⟩, 15), (⟨"SensorNode$Node", "meetLog", "()V"⟩, 15), (⟨"SensorNode$Node", "entriesThatCount", "()I"⟩, 15), (⟨"SensorNode$Node", "hasPower", "()Z"⟩, 15), (⟨"SensorNode$Node", "choose", "()V"⟩, 15), (⟨"SensorNode$Guest", "trapOfPlace", "(II)I"⟩, 10), (⟨"SensorNode$Guest", "wordAt", "(I)I"⟩, 10), (⟨"SensorNode$Guest", "give", "(I)I"⟩, 10), (⟨"SensorNode$Guest", "jump", "(II)I"⟩, 10), (⟨"SensorNode$Guest", "branch", "(IIII)I"⟩, 10), (⟨"SensorNode$Guest", "load", "(II)I"⟩, 10), (⟨"SensorNode$Guest", "storeAt", "(III)I"⟩, 10), (⟨"SensorNode$Guest", "withNumber", "(IIII)I"⟩, 10), (⟨"SensorNode$Guest", "withRegister", "(IIII)I"⟩, 10), (⟨"SensorNode$Guest", "call", "()I"⟩, 10)]
theorem lw_r1 : ∀ q ∈ lw_privs_1, lw_okq q := List.forall_mem_cons.mpr ⟨lw_p0, List.forall_mem_cons.mpr ⟨lw_p1, List.forall_mem_cons.mpr ⟨lw_p2, List.forall_mem_cons.mpr ⟨lw_p3, List.forall_mem_cons.mpr ⟨lw_p4, List.forall_mem_cons.mpr ⟨lw_p5, List.forall_mem_cons.mpr ⟨lw_p6, List.forall_mem_cons.mpr ⟨lw_p7, List.forall_mem_cons.mpr ⟨lw_p8, List.forall_mem_cons.mpr ⟨lw_p9, List.forall_mem_cons.mpr ⟨lw_p10, List.forall_mem_cons.mpr ⟨lw_p11, List.forall_mem_cons.mpr ⟨lw_p12, List.forall_mem_cons.mpr ⟨lw_p13, List.forall_mem_cons.mpr ⟨lw_p14, List.forall_mem_cons.mpr ⟨lw_p15, fun _ h => absurd h List.not_mem_nil⟩⟩⟩⟩⟩⟩⟩⟩⟩⟩⟩⟩⟩⟩⟩⟩
theorem lw_p16 : lw_okq (⟨"SensorNode$Guest", "callToSend", "()I"⟩, 10) := ⟨⟨by decide +kernel, by decide +kernel⟩, List.mem_of_getElem? (i := 123) (by decide +kernel), List.mem_of_getElem? (i := 467) (by decide +kernel), List.mem_of_getElem? (i := 468) (by decide +kernel)⟩
theorem lw_p17 : lw_okq (⟨"SensorNode$Node", "needsCheckpoint", "()Z"⟩, 15) := ⟨⟨by decide +kernel, by decide +kernel⟩, List.mem_of_getElem? (i := 90) (by decide +kernel), List.mem_of_getElem? (i := 471) (by decide +kernel), List.mem_of_getElem? (i := 472) (by decide +kernel)⟩
theorem lw_p18 : lw_okq (⟨"SensorNode$Node", "needsEntry", "()Z"⟩, 15) := ⟨⟨by decide +kernel, by decide +kernel⟩, List.mem_of_getElem? (i := 90) (by decide +kernel), List.mem_of_getElem? (i := 479) (by decide +kernel), List.mem_of_getElem? (i := 480) (by decide +kernel)⟩
theorem lw_p19 : lw_okq (⟨"SensorNode$Node", "boot", "()V"⟩, 15) := ⟨⟨by decide +kernel, by decide +kernel⟩, List.mem_of_getElem? (i := 90) (by decide +kernel), List.mem_of_getElem? (i := 487) (by decide +kernel), List.mem_of_getElem? (i := 488) (by decide +kernel)⟩
theorem lw_p20 : lw_okq (⟨"SensorNode$Node", "write", "(II)V"⟩, 15) := ⟨⟨by decide +kernel, by decide +kernel⟩, List.mem_of_getElem? (i := 90) (by decide +kernel), List.mem_of_getElem? (i := 491) (by decide +kernel), List.mem_of_getElem? (i := 492) (by decide +kernel)⟩
theorem lw_p21 : lw_okq (⟨"SensorNode$Node", "checkpoint", "()V"⟩, 15) := ⟨⟨by decide +kernel, by decide +kernel⟩, List.mem_of_getElem? (i := 90) (by decide +kernel), List.mem_of_getElem? (i := 495) (by decide +kernel), List.mem_of_getElem? (i := 496) (by decide +kernel)⟩
theorem lw_p22 : lw_okq (⟨"SensorNode$Node", "instruct", "()V"⟩, 15) := ⟨⟨by decide +kernel, by decide +kernel⟩, List.mem_of_getElem? (i := 90) (by decide +kernel), List.mem_of_getElem? (i := 507) (by decide +kernel), List.mem_of_getElem? (i := 508) (by decide +kernel)⟩
theorem lw_p23 : lw_okq (⟨"SensorNode$Node", "log", "(I)V"⟩, 15) := ⟨⟨by decide +kernel, by decide +kernel⟩, List.mem_of_getElem? (i := 90) (by decide +kernel), List.mem_of_getElem? (i := 529) (by decide +kernel), List.mem_of_getElem? (i := 530) (by decide +kernel)⟩
theorem lw_p24 : lw_okq (⟨"SensorNode$Node", "finish", "()V"⟩, 15) := ⟨⟨by decide +kernel, by decide +kernel⟩, List.mem_of_getElem? (i := 90) (by decide +kernel), List.mem_of_getElem? (i := 533) (by decide +kernel), List.mem_of_getElem? (i := 534) (by decide +kernel)⟩
theorem lw_p25 : lw_okq (⟨"SensorNode$Guest", "putWord", "(II)V"⟩, 10) := ⟨⟨by decide +kernel, by decide +kernel⟩, List.mem_of_getElem? (i := 123) (by decide +kernel), List.mem_of_getElem? (i := 545) (by decide +kernel), List.mem_of_getElem? (i := 546) (by decide +kernel)⟩
theorem lw_p26 : lw_okq (⟨"SensorNode$Radio", "keeps", "(I)Z"⟩, 6) := ⟨⟨by decide +kernel, by decide +kernel⟩, List.mem_of_getElem? (i := 96) (by decide +kernel), List.mem_of_getElem? (i := 608) (by decide +kernel), List.mem_of_getElem? (i := 609) (by decide +kernel)⟩
theorem lw_p27 : lw_okq (⟨"SensorNode$PlainMachine", "begin", "()V"⟩, 6) := ⟨⟨by decide +kernel, by decide +kernel⟩, List.mem_of_getElem? (i := 206) (by decide +kernel), List.mem_of_getElem? (i := 646) (by decide +kernel), List.mem_of_getElem? (i := 647) (by decide +kernel)⟩
theorem lw_p28 : lw_okq (⟨"SensorNodeModel", "four", "(I)V"⟩, 36) := ⟨⟨by decide +kernel, by decide +kernel⟩, List.mem_of_getElem? (i := 697) (by decide +kernel), List.mem_of_getElem? (i := 931) (by decide +kernel), List.mem_of_getElem? (i := 932) (by decide +kernel)⟩
theorem lw_p29 : lw_okq (⟨"SensorNodeModel", "generation", "()I"⟩, 36) := ⟨⟨by decide +kernel, by decide +kernel⟩, List.mem_of_getElem? (i := 697) (by decide +kernel), List.mem_of_getElem? (i := 951) (by decide +kernel), List.mem_of_getElem? (i := 952) (by decide +kernel)⟩
theorem lw_p30 : lw_okq (⟨"SensorNodeModel", "bufferAt", "(I)I"⟩, 36) := ⟨⟨by decide +kernel, by decide +kernel⟩, List.mem_of_getElem? (i := 697) (by decide +kernel), List.mem_of_getElem? (i := 955) (by decide +kernel), List.mem_of_getElem? (i := 956) (by decide +kernel)⟩
theorem lw_p31 : lw_okq (⟨"SensorNodeModel", "forgetEntries", "()V"⟩, 36) := ⟨⟨by decide +kernel, by decide +kernel⟩, List.mem_of_getElem? (i := 697) (by decide +kernel), List.mem_of_getElem? (i := 959) (by decide +kernel), List.mem_of_getElem? (i := 960) (by decide +kernel)⟩
def lw_privs_2 : List (MethodName × Nat) := [(⟨"SensorNode$Guest", "callToSend", "()I"⟩, 10), (⟨"SensorNode$Node", "needsCheckpoint", "()Z"⟩, 15), (⟨"SensorNode$Node", "needsEntry", "()Z"⟩, 15), (⟨"SensorNode$Node", "boot", "()V"⟩, 15), (⟨"SensorNode$Node", "write", "(II)V"⟩, 15), (⟨"SensorNode$Node", "checkpoint", "()V"⟩, 15), (⟨"SensorNode$Node", "instruct", "()V"⟩, 15), (⟨"SensorNode$Node", "log", "(I)V"⟩, 15), (⟨"SensorNode$Node", "finish", "()V"⟩, 15), (⟨"SensorNode$Guest", "putWord", "(II)V"⟩, 10), (⟨"SensorNode$Radio", "keeps", "(I)Z"⟩, 6), (⟨"SensorNode$PlainMachine", "begin", "()V"⟩, 6), (⟨"SensorNodeModel", "four", "(I)V"⟩, 36), (⟨"SensorNodeModel", "generation", "()I"⟩, 36), (⟨"SensorNodeModel", "bufferAt", "(I)I"⟩, 36), (⟨"SensorNodeModel", "forgetEntries", "()V"⟩, 36)]
theorem lw_r2 : ∀ q ∈ lw_privs_2, lw_okq q := List.forall_mem_cons.mpr ⟨lw_p16, List.forall_mem_cons.mpr ⟨lw_p17, List.forall_mem_cons.mpr ⟨lw_p18, List.forall_mem_cons.mpr ⟨lw_p19, List.forall_mem_cons.mpr ⟨lw_p20, List.forall_mem_cons.mpr ⟨lw_p21, List.forall_mem_cons.mpr ⟨lw_p22, List.forall_mem_cons.mpr ⟨lw_p23, List.forall_mem_cons.mpr ⟨lw_p24, List.forall_mem_cons.mpr ⟨lw_p25, List.forall_mem_cons.mpr ⟨lw_p26, List.forall_mem_cons.mpr ⟨lw_p27, List.forall_mem_cons.mpr ⟨lw_p28, List.forall_mem_cons.mpr ⟨lw_p29, List.forall_mem_cons.mpr ⟨lw_p30, List.forall_mem_cons.mpr ⟨lw_p31, fun _ h => absurd h List.not_mem_nil⟩⟩⟩⟩⟩⟩⟩⟩⟩⟩⟩⟩⟩⟩⟩⟩
theorem lw_p32 : lw_okq (⟨"SensorNodeModel", "counting", "()I"⟩, 36) := ⟨⟨by decide +kernel, by decide +kernel⟩, List.mem_of_getElem? (i := 697) (by decide +kernel), List.mem_of_getElem? (i := 964) (by decide +kernel), List.mem_of_getElem? (i := 965) (by decide +kernel)⟩
theorem lw_p33 : lw_okq (⟨"SensorNodeModel", "act", "()V"⟩, 36) := ⟨⟨by decide +kernel, by decide +kernel⟩, List.mem_of_getElem? (i := 697) (by decide +kernel), List.mem_of_getElem? (i := 976) (by decide +kernel), List.mem_of_getElem? (i := 977) (by decide +kernel)⟩
theorem lw_p34 : lw_okq (⟨"SensorNodeModel", "boot", "()V"⟩, 36) := ⟨⟨by decide +kernel, by decide +kernel⟩, List.mem_of_getElem? (i := 697) (by decide +kernel), List.mem_of_getElem? (i := 980) (by decide +kernel), List.mem_of_getElem? (i := 981) (by decide +kernel)⟩
theorem lw_p35 : lw_okq (⟨"SensorNodeModel", "write", "(II)V"⟩, 36) := ⟨⟨by decide +kernel, by decide +kernel⟩, List.mem_of_getElem? (i := 697) (by decide +kernel), List.mem_of_getElem? (i := 984) (by decide +kernel), List.mem_of_getElem? (i := 985) (by decide +kernel)⟩
theorem lw_p36 : lw_okq (⟨"SensorNodeModel", "check", "()V"⟩, 36) := ⟨⟨by decide +kernel, by decide +kernel⟩, List.mem_of_getElem? (i := 697) (by decide +kernel), List.mem_of_getElem? (i := 988) (by decide +kernel), List.mem_of_getElem? (i := 989) (by decide +kernel)⟩
theorem lw_p37 : lw_okq (⟨"SensorNodeModel", "checkWord", "(I)I"⟩, 36) := ⟨⟨by decide +kernel, by decide +kernel⟩, List.mem_of_getElem? (i := 697) (by decide +kernel), List.mem_of_getElem? (i := 992) (by decide +kernel), List.mem_of_getElem? (i := 993) (by decide +kernel)⟩
theorem lw_p38 : lw_okq (⟨"SensorNodeModel", "log", "()V"⟩, 36) := ⟨⟨by decide +kernel, by decide +kernel⟩, List.mem_of_getElem? (i := 697) (by decide +kernel), List.mem_of_getElem? (i := 996) (by decide +kernel), List.mem_of_getElem? (i := 997) (by decide +kernel)⟩
theorem lw_p39 : lw_okq (⟨"SensorNodeModel", "perform", "()V"⟩, 36) := ⟨⟨by decide +kernel, by decide +kernel⟩, List.mem_of_getElem? (i := 697) (by decide +kernel), List.mem_of_getElem? (i := 1000) (by decide +kernel), List.mem_of_getElem? (i := 1001) (by decide +kernel)⟩
theorem lw_p40 : lw_okq (⟨"SensorNodeModel$Guest", "isRam", "(I)Z"⟩, 20) := ⟨⟨by decide +kernel, by decide +kernel⟩, List.mem_of_getElem? (i := 703) (by decide +kernel), List.mem_of_getElem? (i := 1012) (by decide +kernel), List.mem_of_getElem? (i := 1013) (by decide +kernel)⟩
theorem lw_p41 : lw_okq (⟨"SensorNodeModel", "send", "()V"⟩, 36) := ⟨⟨by decide +kernel, by decide +kernel⟩, List.mem_of_getElem? (i := 697) (by decide +kernel), List.mem_of_getElem? (i := 1021) (by decide +kernel), List.mem_of_getElem? (i := 1022) (by decide +kernel)⟩
theorem lw_p42 : lw_okq (⟨"SensorNodeModel", "decide", "()V"⟩, 36) := ⟨⟨by decide +kernel, by decide +kernel⟩, List.mem_of_getElem? (i := 697) (by decide +kernel), List.mem_of_getElem? (i := 1033) (by decide +kernel), List.mem_of_getElem? (i := 1034) (by decide +kernel)⟩
theorem lw_p43 : lw_okq (⟨"SensorNodeModel$Guest", "decode", "(I)V"⟩, 20) := ⟨⟨by decide +kernel, by decide +kernel⟩, List.mem_of_getElem? (i := 703) (by decide +kernel), List.mem_of_getElem? (i := 1046) (by decide +kernel), List.mem_of_getElem? (i := 1047) (by decide +kernel)⟩
theorem lw_p44 : lw_okq (⟨"SensorNodeModel$Guest", "gives", "(I)V"⟩, 20) := ⟨⟨by decide +kernel, by decide +kernel⟩, List.mem_of_getElem? (i := 703) (by decide +kernel), List.mem_of_getElem? (i := 1050) (by decide +kernel), List.mem_of_getElem? (i := 1051) (by decide +kernel)⟩
theorem lw_p45 : lw_okq (⟨"SensorNodeModel$Guest", "goes", "(I)V"⟩, 20) := ⟨⟨by decide +kernel, by decide +kernel⟩, List.mem_of_getElem? (i := 703) (by decide +kernel), List.mem_of_getElem? (i := 1055) (by decide +kernel), List.mem_of_getElem? (i := 1056) (by decide +kernel)⟩
theorem lw_p46 : lw_okq (⟨"SensorNodeModel$Guest", "branch", "(IIII)V"⟩, 20) := ⟨⟨by decide +kernel, by decide +kernel⟩, List.mem_of_getElem? (i := 703) (by decide +kernel), List.mem_of_getElem? (i := 1059) (by decide +kernel), List.mem_of_getElem? (i := 1060) (by decide +kernel)⟩
theorem lw_p47 : lw_okq (⟨"SensorNodeModel$Guest", "loads", "(II)V"⟩, 20) := ⟨⟨by decide +kernel, by decide +kernel⟩, List.mem_of_getElem? (i := 703) (by decide +kernel), List.mem_of_getElem? (i := 1066) (by decide +kernel), List.mem_of_getElem? (i := 1067) (by decide +kernel)⟩
def lw_privs_3 : List (MethodName × Nat) := [(⟨"SensorNodeModel", "counting", "()I"⟩, 36), (⟨"SensorNodeModel", "act", "()V"⟩, 36), (⟨"SensorNodeModel", "boot", "()V"⟩, 36), (⟨"SensorNodeModel", "write", "(II)V"⟩, 36), (⟨"SensorNodeModel", "check", "()V"⟩, 36), (⟨"SensorNodeModel", "checkWord", "(I)I"⟩, 36), (⟨"SensorNodeModel", "log", "()V"⟩, 36), (⟨"SensorNodeModel", "perform", "()V"⟩, 36), (⟨"SensorNodeModel$Guest", "isRam", "(I)Z"⟩, 20), (⟨"SensorNodeModel", "send", "()V"⟩, 36), (⟨"SensorNodeModel", "decide", "()V"⟩, 36), (⟨"SensorNodeModel$Guest", "decode", "(I)V"⟩, 20), (⟨"SensorNodeModel$Guest", "gives", "(I)V"⟩, 20), (⟨"SensorNodeModel$Guest", "goes", "(I)V"⟩, 20), (⟨"SensorNodeModel$Guest", "branch", "(IIII)V"⟩, 20), (⟨"SensorNodeModel$Guest", "loads", "(II)V"⟩, 20)]
theorem lw_r3 : ∀ q ∈ lw_privs_3, lw_okq q := List.forall_mem_cons.mpr ⟨lw_p32, List.forall_mem_cons.mpr ⟨lw_p33, List.forall_mem_cons.mpr ⟨lw_p34, List.forall_mem_cons.mpr ⟨lw_p35, List.forall_mem_cons.mpr ⟨lw_p36, List.forall_mem_cons.mpr ⟨lw_p37, List.forall_mem_cons.mpr ⟨lw_p38, List.forall_mem_cons.mpr ⟨lw_p39, List.forall_mem_cons.mpr ⟨lw_p40, List.forall_mem_cons.mpr ⟨lw_p41, List.forall_mem_cons.mpr ⟨lw_p42, List.forall_mem_cons.mpr ⟨lw_p43, List.forall_mem_cons.mpr ⟨lw_p44, List.forall_mem_cons.mpr ⟨lw_p45, List.forall_mem_cons.mpr ⟨lw_p46, List.forall_mem_cons.mpr ⟨lw_p47, fun _ h => absurd h List.not_mem_nil⟩⟩⟩⟩⟩⟩⟩⟩⟩⟩⟩⟩⟩⟩⟩⟩
theorem lw_p48 : lw_okq (⟨"SensorNodeModel$Guest", "reaches", "(II)Z"⟩, 20) := ⟨⟨by decide +kernel, by decide +kernel⟩, List.mem_of_getElem? (i := 703) (by decide +kernel), List.mem_of_getElem? (i := 1070) (by decide +kernel), List.mem_of_getElem? (i := 1071) (by decide +kernel)⟩
theorem lw_p49 : lw_okq (⟨"SensorNodeModel$Guest", "stores", "(III)V"⟩, 20) := ⟨⟨by decide +kernel, by decide +kernel⟩, List.mem_of_getElem? (i := 703) (by decide +kernel), List.mem_of_getElem? (i := 1075) (by decide +kernel), List.mem_of_getElem? (i := 1076) (by decide +kernel)⟩
theorem lw_p50 : lw_okq (⟨"SensorNodeModel$Guest", "calls", "()V"⟩, 20) := ⟨⟨by decide +kernel, by decide +kernel⟩, List.mem_of_getElem? (i := 703) (by decide +kernel), List.mem_of_getElem? (i := 1085) (by decide +kernel), List.mem_of_getElem? (i := 1086) (by decide +kernel)⟩
def lw_privs_4 : List (MethodName × Nat) := [(⟨"SensorNodeModel$Guest", "reaches", "(II)Z"⟩, 20), (⟨"SensorNodeModel$Guest", "stores", "(III)V"⟩, 20), (⟨"SensorNodeModel$Guest", "calls", "()V"⟩, 20)]
theorem lw_r4 : ∀ q ∈ lw_privs_4, lw_okq q := List.forall_mem_cons.mpr ⟨lw_p48, List.forall_mem_cons.mpr ⟨lw_p49, List.forall_mem_cons.mpr ⟨lw_p50, fun _ h => absurd h List.not_mem_nil⟩⟩⟩
def lw_privs : List (MethodName × Nat) := lw_privs_1 ++ (lw_privs_2 ++ (lw_privs_3 ++ (lw_privs_4)))
def lw_tbl : List Cond := k2_sels lw_privs ++ tables_1
theorem lw_privs_ok : ∀ q ∈ lw_privs, lw_okq q := by
  show ∀ q ∈ lw_privs_1 ++ (lw_privs_2 ++ (lw_privs_3 ++ (lw_privs_4))), lw_okq q
  exact List.forall_mem_append.mpr ⟨lw_r1, List.forall_mem_append.mpr ⟨lw_r2, List.forall_mem_append.mpr ⟨lw_r3, lw_r4⟩⟩⟩
end
section
-- names: classes, fields, methods (by the program that the claim brings), words of the tables by their places
def RX0 : String := "SensorNode$Bytes"
def TX0 : u_T := fun k => match k with
  | _ => ("SensorNode$Bytes", "packed", "[I", true)
def tyX0 : Nat → FieldType := fun k => match k with
  | _ => .array .int
abbrev wsX00 : List Cond := u_ws RX0 TX0 1
theorem nmX0 : ∀ a, a < 1 → ∀ b, b < 1 → a ≠ b → (TX0 a).2.1 ≠ (TX0 b).2.1 := by decide +kernel
theorem tyX0_ok : ∀ k, k < 1 → parseFieldDescriptor (TX0 k).2.2.1 = some (tyX0 k) := by decide +kernel
abbrev cX0_init : ByteArray := prog_2_method_1_code
def yX0_init : MethodName := ⟨RX0, "<init>", "(I)V"⟩
abbrev cX0_get : ByteArray := prog_2_method_2_code
def yX0_get : MethodName := ⟨RX0, "get", "(I)I"⟩
abbrev cX0_put : ByteArray := prog_2_method_3_code
def yX0_put : MethodName := ⟨RX0, "put", "(II)V"⟩
def RX1 : String := "SensorNode$Guest"
def TX1 : u_T := fun k => match k with
  | 0 => ("SensorNode$Guest", "plan", "LSensorNode$Plan;", true)
  | 1 => ("SensorNode$Guest", "own", "[I", true)
  | 2 => ("SensorNode$Guest", "memory", "[I", true)
  | 3 => ("SensorNode$Guest", "store", "[I", true)
  | 4 => ("SensorNode$Guest", "storeStart", "I", false)
  | 5 => ("SensorNode$Guest", "kind", "I", false)
  | 6 => ("SensorNode$Guest", "target", "I", false)
  | 7 => ("SensorNode$Guest", "value", "I", false)
  | 8 => ("SensorNode$Guest", "next", "I", false)
  | _ => ("SensorNode$Guest", "address", "I", false)
def tyX1 : Nat → FieldType := fun k => match k with
  | 0 => .object "SensorNode$Plan"
  | 1 => .array .int
  | 2 => .array .int
  | 3 => .array .int
  | 4 => .int
  | 5 => .int
  | 6 => .int
  | 7 => .int
  | 8 => .int
  | _ => .int
abbrev wsX10 : List Cond := u_ws RX1 TX1 10
theorem nmX1 : ∀ a, a < 10 → ∀ b, b < 10 → a ≠ b → (TX1 a).2.1 ≠ (TX1 b).2.1 := by decide +kernel
theorem tyX1_ok : ∀ k, k < 10 → parseFieldDescriptor (TX1 k).2.2.1 = some (tyX1 k) := by decide +kernel
abbrev cX1_init : ByteArray := prog_3_method_1_code
def yX1_init : MethodName := ⟨RX1, "<init>", "(LSensorNode$Plan;[I)V"⟩
abbrev cX1_setStoreStart : ByteArray := prog_3_method_2_code
def yX1_setStoreStart : MethodName := ⟨RX1, "setStoreStart", "(I)V"⟩
abbrev cX1_owned : ByteArray := prog_3_method_3_code
def yX1_owned : MethodName := ⟨RX1, "owned", "(I)I"⟩
abbrev cX1_saved : ByteArray := prog_3_method_4_code
def yX1_saved : MethodName := ⟨RX1, "saved", "(I)I"⟩
abbrev cX1_restore : ByteArray := prog_3_method_5_code
def yX1_restore : MethodName := ⟨RX1, "restore", "(II)V"⟩
abbrev cX1_look : ByteArray := prog_3_method_6_code
def yX1_look : MethodName := ⟨RX1, "look", "()I"⟩
abbrev cX1_jumpOffset : ByteArray := prog_3_method_7_code
def yX1_jumpOffset : MethodName := ⟨RX1, "jumpOffset", "(I)I"⟩
abbrev cX1_branchOffset : ByteArray := prog_3_method_8_code
def yX1_branchOffset : MethodName := ⟨RX1, "branchOffset", "(I)I"⟩
abbrev cX1_below : ByteArray := prog_3_method_9_code
def yX1_below : MethodName := ⟨RX1, "below", "(II)Z"⟩
abbrev cX1_give : ByteArray := prog_3_method_10_code
def yX1_give : MethodName := ⟨RX1, "give", "(I)I"⟩
abbrev cX1_jump : ByteArray := prog_3_method_11_code
def yX1_jump : MethodName := ⟨RX1, "jump", "(II)I"⟩
abbrev cX1_branch : ByteArray := prog_3_method_12_code
def yX1_branch : MethodName := ⟨RX1, "branch", "(IIII)I"⟩
abbrev cX1_load : ByteArray := prog_3_method_13_code
def yX1_load : MethodName := ⟨RX1, "load", "(II)I"⟩
abbrev cX1_storeAt : ByteArray := prog_3_method_14_code
def yX1_storeAt : MethodName := ⟨RX1, "storeAt", "(III)I"⟩
abbrev cX1_trapOfPlace : ByteArray := prog_3_method_15_code
def yX1_trapOfPlace : MethodName := ⟨RX1, "trapOfPlace", "(II)I"⟩
abbrev cX1_withNumber : ByteArray := prog_3_method_16_code
def yX1_withNumber : MethodName := ⟨RX1, "withNumber", "(IIII)I"⟩
abbrev cX1_withRegister : ByteArray := prog_3_method_17_code
def yX1_withRegister : MethodName := ⟨RX1, "withRegister", "(IIII)I"⟩
abbrev cX1_reckon : ByteArray := prog_3_method_18_code
def yX1_reckon : MethodName := ⟨RX1, "reckon", "(III)I"⟩
abbrev cX1_call : ByteArray := prog_3_method_19_code
def yX1_call : MethodName := ⟨RX1, "call", "()I"⟩
abbrev cX1_callToSend : ByteArray := prog_3_method_20_code
def yX1_callToSend : MethodName := ⟨RX1, "callToSend", "()I"⟩
abbrev cX1_finish : ByteArray := prog_3_method_21_code
def yX1_finish : MethodName := ⟨RX1, "finish", "()V"⟩
abbrev cX1_kind : ByteArray := prog_3_method_22_code
def yX1_kind : MethodName := ⟨RX1, "kind", "()I"⟩
abbrev cX1_cellWritten : ByteArray := prog_3_method_23_code
def yX1_cellWritten : MethodName := ⟨RX1, "cellWritten", "()I"⟩
abbrev cX1_sendLength : ByteArray := prog_3_method_24_code
def yX1_sendLength : MethodName := ⟨RX1, "sendLength", "()I"⟩
abbrev cX1_sendPlace : ByteArray := prog_3_method_25_code
def yX1_sendPlace : MethodName := ⟨RX1, "sendPlace", "()I"⟩
abbrev cX1_inRam : ByteArray := prog_3_method_26_code
def yX1_inRam : MethodName := ⟨RX1, "inRam", "(I)Z"⟩
abbrev cX1_holds : ByteArray := prog_3_method_27_code
def yX1_holds : MethodName := ⟨RX1, "holds", "(II)Z"⟩
abbrev cX1_byteAt : ByteArray := prog_3_method_28_code
def yX1_byteAt : MethodName := ⟨RX1, "byteAt", "(I)I"⟩
abbrev cX1_wordAt : ByteArray := prog_3_method_29_code
def yX1_wordAt : MethodName := ⟨RX1, "wordAt", "(I)I"⟩
abbrev cX1_putWord : ByteArray := prog_3_method_30_code
def yX1_putWord : MethodName := ⟨RX1, "putWord", "(II)V"⟩
def RX2 : String := "SensorNode$Node"
def TX2 : u_T := fun k => match k with
  | 0 => ("SensorNode$Node", "plan", "LSensorNode$Plan;", true)
  | 1 => ("SensorNode$Node", "store", "[I", true)
  | 2 => ("SensorNode$Node", "marks", "[I", true)
  | 3 => ("SensorNode$Node", "counts", "[I", true)
  | 4 => ("SensorNode$Node", "radio", "LSensorNode$Radio;", true)
  | 5 => ("SensorNode$Node", "guest", "LSensorNode$Guest;", true)
  | 6 => ("SensorNode$Node", "mark", "I", false)
  | 7 => ("SensorNode$Node", "state", "I", false)
  | 8 => ("SensorNode$Node", "step", "I", false)
  | 9 => ("SensorNode$Node", "since", "I", false)
  | 10 => ("SensorNode$Node", "size", "I", false)
  | 11 => ("SensorNode$Node", "logStart", "I", false)
  | 12 => ("SensorNode$Node", "guestStart", "I", false)
  | 13 => ("SensorNode$Node", "strays", "I", false)
  | _ => ("SensorNode$Node", "hadPower", "Z", false)
def tyX2 : Nat → FieldType := fun k => match k with
  | 0 => .object "SensorNode$Plan"
  | 1 => .array .int
  | 2 => .array .int
  | 3 => .array .int
  | 4 => .object "SensorNode$Radio"
  | 5 => .object "SensorNode$Guest"
  | 6 => .int
  | 7 => .int
  | 8 => .int
  | 9 => .int
  | 10 => .int
  | 11 => .int
  | 12 => .int
  | 13 => .int
  | _ => .boolean
abbrev wsX20 : List Cond := u_ws RX2 TX2 15
theorem nmX2 : ∀ a, a < 15 → ∀ b, b < 15 → a ≠ b → (TX2 a).2.1 ≠ (TX2 b).2.1 := by decide +kernel
theorem tyX2_ok : ∀ k, k < 15 → parseFieldDescriptor (TX2 k).2.2.1 = some (tyX2 k) := by decide +kernel
abbrev cX2_init : ByteArray := prog_4_method_1_code
def yX2_init : MethodName := ⟨RX2, "<init>", "(LSensorNode$Plan;)V"⟩
abbrev cX2_makeNew : ByteArray := prog_4_method_2_code
def yX2_makeNew : MethodName := ⟨RX2, "makeNew", "()V"⟩
abbrev cX2_hadPower : ByteArray := prog_4_method_3_code
def yX2_hadPower : MethodName := ⟨RX2, "hadPower", "()Z"⟩
abbrev cX2_hasPower : ByteArray := prog_4_method_4_code
def yX2_hasPower : MethodName := ⟨RX2, "hasPower", "()Z"⟩
abbrev cX2_givePower : ByteArray := prog_4_method_5_code
def yX2_givePower : MethodName := ⟨RX2, "givePower", "()Z"⟩
abbrev cX2_meetLog : ByteArray := prog_4_method_6_code
def yX2_meetLog : MethodName := ⟨RX2, "meetLog", "()V"⟩
abbrev cX2_cutPower : ByteArray := prog_4_method_7_code
def yX2_cutPower : MethodName := ⟨RX2, "cutPower", "()Z"⟩
abbrev cX2_act : ByteArray := prog_4_method_8_code
def yX2_act : MethodName := ⟨RX2, "act", "(I)I"⟩
abbrev cX2_choose : ByteArray := prog_4_method_9_code
def yX2_choose : MethodName := ⟨RX2, "choose", "()V"⟩
abbrev cX2_needsCheckpoint : ByteArray := prog_4_method_10_code
def yX2_needsCheckpoint : MethodName := ⟨RX2, "needsCheckpoint", "()Z"⟩
abbrev cX2_needsEntry : ByteArray := prog_4_method_11_code
def yX2_needsEntry : MethodName := ⟨RX2, "needsEntry", "()Z"⟩
abbrev cX2_boot : ByteArray := prog_4_method_12_code
def yX2_boot : MethodName := ⟨RX2, "boot", "()V"⟩
abbrev cX2_checkpoint : ByteArray := prog_4_method_13_code
def yX2_checkpoint : MethodName := ⟨RX2, "checkpoint", "()V"⟩
abbrev cX2_instruct : ByteArray := prog_4_method_14_code
def yX2_instruct : MethodName := ⟨RX2, "instruct", "()V"⟩
abbrev cX2_log : ByteArray := prog_4_method_15_code
def yX2_log : MethodName := ⟨RX2, "log", "(I)V"⟩
abbrev cX2_finish : ByteArray := prog_4_method_16_code
def yX2_finish : MethodName := ⟨RX2, "finish", "()V"⟩
abbrev cX2_write : ByteArray := prog_4_method_17_code
def yX2_write : MethodName := ⟨RX2, "write", "(II)V"⟩
abbrev cX2_generation : ByteArray := prog_4_method_18_code
def yX2_generation : MethodName := ⟨RX2, "generation", "()I"⟩
abbrev cX2_entriesThatCount : ByteArray := prog_4_method_19_code
def yX2_entriesThatCount : MethodName := ⟨RX2, "entriesThatCount", "()I"⟩
abbrev cX2_bufferStart : ByteArray := prog_4_method_20_code
def yX2_bufferStart : MethodName := ⟨RX2, "bufferStart", "(I)I"⟩
abbrev cX2_condition : ByteArray := prog_4_method_21_code
def yX2_condition : MethodName := ⟨RX2, "condition", "()I"⟩
abbrev cX2_owned : ByteArray := prog_4_method_22_code
def yX2_owned : MethodName := ⟨RX2, "owned", "(I)I"⟩
abbrev cX2_ramByte : ByteArray := prog_4_method_23_code
def yX2_ramByte : MethodName := ⟨RX2, "ramByte", "(I)I"⟩
abbrev cX2_size : ByteArray := prog_4_method_24_code
def yX2_size : MethodName := ⟨RX2, "size", "()I"⟩
abbrev cX2_stored : ByteArray := prog_4_method_25_code
def yX2_stored : MethodName := ⟨RX2, "stored", "(I)I"⟩
abbrev cX2_radio : ByteArray := prog_4_method_26_code
def yX2_radio : MethodName := ⟨RX2, "radio", "()LSensorNode$Radio;"⟩
abbrev cX2_counted : ByteArray := prog_4_method_27_code
def yX2_counted : MethodName := ⟨RX2, "counted", "(I)I"⟩
abbrev cX2_strayed : ByteArray := prog_4_method_28_code
def yX2_strayed : MethodName := ⟨RX2, "strayed", "()I"⟩
def RX3 : String := "SensorNode$PlainMachine"
def TX3 : u_T := fun k => match k with
  | 0 => ("SensorNode$PlainMachine", "plan", "LSensorNode$Plan;", true)
  | 1 => ("SensorNode$PlainMachine", "store", "[I", true)
  | 2 => ("SensorNode$PlainMachine", "guest", "LSensorNode$Guest;", true)
  | 3 => ("SensorNode$PlainMachine", "radio", "LSensorNode$Radio;", true)
  | 4 => ("SensorNode$PlainMachine", "ran", "Z", false)
  | _ => ("SensorNode$PlainMachine", "ending", "I", false)
def tyX3 : Nat → FieldType := fun k => match k with
  | 0 => .object "SensorNode$Plan"
  | 1 => .array .int
  | 2 => .object "SensorNode$Guest"
  | 3 => .object "SensorNode$Radio"
  | 4 => .boolean
  | _ => .int
abbrev wsX30 : List Cond := u_ws RX3 TX3 6
theorem nmX3 : ∀ a, a < 6 → ∀ b, b < 6 → a ≠ b → (TX3 a).2.1 ≠ (TX3 b).2.1 := by decide +kernel
theorem tyX3_ok : ∀ k, k < 6 → parseFieldDescriptor (TX3 k).2.2.1 = some (tyX3 k) := by decide +kernel
abbrev cX3_init : ByteArray := prog_5_method_1_code
def yX3_init : MethodName := ⟨RX3, "<init>", "(LSensorNode$Plan;)V"⟩
abbrev cX3_forget : ByteArray := prog_5_method_2_code
def yX3_forget : MethodName := ⟨RX3, "forget", "()V"⟩
abbrev cX3_run : ByteArray := prog_5_method_3_code
def yX3_run : MethodName := ⟨RX3, "run", "(I)I"⟩
abbrev cX3_begin : ByteArray := prog_5_method_4_code
def yX3_begin : MethodName := ⟨RX3, "begin", "()V"⟩
abbrev cX3_owned : ByteArray := prog_5_method_5_code
def yX3_owned : MethodName := ⟨RX3, "owned", "(I)I"⟩
abbrev cX3_memoryByte : ByteArray := prog_5_method_6_code
def yX3_memoryByte : MethodName := ⟨RX3, "memoryByte", "(I)I"⟩
abbrev cX3_radio : ByteArray := prog_5_method_7_code
def yX3_radio : MethodName := ⟨RX3, "radio", "()LSensorNode$Radio;"⟩
def RX4 : String := "SensorNode$Plan"
def TX4 : u_T := fun k => match k with
  | 0 => ("SensorNode$Plan", "image", "[I", true)
  | 1 => ("SensorNode$Plan", "samples", "[I", true)
  | 2 => ("SensorNode$Plan", "samplesTold", "I", false)
  | 3 => ("SensorNode$Plan", "installed", "Z", false)
  | 4 => ("SensorNode$Plan", "ramBytes", "I", false)
  | 5 => ("SensorNode$Plan", "storeBytes", "I", false)
  | 6 => ("SensorNode$Plan", "entries", "I", false)
  | 7 => ("SensorNode$Plan", "interval", "I", false)
  | _ => ("SensorNode$Plan", "start", "I", false)
def tyX4 : Nat → FieldType := fun k => match k with
  | 0 => .array .int
  | 1 => .array .int
  | 2 => .int
  | 3 => .boolean
  | 4 => .int
  | 5 => .int
  | 6 => .int
  | 7 => .int
  | _ => .int
abbrev wsX40 : List Cond := u_ws RX4 TX4 9
theorem nmX4 : ∀ a, a < 9 → ∀ b, b < 9 → a ≠ b → (TX4 a).2.1 ≠ (TX4 b).2.1 := by decide +kernel
theorem tyX4_ok : ∀ k, k < 9 → parseFieldDescriptor (TX4 k).2.2.1 = some (tyX4 k) := by decide +kernel
abbrev cX4_init : ByteArray := prog_6_method_1_code
def yX4_init : MethodName := ⟨RX4, "<init>", "()V"⟩
abbrev cX4_allows : ByteArray := prog_6_method_2_code
def yX4_allows : MethodName := ⟨RX4, "allows", "(IIII)Z"⟩
abbrev cX4_set : ByteArray := prog_6_method_3_code
def yX4_set : MethodName := ⟨RX4, "set", "(IIIII)V"⟩
abbrev cX4_fill : ByteArray := prog_6_method_4_code
def yX4_fill : MethodName := ⟨RX4, "fill", "(LSensorNode$Tray;I)V"⟩
abbrev cX4_copyImage : ByteArray := prog_6_method_5_code
def yX4_copyImage : MethodName := ⟨RX4, "copyImage", "([II)V"⟩
abbrev cX4_addSample : ByteArray := prog_6_method_6_code
def yX4_addSample : MethodName := ⟨RX4, "addSample", "(I)I"⟩
abbrev cX4_sampleAt : ByteArray := prog_6_method_7_code
def yX4_sampleAt : MethodName := ⟨RX4, "sampleAt", "(I)I"⟩
abbrev cX4_bufferWords : ByteArray := prog_6_method_8_code
def yX4_bufferWords : MethodName := ⟨RX4, "bufferWords", "()I"⟩
def RX5 : String := "SensorNode$Radio"
def TX5 : u_T := fun k => match k with
  | 0 => ("SensorNode$Radio", "numbers", "[I", true)
  | 1 => ("SensorNode$Radio", "lengths", "[I", true)
  | 2 => ("SensorNode$Radio", "cuts", "[I", true)
  | 3 => ("SensorNode$Radio", "bytes", "LSensorNode$Bytes;", true)
  | 4 => ("SensorNode$Radio", "total", "I", false)
  | _ => ("SensorNode$Radio", "newest", "I", false)
def tyX5 : Nat → FieldType := fun k => match k with
  | 0 => .array .int
  | 1 => .array .int
  | 2 => .array .int
  | 3 => .object "SensorNode$Bytes"
  | 4 => .int
  | _ => .int
abbrev wsX50 : List Cond := u_ws RX5 TX5 6
theorem nmX5 : ∀ a, a < 6 → ∀ b, b < 6 → a ≠ b → (TX5 a).2.1 ≠ (TX5 b).2.1 := by decide +kernel
theorem tyX5_ok : ∀ k, k < 6 → parseFieldDescriptor (TX5 k).2.2.1 = some (tyX5 k) := by decide +kernel
abbrev cX5_init : ByteArray := prog_7_method_1_code
def yX5_init : MethodName := ⟨RX5, "<init>", "()V"⟩
abbrev cX5_clear : ByteArray := prog_7_method_2_code
def yX5_clear : MethodName := ⟨RX5, "clear", "()V"⟩
abbrev cX5_send : ByteArray := prog_7_method_3_code
def yX5_send : MethodName := ⟨RX5, "send", "(LSensorNode$Guest;II)V"⟩
abbrev cX5_keeps : ByteArray := prog_7_method_4_code
def yX5_keeps : MethodName := ⟨RX5, "keeps", "(I)Z"⟩
abbrev cX5_total : ByteArray := prog_7_method_5_code
def yX5_total : MethodName := ⟨RX5, "total", "()I"⟩
abbrev cX5_newest : ByteArray := prog_7_method_6_code
def yX5_newest : MethodName := ⟨RX5, "newest", "()I"⟩
abbrev cX5_number : ByteArray := prog_7_method_7_code
def yX5_number : MethodName := ⟨RX5, "number", "(I)I"⟩
abbrev cX5_length : ByteArray := prog_7_method_8_code
def yX5_length : MethodName := ⟨RX5, "length", "(I)I"⟩
abbrev cX5_cutsBefore : ByteArray := prog_7_method_9_code
def yX5_cutsBefore : MethodName := ⟨RX5, "cutsBefore", "(I)I"⟩
abbrev cX5_byteOf : ByteArray := prog_7_method_10_code
def yX5_byteOf : MethodName := ⟨RX5, "byteOf", "(II)I"⟩
def RX6 : String := "SensorNode$Tray"
def TX6 : u_T := fun k => match k with
  | 0 => ("SensorNode$Tray", "bytes", "LSensorNode$Bytes;", true)
  | 1 => ("SensorNode$Tray", "size", "I", false)
  | _ => ("SensorNode$Tray", "fed", "I", false)
def tyX6 : Nat → FieldType := fun k => match k with
  | 0 => .object "SensorNode$Bytes"
  | 1 => .int
  | _ => .int
abbrev wsX60 : List Cond := u_ws RX6 TX6 3
theorem nmX6 : ∀ a, a < 3 → ∀ b, b < 3 → a ≠ b → (TX6 a).2.1 ≠ (TX6 b).2.1 := by decide +kernel
theorem tyX6_ok : ∀ k, k < 3 → parseFieldDescriptor (TX6 k).2.2.1 = some (tyX6 k) := by decide +kernel
abbrev cX6_init : ByteArray := prog_8_method_1_code
def yX6_init : MethodName := ⟨RX6, "<init>", "()V"⟩
abbrev cX6_hasRoom : ByteArray := prog_8_method_2_code
def yX6_hasRoom : MethodName := ⟨RX6, "hasRoom", "()Z"⟩
abbrev cX6_size : ByteArray := prog_8_method_3_code
def yX6_size : MethodName := ⟨RX6, "size", "()I"⟩
abbrev cX6_add : ByteArray := prog_8_method_4_code
def yX6_add : MethodName := ⟨RX6, "add", "(I)V"⟩
abbrev cX6_shorten : ByteArray := prog_8_method_5_code
def yX6_shorten : MethodName := ⟨RX6, "shorten", "(I)Z"⟩
abbrev cX6_get : ByteArray := prog_8_method_6_code
def yX6_get : MethodName := ⟨RX6, "get", "(I)I"⟩
def RX7 : String := "SensorNode"
def TX7 : u_T := fun k => match k with
  | 0 => ("SensorNode", "tray", "LSensorNode$Tray;", true)
  | 1 => ("SensorNode", "plan", "LSensorNode$Plan;", true)
  | 2 => ("SensorNode", "node", "LSensorNode$Node;", true)
  | _ => ("SensorNode", "plainMachine", "LSensorNode$PlainMachine;", true)
def tyX7 : Nat → FieldType := fun k => match k with
  | 0 => .object "SensorNode$Tray"
  | 1 => .object "SensorNode$Plan"
  | 2 => .object "SensorNode$Node"
  | _ => .object "SensorNode$PlainMachine"
abbrev wsX70 : List Cond := u_ws RX7 TX7 4
theorem nmX7 : ∀ a, a < 4 → ∀ b, b < 4 → a ≠ b → (TX7 a).2.1 ≠ (TX7 b).2.1 := by decide +kernel
theorem tyX7_ok : ∀ k, k < 4 → parseFieldDescriptor (TX7 k).2.2.1 = some (tyX7 k) := by decide +kernel
abbrev cX7_init : ByteArray := prog_1_method_1_code
def yX7_init : MethodName := ⟨RX7, "<init>", "()V"⟩
abbrev cX7_feed : ByteArray := prog_1_method_2_code
def yX7_feed : MethodName := ⟨RX7, "feed", "(IIIII)I"⟩
abbrev cX7_end : ByteArray := prog_1_method_3_code
def yX7_end : MethodName := ⟨RX7, "end", "(I)Z"⟩
abbrev cX7_install : ByteArray := prog_1_method_4_code
def yX7_install : MethodName := ⟨RX7, "install", "(IIIII)I"⟩
abbrev cX7_sample : ByteArray := prog_1_method_5_code
def yX7_sample : MethodName := ⟨RX7, "sample", "(I)I"⟩
abbrev cX7_on : ByteArray := prog_1_method_6_code
def yX7_on : MethodName := ⟨RX7, "on", "()Z"⟩
abbrev cX7_cut : ByteArray := prog_1_method_7_code
def yX7_cut : MethodName := ⟨RX7, "cut", "()Z"⟩
abbrev cX7_go : ByteArray := prog_1_method_8_code
def yX7_go : MethodName := ⟨RX7, "go", "(I)I"⟩
abbrev cX7_state : ByteArray := prog_1_method_9_code
def yX7_state : MethodName := ⟨RX7, "state", "()I"⟩
abbrev cX7_register : ByteArray := prog_1_method_10_code
def yX7_register : MethodName := ⟨RX7, "register", "(I)I"⟩
abbrev cX7_ram : ByteArray := prog_1_method_11_code
def yX7_ram : MethodName := ⟨RX7, "ram", "(I)I"⟩
abbrev cX7_words : ByteArray := prog_1_method_12_code
def yX7_words : MethodName := ⟨RX7, "words", "()I"⟩
abbrev cX7_word : ByteArray := prog_1_method_13_code
def yX7_word : MethodName := ⟨RX7, "word", "(I)I"⟩
abbrev cX7_frames : ByteArray := prog_1_method_14_code
def yX7_frames : MethodName := ⟨RX7, "frames", "()I"⟩
abbrev cX7_frame : ByteArray := prog_1_method_15_code
def yX7_frame : MethodName := ⟨RX7, "frame", "(II)I"⟩
abbrev cX7_heard : ByteArray := prog_1_method_16_code
def yX7_heard : MethodName := ⟨RX7, "heard", "(II)I"⟩
abbrev cX7_count : ByteArray := prog_1_method_17_code
def yX7_count : MethodName := ⟨RX7, "count", "(I)I"⟩
abbrev cX7_plain : ByteArray := prog_1_method_18_code
def yX7_plain : MethodName := ⟨RX7, "plain", "(I)I"⟩
abbrev cX7_plainly : ByteArray := prog_1_method_19_code
def yX7_plainly : MethodName := ⟨RX7, "plainly", "(I)I"⟩
abbrev cX7_plainByte : ByteArray := prog_1_method_20_code
def yX7_plainByte : MethodName := ⟨RX7, "plainByte", "(I)I"⟩
abbrev cX7_plainFrame : ByteArray := prog_1_method_21_code
def yX7_plainFrame : MethodName := ⟨RX7, "plainFrame", "(I)I"⟩
abbrev cX7_plainHeard : ByteArray := prog_1_method_22_code
def yX7_plainHeard : MethodName := ⟨RX7, "plainHeard", "(II)I"⟩
abbrev cX7_strays : ByteArray := prog_1_method_23_code
def yX7_strays : MethodName := ⟨RX7, "strays", "()I"⟩
def RX8 : String := "SensorNodeModel$Air"
def TX8 : u_T := fun k => match k with
  | 0 => ("SensorNodeModel$Air", "count", "I", false)
  | 1 => ("SensorNodeModel$Air", "number", "[I", true)
  | 2 => ("SensorNodeModel$Air", "length", "[I", true)
  | 3 => ("SensorNodeModel$Air", "before", "[I", true)
  | _ => ("SensorNodeModel$Air", "bytes", "[B", true)
def tyX8 : Nat → FieldType := fun k => match k with
  | 0 => .int
  | 1 => .array .int
  | 2 => .array .int
  | 3 => .array .int
  | _ => .array .byte
abbrev wsX80 : List Cond := u_ws RX8 TX8 5
theorem nmX8 : ∀ a, a < 5 → ∀ b, b < 5 → a ≠ b → (TX8 a).2.1 ≠ (TX8 b).2.1 := by decide +kernel
theorem tyX8_ok : ∀ k, k < 5 → parseFieldDescriptor (TX8 k).2.2.1 = some (tyX8 k) := by decide +kernel
abbrev cX8_init : ByteArray := prog_11_method_1_code
def yX8_init : MethodName := ⟨RX8, "<init>", "()V"⟩
abbrev cX8_has : ByteArray := prog_11_method_2_code
def yX8_has : MethodName := ⟨RX8, "has", "(I)Z"⟩
abbrev cX8_at : ByteArray := prog_11_method_3_code
def yX8_at : MethodName := ⟨RX8, "at", "(II)I"⟩
def RX9 : String := "SensorNodeModel$Guest"
def TX9 : u_T := fun k => match k with
  | 0 => ("SensorNodeModel$Guest", "x", "[I", true)
  | 1 => ("SensorNodeModel$Guest", "pc", "I", false)
  | 2 => ("SensorNodeModel$Guest", "index", "I", false)
  | 3 => ("SensorNodeModel$Guest", "sent", "I", false)
  | 4 => ("SensorNodeModel$Guest", "count", "I", false)
  | 5 => ("SensorNodeModel$Guest", "ram", "[I", true)
  | 6 => ("SensorNodeModel$Guest", "\x72", "I", false)
  | 7 => ("SensorNodeModel$Guest", "g", "I", false)
  | 8 => ("SensorNodeModel$Guest", "own", "[I", false)
  | 9 => ("SensorNodeModel$Guest", "from", "I", false)
  | 10 => ("SensorNodeModel$Guest", "samples", "[I", true)
  | 11 => ("SensorNodeModel$Guest", "sampleCount", "I", false)
  | 12 => ("SensorNodeModel$Guest", "ends", "I", false)
  | 13 => ("SensorNodeModel$Guest", "effect", "I", false)
  | 14 => ("SensorNodeModel$Guest", "target", "I", false)
  | 15 => ("SensorNodeModel$Guest", "value", "I", false)
  | 16 => ("SensorNodeModel$Guest", "place", "I", false)
  | 17 => ("SensorNodeModel$Guest", "wide", "I", false)
  | 18 => ("SensorNodeModel$Guest", "writesRegister", "Z", false)
  | _ => ("SensorNodeModel$Guest", "writesRam", "Z", false)
def tyX9 : Nat → FieldType := fun k => match k with
  | 0 => .array .int
  | 1 => .int
  | 2 => .int
  | 3 => .int
  | 4 => .int
  | 5 => .array .int
  | 6 => .int
  | 7 => .int
  | 8 => .array .int
  | 9 => .int
  | 10 => .array .int
  | 11 => .int
  | 12 => .int
  | 13 => .int
  | 14 => .int
  | 15 => .int
  | 16 => .int
  | 17 => .int
  | 18 => .boolean
  | _ => .boolean
abbrev wsX90 : List Cond := u_ws RX9 TX9 20
theorem nmX9 : ∀ a, a < 20 → ∀ b, b < 20 → a ≠ b → (TX9 a).2.1 ≠ (TX9 b).2.1 := by decide +kernel
theorem tyX9_ok : ∀ k, k < 20 → parseFieldDescriptor (TX9 k).2.2.1 = some (tyX9 k) := by decide +kernel
abbrev cX9_init : ByteArray := prog_12_method_1_code
def yX9_init : MethodName := ⟨RX9, "<init>", "([I)V"⟩
abbrev cX9_begin : ByteArray := prog_12_method_2_code
def yX9_begin : MethodName := ⟨RX9, "begin", "(III)V"⟩
abbrev cX9_isIn : ByteArray := prog_12_method_3_code
def yX9_isIn : MethodName := ⟨RX9, "isIn", "(IJ)Z"⟩
abbrev cX9_isRam : ByteArray := prog_12_method_4_code
def yX9_isRam : MethodName := ⟨RX9, "isRam", "(I)Z"⟩
abbrev cX9_wordAt : ByteArray := prog_12_method_5_code
def yX9_wordAt : MethodName := ⟨RX9, "wordAt", "(I)I"⟩
abbrev cX9_byteAt : ByteArray := prog_12_method_6_code
def yX9_byteAt : MethodName := ⟨RX9, "byteAt", "(I)I"⟩
abbrev cX9_bits : ByteArray := prog_12_method_7_code
def yX9_bits : MethodName := ⟨RX9, "bits", "(III)I"⟩
abbrev cX9_look : ByteArray := prog_12_method_8_code
def yX9_look : MethodName := ⟨RX9, "look", "()V"⟩
abbrev cX9_decode : ByteArray := prog_12_method_9_code
def yX9_decode : MethodName := ⟨RX9, "decode", "(I)V"⟩
abbrev cX9_gives : ByteArray := prog_12_method_10_code
def yX9_gives : MethodName := ⟨RX9, "gives", "(I)V"⟩
abbrev cX9_goes : ByteArray := prog_12_method_11_code
def yX9_goes : MethodName := ⟨RX9, "goes", "(I)V"⟩
abbrev cX9_isBelow : ByteArray := prog_12_method_12_code
def yX9_isBelow : MethodName := ⟨RX9, "isBelow", "(II)Z"⟩
abbrev cX9_shifted : ByteArray := prog_12_method_13_code
def yX9_shifted : MethodName := ⟨RX9, "shifted", "(IIII)I"⟩
abbrev cX9_worked : ByteArray := prog_12_method_14_code
def yX9_worked : MethodName := ⟨RX9, "worked", "(III)I"⟩
abbrev cX9_branch : ByteArray := prog_12_method_15_code
def yX9_branch : MethodName := ⟨RX9, "branch", "(IIII)V"⟩
abbrev cX9_reaches : ByteArray := prog_12_method_16_code
def yX9_reaches : MethodName := ⟨RX9, "reaches", "(II)Z"⟩
abbrev cX9_loads : ByteArray := prog_12_method_17_code
def yX9_loads : MethodName := ⟨RX9, "loads", "(II)V"⟩
abbrev cX9_stores : ByteArray := prog_12_method_18_code
def yX9_stores : MethodName := ⟨RX9, "stores", "(III)V"⟩
abbrev cX9_calls : ByteArray := prog_12_method_19_code
def yX9_calls : MethodName := ⟨RX9, "calls", "()V"⟩
abbrev cX9_perform : ByteArray := prog_12_method_20_code
def yX9_perform : MethodName := ⟨RX9, "perform", "()V"⟩
abbrev cX9_sendTo : ByteArray := prog_12_method_21_code
def yX9_sendTo : MethodName := ⟨RX9, "sendTo", "(LSensorNodeModel$Air;I)V"⟩
def RX10 : String := "SensorNodeModel"
def TX10 : u_T := fun k => match k with
  | 0 => ("SensorNodeModel", "isInstalled", "Z", false)
  | 1 => ("SensorNodeModel", "wasOn", "Z", false)
  | 2 => ("SensorNodeModel", "power", "Z", false)
  | 3 => ("SensorNodeModel", "\x72", "I", false)
  | 4 => ("SensorNodeModel", "g", "I", false)
  | 5 => ("SensorNodeModel", "l", "I", false)
  | 6 => ("SensorNodeModel", "k", "I", false)
  | 7 => ("SensorNodeModel", "pcAtFirst", "I", false)
  | 8 => ("SensorNodeModel", "size", "I", false)
  | 9 => ("SensorNodeModel", "entriesAt", "I", false)
  | 10 => ("SensorNodeModel", "guestAt", "I", false)
  | 11 => ("SensorNodeModel", "store", "[I", true)
  | 12 => ("SensorNodeModel", "image", "[I", true)
  | 13 => ("SensorNodeModel", "samples", "[I", true)
  | 14 => ("SensorNodeModel", "node", "LSensorNodeModel$Guest;", true)
  | 15 => ("SensorNodeModel", "plain", "LSensorNodeModel$Guest;", true)
  | 16 => ("SensorNodeModel", "plainWords", "[I", true)
  | 17 => ("SensorNodeModel", "wasPlain", "Z", false)
  | 18 => ("SensorNodeModel", "heard", "LSensorNodeModel$Air;", false)
  | 19 => ("SensorNodeModel", "plainHeard", "LSensorNodeModel$Air;", true)
  | 20 => ("SensorNodeModel", "since", "I", false)
  | 21 => ("SensorNodeModel", "ended", "I", false)
  | 22 => ("SensorNodeModel", "doing", "I", false)
  | 23 => ("SensorNodeModel", "step", "I", false)
  | 24 => ("SensorNodeModel", "hasEntry", "[Z", true)
  | 25 => ("SensorNodeModel", "acts", "I", false)
  | 26 => ("SensorNodeModel", "written", "I", false)
  | 27 => ("SensorNodeModel", "undone", "I", false)
  | 28 => ("SensorNodeModel", "done", "I", false)
  | 29 => ("SensorNodeModel", "checkpoints", "I", false)
  | 30 => ("SensorNodeModel", "cuts", "I", false)
  | 31 => ("SensorNodeModel", "rolled", "I", false)
  | 32 => ("SensorNodeModel", "strays", "I", false)
  | 33 => ("SensorNodeModel", "tray", "[B", true)
  | 34 => ("SensorNodeModel", "trayed", "I", false)
  | _ => ("SensorNodeModel", "fed", "I", false)
def tyX10 : Nat → FieldType := fun k => match k with
  | 0 => .boolean
  | 1 => .boolean
  | 2 => .boolean
  | 3 => .int
  | 4 => .int
  | 5 => .int
  | 6 => .int
  | 7 => .int
  | 8 => .int
  | 9 => .int
  | 10 => .int
  | 11 => .array .int
  | 12 => .array .int
  | 13 => .array .int
  | 14 => .object "SensorNodeModel$Guest"
  | 15 => .object "SensorNodeModel$Guest"
  | 16 => .array .int
  | 17 => .boolean
  | 18 => .object "SensorNodeModel$Air"
  | 19 => .object "SensorNodeModel$Air"
  | 20 => .int
  | 21 => .int
  | 22 => .int
  | 23 => .int
  | 24 => .array .boolean
  | 25 => .int
  | 26 => .int
  | 27 => .int
  | 28 => .int
  | 29 => .int
  | 30 => .int
  | 31 => .int
  | 32 => .int
  | 33 => .array .byte
  | 34 => .int
  | _ => .int
abbrev wsX100 : List Cond := u_ws RX10 TX10 36
theorem nmX10 : ∀ a, a < 36 → ∀ b, b < 36 → a ≠ b → (TX10 a).2.1 ≠ (TX10 b).2.1 := by decide +kernel
theorem tyX10_ok : ∀ k, k < 36 → parseFieldDescriptor (TX10 k).2.2.1 = some (tyX10 k) := by decide +kernel
abbrev cX10_init : ByteArray := prog_10_method_1_code
def yX10_init : MethodName := ⟨RX10, "<init>", "()V"⟩
abbrev cX10_four : ByteArray := prog_10_method_3_code
def yX10_four : MethodName := ⟨RX10, "four", "(I)V"⟩
abbrev cX10_feed : ByteArray := prog_10_method_4_code
def yX10_feed : MethodName := ⟨RX10, "feed", "(IIIII)I"⟩
abbrev cX10_end : ByteArray := prog_10_method_5_code
def yX10_end : MethodName := ⟨RX10, "end", "(I)Z"⟩
abbrev cX10_install : ByteArray := prog_10_method_6_code
def yX10_install : MethodName := ⟨RX10, "install", "(IIIII)I"⟩
abbrev cX10_sample : ByteArray := prog_10_method_7_code
def yX10_sample : MethodName := ⟨RX10, "sample", "(I)I"⟩
abbrev cX10_generation : ByteArray := prog_10_method_8_code
def yX10_generation : MethodName := ⟨RX10, "generation", "()I"⟩
abbrev cX10_bufferAt : ByteArray := prog_10_method_9_code
def yX10_bufferAt : MethodName := ⟨RX10, "bufferAt", "(I)I"⟩
abbrev cX10_counting : ByteArray := prog_10_method_10_code
def yX10_counting : MethodName := ⟨RX10, "counting", "()I"⟩
abbrev cX10_on : ByteArray := prog_10_method_11_code
def yX10_on : MethodName := ⟨RX10, "on", "()Z"⟩
abbrev cX10_forgetEntries : ByteArray := prog_10_method_12_code
def yX10_forgetEntries : MethodName := ⟨RX10, "forgetEntries", "()V"⟩
abbrev cX10_cut : ByteArray := prog_10_method_13_code
def yX10_cut : MethodName := ⟨RX10, "cut", "()Z"⟩
abbrev cX10_go : ByteArray := prog_10_method_14_code
def yX10_go : MethodName := ⟨RX10, "go", "(I)I"⟩
abbrev cX10_write : ByteArray := prog_10_method_15_code
def yX10_write : MethodName := ⟨RX10, "write", "(II)V"⟩
abbrev cX10_act : ByteArray := prog_10_method_16_code
def yX10_act : MethodName := ⟨RX10, "act", "()V"⟩
abbrev cX10_boot : ByteArray := prog_10_method_17_code
def yX10_boot : MethodName := ⟨RX10, "boot", "()V"⟩
abbrev cX10_decide : ByteArray := prog_10_method_18_code
def yX10_decide : MethodName := ⟨RX10, "decide", "()V"⟩
abbrev cX10_perform : ByteArray := prog_10_method_19_code
def yX10_perform : MethodName := ⟨RX10, "perform", "()V"⟩
abbrev cX10_checkWord : ByteArray := prog_10_method_20_code
def yX10_checkWord : MethodName := ⟨RX10, "checkWord", "(I)I"⟩
abbrev cX10_check : ByteArray := prog_10_method_21_code
def yX10_check : MethodName := ⟨RX10, "check", "()V"⟩
abbrev cX10_log : ByteArray := prog_10_method_22_code
def yX10_log : MethodName := ⟨RX10, "log", "()V"⟩
abbrev cX10_send : ByteArray := prog_10_method_23_code
def yX10_send : MethodName := ⟨RX10, "send", "()V"⟩
abbrev cX10_state : ByteArray := prog_10_method_24_code
def yX10_state : MethodName := ⟨RX10, "state", "()I"⟩
abbrev cX10_told : ByteArray := prog_10_method_25_code
def yX10_told : MethodName := ⟨RX10, "told", "(LSensorNodeModel$Guest;I)I"⟩
abbrev cX10_register : ByteArray := prog_10_method_26_code
def yX10_register : MethodName := ⟨RX10, "register", "(I)I"⟩
abbrev cX10_ram : ByteArray := prog_10_method_27_code
def yX10_ram : MethodName := ⟨RX10, "ram", "(I)I"⟩
abbrev cX10_words : ByteArray := prog_10_method_28_code
def yX10_words : MethodName := ⟨RX10, "words", "()I"⟩
abbrev cX10_word : ByteArray := prog_10_method_29_code
def yX10_word : MethodName := ⟨RX10, "word", "(I)I"⟩
abbrev cX10_frames : ByteArray := prog_10_method_30_code
def yX10_frames : MethodName := ⟨RX10, "frames", "()I"⟩
abbrev cX10_frame : ByteArray := prog_10_method_31_code
def yX10_frame : MethodName := ⟨RX10, "frame", "(II)I"⟩
abbrev cX10_heard : ByteArray := prog_10_method_32_code
def yX10_heard : MethodName := ⟨RX10, "heard", "(II)I"⟩
abbrev cX10_count : ByteArray := prog_10_method_33_code
def yX10_count : MethodName := ⟨RX10, "count", "(I)I"⟩
abbrev cX10_plain : ByteArray := prog_10_method_34_code
def yX10_plain : MethodName := ⟨RX10, "plain", "(I)I"⟩
abbrev cX10_plainly : ByteArray := prog_10_method_35_code
def yX10_plainly : MethodName := ⟨RX10, "plainly", "(I)I"⟩
abbrev cX10_plainByte : ByteArray := prog_10_method_36_code
def yX10_plainByte : MethodName := ⟨RX10, "plainByte", "(I)I"⟩
abbrev cX10_plainFrame : ByteArray := prog_10_method_37_code
def yX10_plainFrame : MethodName := ⟨RX10, "plainFrame", "(I)I"⟩
abbrev cX10_plainHeard : ByteArray := prog_10_method_38_code
def yX10_plainHeard : MethodName := ⟨RX10, "plainHeard", "(II)I"⟩
abbrev cX10_strays : ByteArray := prog_10_method_39_code
def yX10_strays : MethodName := ⟨RX10, "strays", "()I"⟩
def RL : String := "SensorNodeLaw"
abbrev cL_law : ByteArray := code
def yL_law : MethodName := ⟨RL, "law", "([I)Z"⟩
abbrev cls : List vw_C := [(RX0, TX0, 1), (RX1, TX1, 10), (RX2, TX2, 15), (RX3, TX3, 6), (RX4, TX4, 9), (RX5, TX5, 6), (RX6, TX6, 3), (RX7, TX7, 4), (RX8, TX8, 5), (RX9, TX9, 20), (RX10, TX10, 36)]
def tw : List Cond := lw_tbl.filter goodWord
theorem tb1 {w : Cond} (i : Nat) (hi : tables_1_1[i]? = some w) (hg : goodWord w = true := by rfl) : w ∈ tw := by
  have h := List.mem_of_getElem? hi
  exact List.mem_filter.mpr ⟨List.mem_append_right _ (List.mem_append_left _ h), hg⟩
theorem tb2 {w : Cond} (i : Nat) (hi : tables_1_2[i]? = some w) (hg : goodWord w = true := by rfl) : w ∈ tw := by
  have h := List.mem_of_getElem? hi
  exact List.mem_filter.mpr ⟨List.mem_append_right _ (List.mem_append_right _ (List.mem_append_left _ h)), hg⟩
theorem tb3 {w : Cond} (i : Nat) (hi : tables_1_3[i]? = some w) (hg : goodWord w = true := by rfl) : w ∈ tw := by
  have h := List.mem_of_getElem? hi
  exact List.mem_filter.mpr ⟨List.mem_append_right _ (List.mem_append_right _ (List.mem_append_right _ (List.mem_append_left _ h))), hg⟩
theorem tb4 {w : Cond} (i : Nat) (hi : tables_1_4[i]? = some w) (hg : goodWord w = true := by rfl) : w ∈ tw := by
  have h := List.mem_of_getElem? hi
  exact List.mem_filter.mpr ⟨List.mem_append_right _ (List.mem_append_right _ (List.mem_append_right _ (List.mem_append_right _ (List.mem_append_left _ h)))), hg⟩
theorem tb5 {w : Cond} (i : Nat) (hi : tables_1_5[i]? = some w) (hg : goodWord w = true := by rfl) : w ∈ tw := by
  have h := List.mem_of_getElem? hi
  exact List.mem_filter.mpr ⟨List.mem_append_right _ (List.mem_append_right _ (List.mem_append_right _ (List.mem_append_right _ (List.mem_append_right _ h)))), hg⟩
theorem tb0 {w : Cond} (i : Nat) (hi : (k2_sels lw_privs)[i]? = some w) (hg : goodWord w = true := by rfl) : w ∈ tw := List.mem_filter.mpr ⟨List.mem_append_left _ (List.mem_of_getElem? hi), hg⟩
end
section
theorem w1_1 : (Cond.initialized RX7) ∈ tw := tb1 1 rfl
theorem w1_2 : (Cond.initialized RX4) ∈ tw := tb1 2 rfl
theorem w1_3 : (Cond.initialized RX6) ∈ tw := tb1 3 rfl
theorem w1_4 : (Cond.initialized RX0) ∈ tw := tb1 4 rfl
theorem w1_5 : (Cond.initialized RX2) ∈ tw := tb1 5 rfl
theorem w1_6 : (Cond.initialized RX5) ∈ tw := tb1 6 rfl
theorem w1_7 : (Cond.initialized RX1) ∈ tw := tb1 7 rfl
theorem w1_8 : (Cond.initialized RX3) ∈ tw := tb1 8 rfl
theorem w1_9 : (Cond.initialized RX10) ∈ tw := tb1 9 rfl
theorem w1_10 : (Cond.initialized RX9) ∈ tw := tb1 10 rfl
theorem w1_11 : (Cond.initialized RX8) ∈ tw := tb1 11 rfl
theorem w1_12 : (Cond.classLink RL 7 RX7) ∈ tw := tb1 12 rfl
theorem w1_13 : (Cond.instantiable RX7 4) ∈ tw := tb1 13 rfl
theorem w1_14 : (Cond.methodLink RL 9 yX7_init) ∈ tw := tb1 14 rfl
theorem w1_15 : (Cond.instanceMethod yX7_init) ∈ tw := tb1 15 rfl
theorem w1_16 : (Cond.code yX7_init prog_1_method_1_code 2 (none : Option Jvm.ClassFile.FieldType)) ∈ tw := tb1 16 rfl
theorem w1_17 : (Cond.methodLink RX7 1 ⟨"java/lang/Object", "<init>", "()V"⟩) ∈ tw := tb1 17 rfl
theorem w1_18 : (Cond.instanceMethod ⟨"java/lang/Object", "<init>", "()V"⟩) ∈ tw := tb1 18 rfl
theorem w1_19 : (Cond.code ⟨"java/lang/Object", "<init>", "()V"⟩ object_method_1_code 1 (none : Option Jvm.ClassFile.FieldType)) ∈ tw := tb1 19 rfl
theorem w1_20 : (Cond.classLink RX7 7 RX4) ∈ tw := tb1 20 rfl
theorem w1_21 : (Cond.instantiable RX4 9) ∈ tw := tb1 21 rfl
theorem w1_23 : (Cond.instanceMethod yX4_init) ∈ tw := tb1 23 rfl
theorem w1_24 : (Cond.code yX4_init prog_6_method_1_code 1 (none : Option Jvm.ClassFile.FieldType)) ∈ tw := tb1 24 rfl
theorem w1_25 : (Cond.methodLink RX4 3 ⟨"java/lang/Object", "<init>", "()V"⟩) ∈ tw := tb1 25 rfl
theorem w1_26 : (Cond.fieldLink "SensorNode$Plan" 9 "SensorNode$Plan" "image" "[I") ∈ tw := tb1 26 rfl
theorem w1_27 : (Cond.fieldLink "SensorNode$Plan" 15 "SensorNode$Plan" "samples" "[I") ∈ tw := tb1 27 rfl
theorem w1_43 : (Cond.laysFinal "SensorNode$Plan" "SensorNode$Plan" "image" "[I") ∈ tw := tb1 43 rfl
theorem w1_45 : (Cond.laysFinal "SensorNode$Plan" "SensorNode$Plan" "samples" "[I") ∈ tw := tb1 45 rfl
theorem w1_47 : (Cond.lays "SensorNode$Plan" "SensorNode$Plan" "samplesTold" "I") ∈ tw := tb1 47 rfl
theorem w1_49 : (Cond.lays "SensorNode$Plan" "SensorNode$Plan" "installed" "Z") ∈ tw := tb1 49 rfl
theorem w1_51 : (Cond.lays "SensorNode$Plan" "SensorNode$Plan" "ramBytes" "I") ∈ tw := tb1 51 rfl
theorem w1_53 : (Cond.lays "SensorNode$Plan" "SensorNode$Plan" "storeBytes" "I") ∈ tw := tb1 53 rfl
theorem w1_55 : (Cond.lays "SensorNode$Plan" "SensorNode$Plan" "entries" "I") ∈ tw := tb1 55 rfl
theorem w1_57 : (Cond.lays "SensorNode$Plan" "SensorNode$Plan" "interval" "I") ∈ tw := tb1 57 rfl
theorem w1_59 : (Cond.lays "SensorNode$Plan" "SensorNode$Plan" "start" "I") ∈ tw := tb1 59 rfl
theorem w1_62 : (Cond.arrayClass .int) ∈ tw := tb1 62 rfl
theorem w1_63 : (Cond.classLink RX7 10 RX6) ∈ tw := tb1 63 rfl
theorem w1_64 : (Cond.instantiable RX6 3) ∈ tw := tb1 64 rfl
theorem w1_66 : (Cond.instanceMethod yX6_init) ∈ tw := tb1 66 rfl
theorem w1_67 : (Cond.code yX6_init prog_8_method_1_code 1 (none : Option Jvm.ClassFile.FieldType)) ∈ tw := tb1 67 rfl
theorem w1_68 : (Cond.methodLink RX6 3 ⟨"java/lang/Object", "<init>", "()V"⟩) ∈ tw := tb1 68 rfl
theorem w1_69 : (Cond.classLink RX6 9 RX0) ∈ tw := tb1 69 rfl
theorem w1_70 : (Cond.instantiable RX0 1) ∈ tw := tb1 70 rfl
theorem w1_71 : (Cond.methodLink RX6 11 yX0_init) ∈ tw := tb1 71 rfl
theorem w1_72 : (Cond.instanceMethod yX0_init) ∈ tw := tb1 72 rfl
theorem w1_73 : (Cond.code yX0_init prog_2_method_1_code 2 (none : Option Jvm.ClassFile.FieldType)) ∈ tw := tb1 73 rfl
theorem w1_74 : (Cond.methodLink RX0 1 ⟨"java/lang/Object", "<init>", "()V"⟩) ∈ tw := tb1 74 rfl
theorem w1_75 : (Cond.fieldLink "SensorNode$Bytes" 7 "SensorNode$Bytes" "packed" "[I") ∈ tw := tb1 75 rfl
theorem w1_76 : (Cond.laysFinal "SensorNode$Bytes" "SensorNode$Bytes" "packed" "[I") ∈ tw := tb1 76 rfl
theorem w1_79 : (Cond.fieldLink "SensorNode$Tray" 14 "SensorNode$Tray" "bytes" "LSensorNode$Bytes;") ∈ tw := tb1 79 rfl
theorem w1_82 : (Cond.laysFinal "SensorNode$Tray" "SensorNode$Tray" "bytes" "LSensorNode$Bytes;") ∈ tw := tb1 82 rfl
theorem w1_84 : (Cond.lays "SensorNode$Tray" "SensorNode$Tray" "size" "I") ∈ tw := tb1 84 rfl
theorem w1_86 : (Cond.lays "SensorNode$Tray" "SensorNode$Tray" "fed" "I") ∈ tw := tb1 86 rfl
theorem w1_89 : (Cond.classLink RX7 23 RX2) ∈ tw := tb1 89 rfl
theorem w1_90 : (Cond.instantiable RX2 15) ∈ tw := tb1 90 rfl
theorem w1_91 : (Cond.methodLink RX7 25 yX2_init) ∈ tw := tb1 91 rfl
theorem w1_92 : (Cond.instanceMethod yX2_init) ∈ tw := tb1 92 rfl
theorem w1_93 : (Cond.code yX2_init prog_4_method_1_code 3 (none : Option Jvm.ClassFile.FieldType)) ∈ tw := tb1 93 rfl
theorem w1_94 : (Cond.methodLink RX2 3 ⟨"java/lang/Object", "<init>", "()V"⟩) ∈ tw := tb1 94 rfl
theorem w1_95 : (Cond.classLink RX2 18 RX5) ∈ tw := tb1 95 rfl
theorem w1_96 : (Cond.instantiable RX5 6) ∈ tw := tb1 96 rfl
theorem w1_98 : (Cond.instanceMethod yX5_init) ∈ tw := tb1 98 rfl
theorem w1_99 : (Cond.code yX5_init prog_7_method_1_code 1 (none : Option Jvm.ClassFile.FieldType)) ∈ tw := tb1 99 rfl
theorem w1_100 : (Cond.methodLink RX5 3 ⟨"java/lang/Object", "<init>", "()V"⟩) ∈ tw := tb1 100 rfl
theorem w1_101 : (Cond.classLink RX5 21 RX0) ∈ tw := tb1 101 rfl
theorem w1_102 : (Cond.methodLink RX5 23 yX0_init) ∈ tw := tb1 102 rfl
theorem w1_103 : (Cond.fieldLink "SensorNode$Radio" 9 "SensorNode$Radio" "numbers" "[I") ∈ tw := tb1 103 rfl
theorem w1_104 : (Cond.fieldLink "SensorNode$Radio" 15 "SensorNode$Radio" "lengths" "[I") ∈ tw := tb1 104 rfl
theorem w1_105 : (Cond.fieldLink "SensorNode$Radio" 18 "SensorNode$Radio" "cuts" "[I") ∈ tw := tb1 105 rfl
theorem w1_106 : (Cond.fieldLink "SensorNode$Radio" 26 "SensorNode$Radio" "bytes" "LSensorNode$Bytes;") ∈ tw := tb1 106 rfl
theorem w1_109 : (Cond.laysFinal "SensorNode$Radio" "SensorNode$Radio" "numbers" "[I") ∈ tw := tb1 109 rfl
theorem w1_111 : (Cond.laysFinal "SensorNode$Radio" "SensorNode$Radio" "lengths" "[I") ∈ tw := tb1 111 rfl
theorem w1_113 : (Cond.laysFinal "SensorNode$Radio" "SensorNode$Radio" "cuts" "[I") ∈ tw := tb1 113 rfl
theorem w1_115 : (Cond.laysFinal "SensorNode$Radio" "SensorNode$Radio" "bytes" "LSensorNode$Bytes;") ∈ tw := tb1 115 rfl
theorem w1_117 : (Cond.lays "SensorNode$Radio" "SensorNode$Radio" "total" "I") ∈ tw := tb1 117 rfl
theorem w1_119 : (Cond.lays "SensorNode$Radio" "SensorNode$Radio" "newest" "I") ∈ tw := tb1 119 rfl
theorem w1_122 : (Cond.classLink RX2 32 RX1) ∈ tw := tb1 122 rfl
theorem w1_123 : (Cond.instantiable RX1 10) ∈ tw := tb1 123 rfl
theorem w1_124 : (Cond.methodLink RX2 34 yX1_init) ∈ tw := tb1 124 rfl
theorem w1_125 : (Cond.instanceMethod yX1_init) ∈ tw := tb1 125 rfl
theorem w1_126 : (Cond.code yX1_init prog_3_method_1_code 3 (none : Option Jvm.ClassFile.FieldType)) ∈ tw := tb1 126 rfl
theorem w1_127 : (Cond.methodLink RX1 3 ⟨"java/lang/Object", "<init>", "()V"⟩) ∈ tw := tb1 127 rfl
theorem w1_128 : (Cond.fieldLink "SensorNode$Guest" 18 "SensorNode$Guest" "plan" "LSensorNode$Plan;") ∈ tw := tb1 128 rfl
theorem w1_129 : (Cond.fieldLink "SensorNode$Guest" 9 "SensorNode$Guest" "own" "[I") ∈ tw := tb1 129 rfl
theorem w1_130 : (Cond.fieldLink "SensorNode$Guest" 15 "SensorNode$Guest" "memory" "[I") ∈ tw := tb1 130 rfl
theorem w1_131 : (Cond.fieldLink "SensorNode$Guest" 22 "SensorNode$Guest" "store" "[I") ∈ tw := tb1 131 rfl
theorem w1_138 : (Cond.laysFinal "SensorNode$Guest" "SensorNode$Guest" "plan" "LSensorNode$Plan;") ∈ tw := tb1 138 rfl
theorem w1_140 : (Cond.laysFinal "SensorNode$Guest" "SensorNode$Guest" "own" "[I") ∈ tw := tb1 140 rfl
theorem w1_142 : (Cond.laysFinal "SensorNode$Guest" "SensorNode$Guest" "memory" "[I") ∈ tw := tb1 142 rfl
theorem w1_144 : (Cond.laysFinal "SensorNode$Guest" "SensorNode$Guest" "store" "[I") ∈ tw := tb1 144 rfl
theorem w1_146 : (Cond.lays "SensorNode$Guest" "SensorNode$Guest" "storeStart" "I") ∈ tw := tb1 146 rfl
theorem w1_148 : (Cond.lays "SensorNode$Guest" "SensorNode$Guest" "kind" "I") ∈ tw := tb1 148 rfl
theorem w1_150 : (Cond.lays "SensorNode$Guest" "SensorNode$Guest" "target" "I") ∈ tw := tb1 150 rfl
theorem w1_152 : (Cond.lays "SensorNode$Guest" "SensorNode$Guest" "value" "I") ∈ tw := tb1 152 rfl
theorem w1_154 : (Cond.lays "SensorNode$Guest" "SensorNode$Guest" "next" "I") ∈ tw := tb1 154 rfl
theorem w1_156 : (Cond.lays "SensorNode$Guest" "SensorNode$Guest" "address" "I") ∈ tw := tb1 156 rfl
theorem w1_159 : (Cond.fieldLink "SensorNode$Node" 25 "SensorNode$Node" "plan" "LSensorNode$Plan;") ∈ tw := tb1 159 rfl
theorem w1_160 : (Cond.fieldLink "SensorNode$Node" 29 "SensorNode$Node" "store" "[I") ∈ tw := tb1 160 rfl
theorem w1_161 : (Cond.fieldLink "SensorNode$Node" 9 "SensorNode$Node" "marks" "[I") ∈ tw := tb1 161 rfl
theorem w1_162 : (Cond.fieldLink "SensorNode$Node" 15 "SensorNode$Node" "counts" "[I") ∈ tw := tb1 162 rfl
theorem w1_163 : (Cond.fieldLink "SensorNode$Node" 21 "SensorNode$Node" "radio" "LSensorNode$Radio;") ∈ tw := tb1 163 rfl
theorem w1_164 : (Cond.fieldLink "SensorNode$Node" 37 "SensorNode$Node" "guest" "LSensorNode$Guest;") ∈ tw := tb1 164 rfl
theorem w1_166 : (Cond.fieldLink "SensorNode$Node" 41 "SensorNode$Node" "state" "I") ∈ tw := tb1 166 rfl
theorem w1_174 : (Cond.laysFinal "SensorNode$Node" "SensorNode$Node" "plan" "LSensorNode$Plan;") ∈ tw := tb1 174 rfl
theorem w1_176 : (Cond.laysFinal "SensorNode$Node" "SensorNode$Node" "store" "[I") ∈ tw := tb1 176 rfl
theorem w1_178 : (Cond.laysFinal "SensorNode$Node" "SensorNode$Node" "marks" "[I") ∈ tw := tb1 178 rfl
theorem w1_180 : (Cond.laysFinal "SensorNode$Node" "SensorNode$Node" "counts" "[I") ∈ tw := tb1 180 rfl
theorem w1_182 : (Cond.laysFinal "SensorNode$Node" "SensorNode$Node" "radio" "LSensorNode$Radio;") ∈ tw := tb1 182 rfl
theorem w1_184 : (Cond.laysFinal "SensorNode$Node" "SensorNode$Node" "guest" "LSensorNode$Guest;") ∈ tw := tb1 184 rfl
theorem w1_186 : (Cond.lays "SensorNode$Node" "SensorNode$Node" "mark" "I") ∈ tw := tb1 186 rfl
theorem w1_188 : (Cond.lays "SensorNode$Node" "SensorNode$Node" "state" "I") ∈ tw := tb1 188 rfl
theorem w1_190 : (Cond.lays "SensorNode$Node" "SensorNode$Node" "step" "I") ∈ tw := tb1 190 rfl
theorem w1_192 : (Cond.lays "SensorNode$Node" "SensorNode$Node" "since" "I") ∈ tw := tb1 192 rfl
theorem w1_194 : (Cond.lays "SensorNode$Node" "SensorNode$Node" "size" "I") ∈ tw := tb1 194 rfl
theorem w1_196 : (Cond.lays "SensorNode$Node" "SensorNode$Node" "logStart" "I") ∈ tw := tb1 196 rfl
theorem w1_198 : (Cond.lays "SensorNode$Node" "SensorNode$Node" "guestStart" "I") ∈ tw := tb1 198 rfl
theorem w1_200 : (Cond.lays "SensorNode$Node" "SensorNode$Node" "strays" "I") ∈ tw := tb1 200 rfl
theorem w1_202 : (Cond.lays "SensorNode$Node" "SensorNode$Node" "hadPower" "Z") ∈ tw := tb1 202 rfl
theorem w1_205 : (Cond.classLink RX7 32 RX3) ∈ tw := tb1 205 rfl
theorem w1_206 : (Cond.instantiable RX3 6) ∈ tw := tb1 206 rfl
theorem w1_207 : (Cond.methodLink RX7 34 yX3_init) ∈ tw := tb1 207 rfl
theorem w1_208 : (Cond.instanceMethod yX3_init) ∈ tw := tb1 208 rfl
theorem w1_209 : (Cond.code yX3_init prog_5_method_1_code 3 (none : Option Jvm.ClassFile.FieldType)) ∈ tw := tb1 209 rfl
theorem w1_210 : (Cond.methodLink RX3 3 ⟨"java/lang/Object", "<init>", "()V"⟩) ∈ tw := tb1 210 rfl
theorem w1_211 : (Cond.classLink RX3 9 RX5) ∈ tw := tb1 211 rfl
theorem w1_213 : (Cond.classLink RX3 26 RX1) ∈ tw := tb1 213 rfl
theorem w1_214 : (Cond.methodLink RX3 28 yX1_init) ∈ tw := tb1 214 rfl
theorem w1_215 : (Cond.fieldLink "SensorNode$PlainMachine" 18 "SensorNode$PlainMachine" "plan" "LSensorNode$Plan;") ∈ tw := tb1 215 rfl
theorem w1_216 : (Cond.fieldLink "SensorNode$PlainMachine" 22 "SensorNode$PlainMachine" "store" "[I") ∈ tw := tb1 216 rfl
theorem w1_217 : (Cond.fieldLink "SensorNode$PlainMachine" 31 "SensorNode$PlainMachine" "guest" "LSensorNode$Guest;") ∈ tw := tb1 217 rfl
theorem w1_218 : (Cond.fieldLink "SensorNode$PlainMachine" 12 "SensorNode$PlainMachine" "radio" "LSensorNode$Radio;") ∈ tw := tb1 218 rfl
theorem w1_221 : (Cond.laysFinal "SensorNode$PlainMachine" "SensorNode$PlainMachine" "plan" "LSensorNode$Plan;") ∈ tw := tb1 221 rfl
theorem w1_223 : (Cond.laysFinal "SensorNode$PlainMachine" "SensorNode$PlainMachine" "store" "[I") ∈ tw := tb1 223 rfl
theorem w1_225 : (Cond.laysFinal "SensorNode$PlainMachine" "SensorNode$PlainMachine" "guest" "LSensorNode$Guest;") ∈ tw := tb1 225 rfl
theorem w1_227 : (Cond.laysFinal "SensorNode$PlainMachine" "SensorNode$PlainMachine" "radio" "LSensorNode$Radio;") ∈ tw := tb1 227 rfl
theorem w1_229 : (Cond.lays "SensorNode$PlainMachine" "SensorNode$PlainMachine" "ran" "Z") ∈ tw := tb1 229 rfl
theorem w1_231 : (Cond.lays "SensorNode$PlainMachine" "SensorNode$PlainMachine" "ending" "I") ∈ tw := tb1 231 rfl
theorem w1_234 : (Cond.fieldLink "SensorNode" 13 "SensorNode" "tray" "LSensorNode$Tray;") ∈ tw := tb1 234 rfl
theorem w1_235 : (Cond.fieldLink "SensorNode" 19 "SensorNode" "plan" "LSensorNode$Plan;") ∈ tw := tb1 235 rfl
theorem w1_236 : (Cond.fieldLink "SensorNode" 28 "SensorNode" "node" "LSensorNode$Node;") ∈ tw := tb1 236 rfl
theorem w1_237 : (Cond.fieldLink "SensorNode" 35 "SensorNode" "plainMachine" "LSensorNode$PlainMachine;") ∈ tw := tb1 237 rfl
theorem w1_238 : (Cond.laysFinal "SensorNode" "SensorNode" "tray" "LSensorNode$Tray;") ∈ tw := tb1 238 rfl
theorem w2_0 : (Cond.laysFinal "SensorNode" "SensorNode" "plan" "LSensorNode$Plan;") ∈ tw := tb2 0 rfl
theorem w2_2 : (Cond.laysFinal "SensorNode" "SensorNode" "node" "LSensorNode$Node;") ∈ tw := tb2 2 rfl
theorem w2_4 : (Cond.laysFinal "SensorNode" "SensorNode" "plainMachine" "LSensorNode$PlainMachine;") ∈ tw := tb2 4 rfl
theorem w3_216 : (Cond.classLink RL 10 RX10) ∈ tw := tb3 216 rfl
theorem w3_217 : (Cond.instantiable RX10 36) ∈ tw := tb3 217 rfl
theorem w3_218 : (Cond.methodLink RL 12 yX10_init) ∈ tw := tb3 218 rfl
theorem w3_219 : (Cond.instanceMethod yX10_init) ∈ tw := tb3 219 rfl
theorem w3_220 : (Cond.code yX10_init prog_10_method_1_code 1 (none : Option Jvm.ClassFile.FieldType)) ∈ tw := tb3 220 rfl
theorem w3_221 : (Cond.methodLink RX10 1 ⟨"java/lang/Object", "<init>", "()V"⟩) ∈ tw := tb3 221 rfl
theorem w3_222 : (Cond.classLink RX10 19 RX9) ∈ tw := tb3 222 rfl
theorem w3_223 : (Cond.instantiable RX9 20) ∈ tw := tb3 223 rfl
theorem w3_224 : (Cond.methodLink RX10 21 yX9_init) ∈ tw := tb3 224 rfl
theorem w3_225 : (Cond.instanceMethod yX9_init) ∈ tw := tb3 225 rfl
theorem w3_226 : (Cond.code yX9_init prog_12_method_1_code 2 (none : Option Jvm.ClassFile.FieldType)) ∈ tw := tb3 226 rfl
theorem w3_227 : (Cond.methodLink RX9 3 ⟨"java/lang/Object", "<init>", "()V"⟩) ∈ tw := tb3 227 rfl
theorem w3_228 : (Cond.fieldLink "SensorNodeModel$Guest" 9 "SensorNodeModel$Guest" "x" "[I") ∈ tw := tb3 228 rfl
theorem w3_238 : (Cond.fieldLink "SensorNodeModel$Guest" 15 "SensorNodeModel$Guest" "ram" "[I") ∈ tw := tb3 238 rfl
theorem w4_8 : (Cond.fieldLink "SensorNodeModel$Guest" 18 "SensorNodeModel$Guest" "samples" "[I") ∈ tw := tb4 8 rfl
theorem w4_22 : (Cond.laysFinal "SensorNodeModel$Guest" "SensorNodeModel$Guest" "x" "[I") ∈ tw := tb4 22 rfl
theorem w4_24 : (Cond.lays "SensorNodeModel$Guest" "SensorNodeModel$Guest" "pc" "I") ∈ tw := tb4 24 rfl
theorem w4_26 : (Cond.lays "SensorNodeModel$Guest" "SensorNodeModel$Guest" "index" "I") ∈ tw := tb4 26 rfl
theorem w4_28 : (Cond.lays "SensorNodeModel$Guest" "SensorNodeModel$Guest" "sent" "I") ∈ tw := tb4 28 rfl
theorem w4_30 : (Cond.lays "SensorNodeModel$Guest" "SensorNodeModel$Guest" "count" "I") ∈ tw := tb4 30 rfl
theorem w4_32 : (Cond.laysFinal "SensorNodeModel$Guest" "SensorNodeModel$Guest" "ram" "[I") ∈ tw := tb4 32 rfl
theorem w4_34 : (Cond.lays "SensorNodeModel$Guest" "SensorNodeModel$Guest" "\x72" "I") ∈ tw := tb4 34 rfl
theorem w4_36 : (Cond.lays "SensorNodeModel$Guest" "SensorNodeModel$Guest" "g" "I") ∈ tw := tb4 36 rfl
theorem w4_38 : (Cond.lays "SensorNodeModel$Guest" "SensorNodeModel$Guest" "own" "[I") ∈ tw := tb4 38 rfl
theorem w4_40 : (Cond.lays "SensorNodeModel$Guest" "SensorNodeModel$Guest" "from" "I") ∈ tw := tb4 40 rfl
theorem w4_42 : (Cond.laysFinal "SensorNodeModel$Guest" "SensorNodeModel$Guest" "samples" "[I") ∈ tw := tb4 42 rfl
theorem w4_44 : (Cond.lays "SensorNodeModel$Guest" "SensorNodeModel$Guest" "sampleCount" "I") ∈ tw := tb4 44 rfl
theorem w4_46 : (Cond.lays "SensorNodeModel$Guest" "SensorNodeModel$Guest" "ends" "I") ∈ tw := tb4 46 rfl
theorem w4_48 : (Cond.lays "SensorNodeModel$Guest" "SensorNodeModel$Guest" "effect" "I") ∈ tw := tb4 48 rfl
theorem w4_50 : (Cond.lays "SensorNodeModel$Guest" "SensorNodeModel$Guest" "target" "I") ∈ tw := tb4 50 rfl
theorem w4_52 : (Cond.lays "SensorNodeModel$Guest" "SensorNodeModel$Guest" "value" "I") ∈ tw := tb4 52 rfl
theorem w4_54 : (Cond.lays "SensorNodeModel$Guest" "SensorNodeModel$Guest" "place" "I") ∈ tw := tb4 54 rfl
theorem w4_56 : (Cond.lays "SensorNodeModel$Guest" "SensorNodeModel$Guest" "wide" "I") ∈ tw := tb4 56 rfl
theorem w4_58 : (Cond.lays "SensorNodeModel$Guest" "SensorNodeModel$Guest" "writesRegister" "Z") ∈ tw := tb4 58 rfl
theorem w4_60 : (Cond.lays "SensorNodeModel$Guest" "SensorNodeModel$Guest" "writesRam" "Z") ∈ tw := tb4 60 rfl
theorem w4_63 : (Cond.classLink RX10 34 RX8) ∈ tw := tb4 63 rfl
theorem w4_64 : (Cond.instantiable RX8 5) ∈ tw := tb4 64 rfl
theorem w4_66 : (Cond.instanceMethod yX8_init) ∈ tw := tb4 66 rfl
theorem w4_67 : (Cond.code yX8_init prog_11_method_1_code 1 (none : Option Jvm.ClassFile.FieldType)) ∈ tw := tb4 67 rfl
theorem w4_68 : (Cond.methodLink RX8 3 ⟨"java/lang/Object", "<init>", "()V"⟩) ∈ tw := tb4 68 rfl
theorem w4_72 : (Cond.fieldLink "SensorNodeModel$Air" 9 "SensorNodeModel$Air" "number" "[I") ∈ tw := tb4 72 rfl
theorem w4_75 : (Cond.fieldLink "SensorNodeModel$Air" 15 "SensorNodeModel$Air" "length" "[I") ∈ tw := tb4 75 rfl
theorem w4_78 : (Cond.fieldLink "SensorNodeModel$Air" 18 "SensorNodeModel$Air" "before" "[I") ∈ tw := tb4 78 rfl
theorem w4_81 : (Cond.fieldLink "SensorNodeModel$Air" 21 "SensorNodeModel$Air" "bytes" "[B") ∈ tw := tb4 81 rfl
theorem w4_83 : (Cond.lays "SensorNodeModel$Air" "SensorNodeModel$Air" "count" "I") ∈ tw := tb4 83 rfl
theorem w4_85 : (Cond.laysFinal "SensorNodeModel$Air" "SensorNodeModel$Air" "number" "[I") ∈ tw := tb4 85 rfl
theorem w4_87 : (Cond.laysFinal "SensorNodeModel$Air" "SensorNodeModel$Air" "length" "[I") ∈ tw := tb4 87 rfl
theorem w4_89 : (Cond.laysFinal "SensorNodeModel$Air" "SensorNodeModel$Air" "before" "[I") ∈ tw := tb4 89 rfl
theorem w4_91 : (Cond.laysFinal "SensorNodeModel$Air" "SensorNodeModel$Air" "bytes" "[B") ∈ tw := tb4 91 rfl
theorem w4_94 : (Cond.arrayClass .byte) ∈ tw := tb4 94 rfl
theorem w4_106 : (Cond.fieldLink "SensorNodeModel" 9 "SensorNodeModel" "store" "[I") ∈ tw := tb4 106 rfl
theorem w4_107 : (Cond.fieldLink "SensorNodeModel" 13 "SensorNodeModel" "image" "[I") ∈ tw := tb4 107 rfl
theorem w4_108 : (Cond.fieldLink "SensorNodeModel" 16 "SensorNodeModel" "samples" "[I") ∈ tw := tb4 108 rfl
theorem w4_109 : (Cond.fieldLink "SensorNodeModel" 24 "SensorNodeModel" "node" "LSensorNodeModel$Guest;") ∈ tw := tb4 109 rfl
theorem w4_110 : (Cond.fieldLink "SensorNodeModel" 28 "SensorNodeModel" "plain" "LSensorNodeModel$Guest;") ∈ tw := tb4 110 rfl
theorem w4_111 : (Cond.fieldLink "SensorNodeModel" 31 "SensorNodeModel" "plainWords" "[I") ∈ tw := tb4 111 rfl
theorem w4_113 : (Cond.fieldLink "SensorNodeModel" 37 "SensorNodeModel" "heard" "LSensorNodeModel$Air;") ∈ tw := tb4 113 rfl
theorem w4_114 : (Cond.fieldLink "SensorNodeModel" 41 "SensorNodeModel" "plainHeard" "LSensorNodeModel$Air;") ∈ tw := tb4 114 rfl
theorem w4_119 : (Cond.fieldLink "SensorNodeModel" 44 "SensorNodeModel" "hasEntry" "[Z") ∈ tw := tb4 119 rfl
theorem w4_128 : (Cond.fieldLink "SensorNodeModel" 48 "SensorNodeModel" "tray" "[B") ∈ tw := tb4 128 rfl
theorem w4_131 : (Cond.lays "SensorNodeModel" "SensorNodeModel" "isInstalled" "Z") ∈ tw := tb4 131 rfl
theorem w4_133 : (Cond.lays "SensorNodeModel" "SensorNodeModel" "wasOn" "Z") ∈ tw := tb4 133 rfl
theorem w4_135 : (Cond.lays "SensorNodeModel" "SensorNodeModel" "power" "Z") ∈ tw := tb4 135 rfl
theorem w4_137 : (Cond.lays "SensorNodeModel" "SensorNodeModel" "\x72" "I") ∈ tw := tb4 137 rfl
theorem w4_139 : (Cond.lays "SensorNodeModel" "SensorNodeModel" "g" "I") ∈ tw := tb4 139 rfl
theorem w4_141 : (Cond.lays "SensorNodeModel" "SensorNodeModel" "l" "I") ∈ tw := tb4 141 rfl
theorem w4_143 : (Cond.lays "SensorNodeModel" "SensorNodeModel" "k" "I") ∈ tw := tb4 143 rfl
theorem w4_145 : (Cond.lays "SensorNodeModel" "SensorNodeModel" "pcAtFirst" "I") ∈ tw := tb4 145 rfl
theorem w4_147 : (Cond.lays "SensorNodeModel" "SensorNodeModel" "size" "I") ∈ tw := tb4 147 rfl
theorem w4_149 : (Cond.lays "SensorNodeModel" "SensorNodeModel" "entriesAt" "I") ∈ tw := tb4 149 rfl
theorem w4_151 : (Cond.lays "SensorNodeModel" "SensorNodeModel" "guestAt" "I") ∈ tw := tb4 151 rfl
theorem w4_153 : (Cond.laysFinal "SensorNodeModel" "SensorNodeModel" "store" "[I") ∈ tw := tb4 153 rfl
theorem w4_155 : (Cond.laysFinal "SensorNodeModel" "SensorNodeModel" "image" "[I") ∈ tw := tb4 155 rfl
theorem w4_157 : (Cond.laysFinal "SensorNodeModel" "SensorNodeModel" "samples" "[I") ∈ tw := tb4 157 rfl
theorem w4_159 : (Cond.laysFinal "SensorNodeModel" "SensorNodeModel" "node" "LSensorNodeModel$Guest;") ∈ tw := tb4 159 rfl
theorem w4_161 : (Cond.laysFinal "SensorNodeModel" "SensorNodeModel" "plain" "LSensorNodeModel$Guest;") ∈ tw := tb4 161 rfl
theorem w4_163 : (Cond.laysFinal "SensorNodeModel" "SensorNodeModel" "plainWords" "[I") ∈ tw := tb4 163 rfl
theorem w4_165 : (Cond.lays "SensorNodeModel" "SensorNodeModel" "wasPlain" "Z") ∈ tw := tb4 165 rfl
theorem w4_167 : (Cond.lays "SensorNodeModel" "SensorNodeModel" "heard" "LSensorNodeModel$Air;") ∈ tw := tb4 167 rfl
theorem w4_169 : (Cond.laysFinal "SensorNodeModel" "SensorNodeModel" "plainHeard" "LSensorNodeModel$Air;") ∈ tw := tb4 169 rfl
theorem w4_171 : (Cond.lays "SensorNodeModel" "SensorNodeModel" "since" "I") ∈ tw := tb4 171 rfl
theorem w4_173 : (Cond.lays "SensorNodeModel" "SensorNodeModel" "ended" "I") ∈ tw := tb4 173 rfl
theorem w4_175 : (Cond.lays "SensorNodeModel" "SensorNodeModel" "doing" "I") ∈ tw := tb4 175 rfl
theorem w4_177 : (Cond.lays "SensorNodeModel" "SensorNodeModel" "step" "I") ∈ tw := tb4 177 rfl
theorem w4_179 : (Cond.laysFinal "SensorNodeModel" "SensorNodeModel" "hasEntry" "[Z") ∈ tw := tb4 179 rfl
theorem w4_181 : (Cond.lays "SensorNodeModel" "SensorNodeModel" "acts" "I") ∈ tw := tb4 181 rfl
theorem w4_183 : (Cond.lays "SensorNodeModel" "SensorNodeModel" "written" "I") ∈ tw := tb4 183 rfl
theorem w4_185 : (Cond.lays "SensorNodeModel" "SensorNodeModel" "undone" "I") ∈ tw := tb4 185 rfl
theorem w4_187 : (Cond.lays "SensorNodeModel" "SensorNodeModel" "done" "I") ∈ tw := tb4 187 rfl
theorem w4_189 : (Cond.lays "SensorNodeModel" "SensorNodeModel" "checkpoints" "I") ∈ tw := tb4 189 rfl
theorem w4_191 : (Cond.lays "SensorNodeModel" "SensorNodeModel" "cuts" "I") ∈ tw := tb4 191 rfl
theorem w4_193 : (Cond.lays "SensorNodeModel" "SensorNodeModel" "rolled" "I") ∈ tw := tb4 193 rfl
theorem w4_195 : (Cond.lays "SensorNodeModel" "SensorNodeModel" "strays" "I") ∈ tw := tb4 195 rfl
theorem w4_197 : (Cond.laysFinal "SensorNodeModel" "SensorNodeModel" "tray" "[B") ∈ tw := tb4 197 rfl
theorem w4_199 : (Cond.lays "SensorNodeModel" "SensorNodeModel" "trayed" "I") ∈ tw := tb4 199 rfl
theorem w4_201 : (Cond.lays "SensorNodeModel" "SensorNodeModel" "fed" "I") ∈ tw := tb4 201 rfl
theorem w4_204 : (Cond.arrayClass .boolean) ∈ tw := tb4 204 rfl
def tnF : List (String × Nat × String × String × String × String) := [("SensorNode", 127, "SensorNode$Plan", "installed", "Z", "SensorNode"), ("SensorNode$Guest", 118, "SensorNode$Plan", "ramBytes", "I", "SensorNode"), ("SensorNode$Node", 60, "SensorNode$Plan", "storeBytes", "I", "SensorNode"), ("SensorNode$Guest", 121, "SensorNode$Plan", "storeBytes", "I", "SensorNode"), ("SensorNode$Node", 54, "SensorNode$Plan", "entries", "I", "SensorNode"), ("SensorNode$Node", 133, "SensorNode$Plan", "interval", "I", "SensorNode"), ("SensorNode$Node", 66, "SensorNode$Plan", "start", "I", "SensorNode"), ("SensorNode$PlainMachine", 75, "SensorNode$Plan", "start", "I", "SensorNode")]
def tnM : List (String × Nat × MethodName × String) := [(RX7, 9, yX4_init, RX7), (RX7, 12, yX6_init, RX7), (RX2, 20, yX5_init, RX7), (RX3, 11, yX5_init, RX7), (RX10, 36, yX8_init, RX10)]
theorem inX0 : ∀ w ∈ wsX00, w ∈ tw := by
  intro w h
  obtain ⟨k, hk, rfl⟩ := List.mem_map.mp h
  have hk := List.mem_range.mp hk
  match k, hk with
  | 0, _ => exact w1_76
  | q + 1, hq => exact absurd hq (by omega)
theorem inX1 : ∀ w ∈ wsX10, w ∈ tw := by
  intro w h
  obtain ⟨k, hk, rfl⟩ := List.mem_map.mp h
  have hk := List.mem_range.mp hk
  match k, hk with
  | 0, _ => exact w1_138
  | 1, _ => exact w1_140
  | 2, _ => exact w1_142
  | 3, _ => exact w1_144
  | 4, _ => exact w1_146
  | 5, _ => exact w1_148
  | 6, _ => exact w1_150
  | 7, _ => exact w1_152
  | 8, _ => exact w1_154
  | 9, _ => exact w1_156
  | q + 10, hq => exact absurd hq (by omega)
theorem inX2 : ∀ w ∈ wsX20, w ∈ tw := by
  intro w h
  obtain ⟨k, hk, rfl⟩ := List.mem_map.mp h
  have hk := List.mem_range.mp hk
  match k, hk with
  | 0, _ => exact w1_174
  | 1, _ => exact w1_176
  | 2, _ => exact w1_178
  | 3, _ => exact w1_180
  | 4, _ => exact w1_182
  | 5, _ => exact w1_184
  | 6, _ => exact w1_186
  | 7, _ => exact w1_188
  | 8, _ => exact w1_190
  | 9, _ => exact w1_192
  | 10, _ => exact w1_194
  | 11, _ => exact w1_196
  | 12, _ => exact w1_198
  | 13, _ => exact w1_200
  | 14, _ => exact w1_202
  | q + 15, hq => exact absurd hq (by omega)
theorem inX3 : ∀ w ∈ wsX30, w ∈ tw := by
  intro w h
  obtain ⟨k, hk, rfl⟩ := List.mem_map.mp h
  have hk := List.mem_range.mp hk
  match k, hk with
  | 0, _ => exact w1_221
  | 1, _ => exact w1_223
  | 2, _ => exact w1_225
  | 3, _ => exact w1_227
  | 4, _ => exact w1_229
  | 5, _ => exact w1_231
  | q + 6, hq => exact absurd hq (by omega)
theorem inX4 : ∀ w ∈ wsX40, w ∈ tw := by
  intro w h
  obtain ⟨k, hk, rfl⟩ := List.mem_map.mp h
  have hk := List.mem_range.mp hk
  match k, hk with
  | 0, _ => exact w1_43
  | 1, _ => exact w1_45
  | 2, _ => exact w1_47
  | 3, _ => exact w1_49
  | 4, _ => exact w1_51
  | 5, _ => exact w1_53
  | 6, _ => exact w1_55
  | 7, _ => exact w1_57
  | 8, _ => exact w1_59
  | q + 9, hq => exact absurd hq (by omega)
theorem inX5 : ∀ w ∈ wsX50, w ∈ tw := by
  intro w h
  obtain ⟨k, hk, rfl⟩ := List.mem_map.mp h
  have hk := List.mem_range.mp hk
  match k, hk with
  | 0, _ => exact w1_109
  | 1, _ => exact w1_111
  | 2, _ => exact w1_113
  | 3, _ => exact w1_115
  | 4, _ => exact w1_117
  | 5, _ => exact w1_119
  | q + 6, hq => exact absurd hq (by omega)
theorem inX6 : ∀ w ∈ wsX60, w ∈ tw := by
  intro w h
  obtain ⟨k, hk, rfl⟩ := List.mem_map.mp h
  have hk := List.mem_range.mp hk
  match k, hk with
  | 0, _ => exact w1_82
  | 1, _ => exact w1_84
  | 2, _ => exact w1_86
  | q + 3, hq => exact absurd hq (by omega)
theorem inX7 : ∀ w ∈ wsX70, w ∈ tw := by
  intro w h
  obtain ⟨k, hk, rfl⟩ := List.mem_map.mp h
  have hk := List.mem_range.mp hk
  match k, hk with
  | 0, _ => exact w1_238
  | 1, _ => exact w2_0
  | 2, _ => exact w2_2
  | 3, _ => exact w2_4
  | q + 4, hq => exact absurd hq (by omega)
theorem inX8 : ∀ w ∈ wsX80, w ∈ tw := by
  intro w h
  obtain ⟨k, hk, rfl⟩ := List.mem_map.mp h
  have hk := List.mem_range.mp hk
  match k, hk with
  | 0, _ => exact w4_83
  | 1, _ => exact w4_85
  | 2, _ => exact w4_87
  | 3, _ => exact w4_89
  | 4, _ => exact w4_91
  | q + 5, hq => exact absurd hq (by omega)
theorem inX9 : ∀ w ∈ wsX90, w ∈ tw := by
  intro w h
  obtain ⟨k, hk, rfl⟩ := List.mem_map.mp h
  have hk := List.mem_range.mp hk
  match k, hk with
  | 0, _ => exact w4_22
  | 1, _ => exact w4_24
  | 2, _ => exact w4_26
  | 3, _ => exact w4_28
  | 4, _ => exact w4_30
  | 5, _ => exact w4_32
  | 6, _ => exact w4_34
  | 7, _ => exact w4_36
  | 8, _ => exact w4_38
  | 9, _ => exact w4_40
  | 10, _ => exact w4_42
  | 11, _ => exact w4_44
  | 12, _ => exact w4_46
  | 13, _ => exact w4_48
  | 14, _ => exact w4_50
  | 15, _ => exact w4_52
  | 16, _ => exact w4_54
  | 17, _ => exact w4_56
  | 18, _ => exact w4_58
  | 19, _ => exact w4_60
  | q + 20, hq => exact absurd hq (by omega)
theorem inX10 : ∀ w ∈ wsX100, w ∈ tw := by
  intro w h
  obtain ⟨k, hk, rfl⟩ := List.mem_map.mp h
  have hk := List.mem_range.mp hk
  match k, hk with
  | 0, _ => exact w4_131
  | 1, _ => exact w4_133
  | 2, _ => exact w4_135
  | 3, _ => exact w4_137
  | 4, _ => exact w4_139
  | 5, _ => exact w4_141
  | 6, _ => exact w4_143
  | 7, _ => exact w4_145
  | 8, _ => exact w4_147
  | 9, _ => exact w4_149
  | 10, _ => exact w4_151
  | 11, _ => exact w4_153
  | 12, _ => exact w4_155
  | 13, _ => exact w4_157
  | 14, _ => exact w4_159
  | 15, _ => exact w4_161
  | 16, _ => exact w4_163
  | 17, _ => exact w4_165
  | 18, _ => exact w4_167
  | 19, _ => exact w4_169
  | 20, _ => exact w4_171
  | 21, _ => exact w4_173
  | 22, _ => exact w4_175
  | 23, _ => exact w4_177
  | 24, _ => exact w4_179
  | 25, _ => exact w4_181
  | 26, _ => exact w4_183
  | 27, _ => exact w4_185
  | 28, _ => exact w4_187
  | 29, _ => exact w4_189
  | 30, _ => exact w4_191
  | 31, _ => exact w4_193
  | 32, _ => exact w4_195
  | 33, _ => exact w4_197
  | 34, _ => exact w4_199
  | 35, _ => exact w4_201
  | q + 36, hq => exact absurd hq (by omega)
end
section
theorem dX0_init_0 : decode cX0_init 0 = .ok (.aload_n 0, 1) := by decide +kernel
theorem dX0_init_1 : decode cX0_init 1 = .ok (.invokespecial 1, 3) := by decide +kernel
theorem dX0_init_4 : decode cX0_init 4 = .ok (.aload_n 0, 1) := by decide +kernel
theorem dX0_init_5 : decode cX0_init 5 = .ok (.iload_n 1, 1) := by decide +kernel
theorem dX0_init_6 : decode cX0_init 6 = .ok (.ifCond .le 11, 3) := by decide +kernel
theorem dX0_init_9 : decode cX0_init 9 = .ok (.iload_n 1, 1) := by decide +kernel
theorem dX0_init_10 : decode cX0_init 10 = .ok (.iconst 3, 1) := by decide +kernel
theorem dX0_init_11 : decode cX0_init 11 = .ok (.iadd, 1) := by decide +kernel
theorem dX0_init_12 : decode cX0_init 12 = .ok (.iconst 4, 1) := by decide +kernel
theorem dX0_init_13 : decode cX0_init 13 = .ok (.idiv, 1) := by decide +kernel
theorem dX0_init_14 : decode cX0_init 14 = .ok (.goto 4, 3) := by decide +kernel
theorem dX0_init_18 : decode cX0_init 18 = .ok (.newarray .int, 2) := by decide +kernel
theorem dX0_init_20 : decode cX0_init 20 = .ok (.putfield 7, 3) := by decide +kernel
theorem dX0_init_23 : decode cX0_init 23 = .ok (.return_, 1) := by decide +kernel
theorem dX1_init_0 : decode cX1_init 0 = .ok (.aload_n 0, 1) := by decide +kernel
theorem dX1_init_1 : decode cX1_init 1 = .ok (.invokespecial 3, 3) := by decide +kernel
theorem dX1_init_4 : decode cX1_init 4 = .ok (.aload_n 0, 1) := by decide +kernel
theorem dX1_init_5 : decode cX1_init 5 = .ok (.bipush 36, 2) := by decide +kernel
theorem dX1_init_7 : decode cX1_init 7 = .ok (.newarray .int, 2) := by decide +kernel
theorem dX1_init_9 : decode cX1_init 9 = .ok (.putfield 9, 3) := by decide +kernel
theorem dX1_init_12 : decode cX1_init 12 = .ok (.aload_n 0, 1) := by decide +kernel
theorem dX1_init_13 : decode cX1_init 13 = .ok (.sipush 1024, 3) := by decide +kernel
theorem dX1_init_16 : decode cX1_init 16 = .ok (.newarray .int, 2) := by decide +kernel
theorem dX1_init_18 : decode cX1_init 18 = .ok (.putfield 15, 3) := by decide +kernel
theorem dX1_init_21 : decode cX1_init 21 = .ok (.aload_n 0, 1) := by decide +kernel
theorem dX1_init_22 : decode cX1_init 22 = .ok (.aload_n 1, 1) := by decide +kernel
theorem dX1_init_23 : decode cX1_init 23 = .ok (.putfield 18, 3) := by decide +kernel
theorem dX1_init_26 : decode cX1_init 26 = .ok (.aload_n 0, 1) := by decide +kernel
theorem dX1_init_27 : decode cX1_init 27 = .ok (.aload_n 2, 1) := by decide +kernel
theorem dX1_init_28 : decode cX1_init 28 = .ok (.putfield 22, 3) := by decide +kernel
theorem dX1_init_31 : decode cX1_init 31 = .ok (.return_, 1) := by decide +kernel
theorem dX2_init_0 : decode cX2_init 0 = .ok (.aload_n 0, 1) := by decide +kernel
theorem dX2_init_1 : decode cX2_init 1 = .ok (.invokespecial 3, 3) := by decide +kernel
theorem dX2_init_4 : decode cX2_init 4 = .ok (.aload_n 0, 1) := by decide +kernel
theorem dX2_init_5 : decode cX2_init 5 = .ok (.sipush 2048, 3) := by decide +kernel
theorem dX2_init_8 : decode cX2_init 8 = .ok (.newarray .int, 2) := by decide +kernel
theorem dX2_init_10 : decode cX2_init 10 = .ok (.putfield 9, 3) := by decide +kernel
theorem dX2_init_13 : decode cX2_init 13 = .ok (.aload_n 0, 1) := by decide +kernel
theorem dX2_init_14 : decode cX2_init 14 = .ok (.bipush 7, 2) := by decide +kernel
theorem dX2_init_16 : decode cX2_init 16 = .ok (.newarray .int, 2) := by decide +kernel
theorem dX2_init_18 : decode cX2_init 18 = .ok (.putfield 15, 3) := by decide +kernel
theorem dX2_init_21 : decode cX2_init 21 = .ok (.aload_n 0, 1) := by decide +kernel
theorem dX2_init_22 : decode cX2_init 22 = .ok (.new 18, 3) := by decide +kernel
theorem dX2_init_25 : decode cX2_init 25 = .ok (.dup, 1) := by decide +kernel
theorem dX2_init_26 : decode cX2_init 26 = .ok (.invokespecial 20, 3) := by decide +kernel
theorem dX2_init_29 : decode cX2_init 29 = .ok (.putfield 21, 3) := by decide +kernel
theorem dX2_init_32 : decode cX2_init 32 = .ok (.aload_n 0, 1) := by decide +kernel
theorem dX2_init_33 : decode cX2_init 33 = .ok (.aload_n 1, 1) := by decide +kernel
theorem dX2_init_34 : decode cX2_init 34 = .ok (.putfield 25, 3) := by decide +kernel
theorem dX2_init_37 : decode cX2_init 37 = .ok (.sipush 6219, 3) := by decide +kernel
theorem dX2_init_40 : decode cX2_init 40 = .ok (.newarray .int, 2) := by decide +kernel
theorem dX2_init_42 : decode cX2_init 42 = .ok (.astore_n 2, 1) := by decide +kernel
theorem dX2_init_43 : decode cX2_init 43 = .ok (.aload_n 0, 1) := by decide +kernel
theorem dX2_init_44 : decode cX2_init 44 = .ok (.aload_n 2, 1) := by decide +kernel
theorem dX2_init_45 : decode cX2_init 45 = .ok (.putfield 29, 3) := by decide +kernel
theorem dX2_init_48 : decode cX2_init 48 = .ok (.aload_n 0, 1) := by decide +kernel
theorem dX2_init_49 : decode cX2_init 49 = .ok (.new 32, 3) := by decide +kernel
theorem dX2_init_52 : decode cX2_init 52 = .ok (.dup, 1) := by decide +kernel
theorem dX2_init_53 : decode cX2_init 53 = .ok (.aload_n 1, 1) := by decide +kernel
theorem dX2_init_54 : decode cX2_init 54 = .ok (.aload_n 2, 1) := by decide +kernel
theorem dX2_init_55 : decode cX2_init 55 = .ok (.invokespecial 34, 3) := by decide +kernel
theorem dX2_init_58 : decode cX2_init 58 = .ok (.putfield 37, 3) := by decide +kernel
theorem dX2_init_61 : decode cX2_init 61 = .ok (.aload_n 0, 1) := by decide +kernel
theorem dX2_init_62 : decode cX2_init 62 = .ok (.iconst 0, 1) := by decide +kernel
theorem dX2_init_63 : decode cX2_init 63 = .ok (.putfield 41, 3) := by decide +kernel
theorem dX2_init_66 : decode cX2_init 66 = .ok (.return_, 1) := by decide +kernel
theorem dX3_init_0 : decode cX3_init 0 = .ok (.aload_n 0, 1) := by decide +kernel
theorem dX3_init_1 : decode cX3_init 1 = .ok (.invokespecial 3, 3) := by decide +kernel
theorem dX3_init_4 : decode cX3_init 4 = .ok (.aload_n 0, 1) := by decide +kernel
theorem dX3_init_5 : decode cX3_init 5 = .ok (.new 9, 3) := by decide +kernel
theorem dX3_init_8 : decode cX3_init 8 = .ok (.dup, 1) := by decide +kernel
theorem dX3_init_9 : decode cX3_init 9 = .ok (.invokespecial 11, 3) := by decide +kernel
theorem dX3_init_12 : decode cX3_init 12 = .ok (.putfield 12, 3) := by decide +kernel
theorem dX3_init_15 : decode cX3_init 15 = .ok (.aload_n 0, 1) := by decide +kernel
theorem dX3_init_16 : decode cX3_init 16 = .ok (.aload_n 1, 1) := by decide +kernel
theorem dX3_init_17 : decode cX3_init 17 = .ok (.putfield 18, 3) := by decide +kernel
theorem dX3_init_20 : decode cX3_init 20 = .ok (.sipush 2048, 3) := by decide +kernel
theorem dX3_init_23 : decode cX3_init 23 = .ok (.newarray .int, 2) := by decide +kernel
theorem dX3_init_25 : decode cX3_init 25 = .ok (.astore_n 2, 1) := by decide +kernel
theorem dX3_init_26 : decode cX3_init 26 = .ok (.aload_n 0, 1) := by decide +kernel
theorem dX3_init_27 : decode cX3_init 27 = .ok (.aload_n 2, 1) := by decide +kernel
theorem dX3_init_28 : decode cX3_init 28 = .ok (.putfield 22, 3) := by decide +kernel
theorem dX3_init_31 : decode cX3_init 31 = .ok (.aload_n 0, 1) := by decide +kernel
theorem dX3_init_32 : decode cX3_init 32 = .ok (.new 26, 3) := by decide +kernel
theorem dX3_init_35 : decode cX3_init 35 = .ok (.dup, 1) := by decide +kernel
theorem dX3_init_36 : decode cX3_init 36 = .ok (.aload_n 1, 1) := by decide +kernel
theorem dX3_init_37 : decode cX3_init 37 = .ok (.aload_n 2, 1) := by decide +kernel
theorem dX3_init_38 : decode cX3_init 38 = .ok (.invokespecial 28, 3) := by decide +kernel
theorem dX3_init_41 : decode cX3_init 41 = .ok (.putfield 31, 3) := by decide +kernel
theorem dX3_init_44 : decode cX3_init 44 = .ok (.return_, 1) := by decide +kernel
theorem dX4_init_0 : decode cX4_init 0 = .ok (.aload_n 0, 1) := by decide +kernel
theorem dX4_init_1 : decode cX4_init 1 = .ok (.invokespecial 3, 3) := by decide +kernel
theorem dX4_init_4 : decode cX4_init 4 = .ok (.aload_n 0, 1) := by decide +kernel
theorem dX4_init_5 : decode cX4_init 5 = .ok (.sipush 2048, 3) := by decide +kernel
theorem dX4_init_8 : decode cX4_init 8 = .ok (.newarray .int, 2) := by decide +kernel
theorem dX4_init_10 : decode cX4_init 10 = .ok (.putfield 9, 3) := by decide +kernel
theorem dX4_init_13 : decode cX4_init 13 = .ok (.aload_n 0, 1) := by decide +kernel
theorem dX4_init_14 : decode cX4_init 14 = .ok (.sipush 1000, 3) := by decide +kernel
theorem dX4_init_17 : decode cX4_init 17 = .ok (.newarray .int, 2) := by decide +kernel
theorem dX4_init_19 : decode cX4_init 19 = .ok (.putfield 15, 3) := by decide +kernel
theorem dX4_init_22 : decode cX4_init 22 = .ok (.return_, 1) := by decide +kernel
theorem dX5_init_0 : decode cX5_init 0 = .ok (.aload_n 0, 1) := by decide +kernel
theorem dX5_init_1 : decode cX5_init 1 = .ok (.invokespecial 3, 3) := by decide +kernel
theorem dX5_init_4 : decode cX5_init 4 = .ok (.aload_n 0, 1) := by decide +kernel
theorem dX5_init_5 : decode cX5_init 5 = .ok (.sipush 400, 3) := by decide +kernel
theorem dX5_init_8 : decode cX5_init 8 = .ok (.newarray .int, 2) := by decide +kernel
theorem dX5_init_10 : decode cX5_init 10 = .ok (.putfield 9, 3) := by decide +kernel
theorem dX5_init_13 : decode cX5_init 13 = .ok (.aload_n 0, 1) := by decide +kernel
theorem dX5_init_14 : decode cX5_init 14 = .ok (.sipush 400, 3) := by decide +kernel
theorem dX5_init_17 : decode cX5_init 17 = .ok (.newarray .int, 2) := by decide +kernel
theorem dX5_init_19 : decode cX5_init 19 = .ok (.putfield 15, 3) := by decide +kernel
theorem dX5_init_22 : decode cX5_init 22 = .ok (.aload_n 0, 1) := by decide +kernel
theorem dX5_init_23 : decode cX5_init 23 = .ok (.sipush 400, 3) := by decide +kernel
theorem dX5_init_26 : decode cX5_init 26 = .ok (.newarray .int, 2) := by decide +kernel
theorem dX5_init_28 : decode cX5_init 28 = .ok (.putfield 18, 3) := by decide +kernel
theorem dX5_init_31 : decode cX5_init 31 = .ok (.aload_n 0, 1) := by decide +kernel
theorem dX5_init_32 : decode cX5_init 32 = .ok (.new 21, 3) := by decide +kernel
theorem dX5_init_35 : decode cX5_init 35 = .ok (.dup, 1) := by decide +kernel
theorem dX5_init_36 : decode cX5_init 36 = .ok (.sipush 25600, 3) := by decide +kernel
theorem dX5_init_39 : decode cX5_init 39 = .ok (.invokespecial 23, 3) := by decide +kernel
theorem dX5_init_42 : decode cX5_init 42 = .ok (.putfield 26, 3) := by decide +kernel
theorem dX5_init_45 : decode cX5_init 45 = .ok (.return_, 1) := by decide +kernel
theorem dX6_init_0 : decode cX6_init 0 = .ok (.aload_n 0, 1) := by decide +kernel
theorem dX6_init_1 : decode cX6_init 1 = .ok (.invokespecial 3, 3) := by decide +kernel
theorem dX6_init_4 : decode cX6_init 4 = .ok (.aload_n 0, 1) := by decide +kernel
theorem dX6_init_5 : decode cX6_init 5 = .ok (.new 9, 3) := by decide +kernel
theorem dX6_init_8 : decode cX6_init 8 = .ok (.dup, 1) := by decide +kernel
theorem dX6_init_9 : decode cX6_init 9 = .ok (.sipush 8200, 3) := by decide +kernel
theorem dX6_init_12 : decode cX6_init 12 = .ok (.invokespecial 11, 3) := by decide +kernel
theorem dX6_init_15 : decode cX6_init 15 = .ok (.putfield 14, 3) := by decide +kernel
theorem dX6_init_18 : decode cX6_init 18 = .ok (.return_, 1) := by decide +kernel
theorem dX7_init_0 : decode cX7_init 0 = .ok (.aload_n 0, 1) := by decide +kernel
theorem dX7_init_1 : decode cX7_init 1 = .ok (.invokespecial 1, 3) := by decide +kernel
theorem dX7_init_4 : decode cX7_init 4 = .ok (.new 7, 3) := by decide +kernel
theorem dX7_init_7 : decode cX7_init 7 = .ok (.dup, 1) := by decide +kernel
theorem dX7_init_8 : decode cX7_init 8 = .ok (.invokespecial 9, 3) := by decide +kernel
theorem dX7_init_11 : decode cX7_init 11 = .ok (.astore_n 1, 1) := by decide +kernel
theorem dX7_init_12 : decode cX7_init 12 = .ok (.aload_n 0, 1) := by decide +kernel
theorem dX7_init_13 : decode cX7_init 13 = .ok (.new 10, 3) := by decide +kernel
theorem dX7_init_16 : decode cX7_init 16 = .ok (.dup, 1) := by decide +kernel
theorem dX7_init_17 : decode cX7_init 17 = .ok (.invokespecial 12, 3) := by decide +kernel
theorem dX7_init_20 : decode cX7_init 20 = .ok (.putfield 13, 3) := by decide +kernel
theorem dX7_init_23 : decode cX7_init 23 = .ok (.aload_n 0, 1) := by decide +kernel
theorem dX7_init_24 : decode cX7_init 24 = .ok (.aload_n 1, 1) := by decide +kernel
theorem dX7_init_25 : decode cX7_init 25 = .ok (.putfield 19, 3) := by decide +kernel
theorem dX7_init_28 : decode cX7_init 28 = .ok (.aload_n 0, 1) := by decide +kernel
theorem dX7_init_29 : decode cX7_init 29 = .ok (.new 23, 3) := by decide +kernel
theorem dX7_init_32 : decode cX7_init 32 = .ok (.dup, 1) := by decide +kernel
theorem dX7_init_33 : decode cX7_init 33 = .ok (.aload_n 1, 1) := by decide +kernel
theorem dX7_init_34 : decode cX7_init 34 = .ok (.invokespecial 25, 3) := by decide +kernel
theorem dX7_init_37 : decode cX7_init 37 = .ok (.putfield 28, 3) := by decide +kernel
theorem dX7_init_40 : decode cX7_init 40 = .ok (.aload_n 0, 1) := by decide +kernel
theorem dX7_init_41 : decode cX7_init 41 = .ok (.new 32, 3) := by decide +kernel
theorem dX7_init_44 : decode cX7_init 44 = .ok (.dup, 1) := by decide +kernel
theorem dX7_init_45 : decode cX7_init 45 = .ok (.aload_n 1, 1) := by decide +kernel
theorem dX7_init_46 : decode cX7_init 46 = .ok (.invokespecial 34, 3) := by decide +kernel
theorem dX7_init_49 : decode cX7_init 49 = .ok (.putfield 35, 3) := by decide +kernel
theorem dX7_init_52 : decode cX7_init 52 = .ok (.return_, 1) := by decide +kernel
theorem dX8_init_0 : decode cX8_init 0 = .ok (.aload_n 0, 1) := by decide +kernel
theorem dX8_init_1 : decode cX8_init 1 = .ok (.invokespecial 3, 3) := by decide +kernel
theorem dX8_init_4 : decode cX8_init 4 = .ok (.aload_n 0, 1) := by decide +kernel
theorem dX8_init_5 : decode cX8_init 5 = .ok (.sipush 400, 3) := by decide +kernel
theorem dX8_init_8 : decode cX8_init 8 = .ok (.newarray .int, 2) := by decide +kernel
theorem dX8_init_10 : decode cX8_init 10 = .ok (.putfield 9, 3) := by decide +kernel
theorem dX8_init_13 : decode cX8_init 13 = .ok (.aload_n 0, 1) := by decide +kernel
theorem dX8_init_14 : decode cX8_init 14 = .ok (.sipush 400, 3) := by decide +kernel
theorem dX8_init_17 : decode cX8_init 17 = .ok (.newarray .int, 2) := by decide +kernel
theorem dX8_init_19 : decode cX8_init 19 = .ok (.putfield 15, 3) := by decide +kernel
theorem dX8_init_22 : decode cX8_init 22 = .ok (.aload_n 0, 1) := by decide +kernel
theorem dX8_init_23 : decode cX8_init 23 = .ok (.sipush 400, 3) := by decide +kernel
theorem dX8_init_26 : decode cX8_init 26 = .ok (.newarray .int, 2) := by decide +kernel
theorem dX8_init_28 : decode cX8_init 28 = .ok (.putfield 18, 3) := by decide +kernel
theorem dX8_init_31 : decode cX8_init 31 = .ok (.aload_n 0, 1) := by decide +kernel
theorem dX8_init_32 : decode cX8_init 32 = .ok (.sipush 25600, 3) := by decide +kernel
theorem dX8_init_35 : decode cX8_init 35 = .ok (.newarray .byte, 2) := by decide +kernel
theorem dX8_init_37 : decode cX8_init 37 = .ok (.putfield 21, 3) := by decide +kernel
theorem dX8_init_40 : decode cX8_init 40 = .ok (.return_, 1) := by decide +kernel
theorem dX9_init_0 : decode cX9_init 0 = .ok (.aload_n 0, 1) := by decide +kernel
theorem dX9_init_1 : decode cX9_init 1 = .ok (.invokespecial 3, 3) := by decide +kernel
theorem dX9_init_4 : decode cX9_init 4 = .ok (.aload_n 0, 1) := by decide +kernel
theorem dX9_init_5 : decode cX9_init 5 = .ok (.bipush 32, 2) := by decide +kernel
theorem dX9_init_7 : decode cX9_init 7 = .ok (.newarray .int, 2) := by decide +kernel
theorem dX9_init_9 : decode cX9_init 9 = .ok (.putfield 9, 3) := by decide +kernel
theorem dX9_init_12 : decode cX9_init 12 = .ok (.aload_n 0, 1) := by decide +kernel
theorem dX9_init_13 : decode cX9_init 13 = .ok (.sipush 1024, 3) := by decide +kernel
theorem dX9_init_16 : decode cX9_init 16 = .ok (.newarray .int, 2) := by decide +kernel
theorem dX9_init_18 : decode cX9_init 18 = .ok (.putfield 15, 3) := by decide +kernel
theorem dX9_init_21 : decode cX9_init 21 = .ok (.aload_n 0, 1) := by decide +kernel
theorem dX9_init_22 : decode cX9_init 22 = .ok (.aload_n 1, 1) := by decide +kernel
theorem dX9_init_23 : decode cX9_init 23 = .ok (.putfield 18, 3) := by decide +kernel
theorem dX9_init_26 : decode cX9_init 26 = .ok (.return_, 1) := by decide +kernel
theorem dX10_init_0 : decode cX10_init 0 = .ok (.aload_n 0, 1) := by decide +kernel
theorem dX10_init_1 : decode cX10_init 1 = .ok (.invokespecial 1, 3) := by decide +kernel
theorem dX10_init_4 : decode cX10_init 4 = .ok (.aload_n 0, 1) := by decide +kernel
theorem dX10_init_5 : decode cX10_init 5 = .ok (.sipush 6219, 3) := by decide +kernel
theorem dX10_init_8 : decode cX10_init 8 = .ok (.newarray .int, 2) := by decide +kernel
theorem dX10_init_10 : decode cX10_init 10 = .ok (.putfield 9, 3) := by decide +kernel
theorem dX10_init_13 : decode cX10_init 13 = .ok (.aload_n 0, 1) := by decide +kernel
theorem dX10_init_14 : decode cX10_init 14 = .ok (.sipush 2048, 3) := by decide +kernel
theorem dX10_init_17 : decode cX10_init 17 = .ok (.newarray .int, 2) := by decide +kernel
theorem dX10_init_19 : decode cX10_init 19 = .ok (.putfield 13, 3) := by decide +kernel
theorem dX10_init_22 : decode cX10_init 22 = .ok (.aload_n 0, 1) := by decide +kernel
theorem dX10_init_23 : decode cX10_init 23 = .ok (.sipush 1000, 3) := by decide +kernel
theorem dX10_init_26 : decode cX10_init 26 = .ok (.newarray .int, 2) := by decide +kernel
theorem dX10_init_28 : decode cX10_init 28 = .ok (.putfield 16, 3) := by decide +kernel
theorem dX10_init_31 : decode cX10_init 31 = .ok (.aload_n 0, 1) := by decide +kernel
theorem dX10_init_32 : decode cX10_init 32 = .ok (.new 19, 3) := by decide +kernel
theorem dX10_init_35 : decode cX10_init 35 = .ok (.dup, 1) := by decide +kernel
theorem dX10_init_36 : decode cX10_init 36 = .ok (.aload_n 0, 1) := by decide +kernel
theorem dX10_init_37 : decode cX10_init 37 = .ok (.getfield 16, 3) := by decide +kernel
theorem dX10_init_40 : decode cX10_init 40 = .ok (.invokespecial 21, 3) := by decide +kernel
theorem dX10_init_43 : decode cX10_init 43 = .ok (.putfield 24, 3) := by decide +kernel
theorem dX10_init_46 : decode cX10_init 46 = .ok (.aload_n 0, 1) := by decide +kernel
theorem dX10_init_47 : decode cX10_init 47 = .ok (.new 19, 3) := by decide +kernel
theorem dX10_init_50 : decode cX10_init 50 = .ok (.dup, 1) := by decide +kernel
theorem dX10_init_51 : decode cX10_init 51 = .ok (.aload_n 0, 1) := by decide +kernel
theorem dX10_init_52 : decode cX10_init 52 = .ok (.getfield 16, 3) := by decide +kernel
theorem dX10_init_55 : decode cX10_init 55 = .ok (.invokespecial 21, 3) := by decide +kernel
theorem dX10_init_58 : decode cX10_init 58 = .ok (.putfield 28, 3) := by decide +kernel
theorem dX10_init_61 : decode cX10_init 61 = .ok (.aload_n 0, 1) := by decide +kernel
theorem dX10_init_62 : decode cX10_init 62 = .ok (.sipush 2048, 3) := by decide +kernel
theorem dX10_init_65 : decode cX10_init 65 = .ok (.newarray .int, 2) := by decide +kernel
theorem dX10_init_67 : decode cX10_init 67 = .ok (.putfield 31, 3) := by decide +kernel
theorem dX10_init_70 : decode cX10_init 70 = .ok (.aload_n 0, 1) := by decide +kernel
theorem dX10_init_71 : decode cX10_init 71 = .ok (.new 34, 3) := by decide +kernel
theorem dX10_init_74 : decode cX10_init 74 = .ok (.dup, 1) := by decide +kernel
theorem dX10_init_75 : decode cX10_init 75 = .ok (.invokespecial 36, 3) := by decide +kernel
theorem dX10_init_78 : decode cX10_init 78 = .ok (.putfield 37, 3) := by decide +kernel
theorem dX10_init_81 : decode cX10_init 81 = .ok (.aload_n 0, 1) := by decide +kernel
theorem dX10_init_82 : decode cX10_init 82 = .ok (.new 34, 3) := by decide +kernel
theorem dX10_init_85 : decode cX10_init 85 = .ok (.dup, 1) := by decide +kernel
theorem dX10_init_86 : decode cX10_init 86 = .ok (.invokespecial 36, 3) := by decide +kernel
theorem dX10_init_89 : decode cX10_init 89 = .ok (.putfield 41, 3) := by decide +kernel
theorem dX10_init_92 : decode cX10_init 92 = .ok (.aload_n 0, 1) := by decide +kernel
theorem dX10_init_93 : decode cX10_init 93 = .ok (.sipush 2048, 3) := by decide +kernel
theorem dX10_init_96 : decode cX10_init 96 = .ok (.newarray .boolean, 2) := by decide +kernel
theorem dX10_init_98 : decode cX10_init 98 = .ok (.putfield 44, 3) := by decide +kernel
theorem dX10_init_101 : decode cX10_init 101 = .ok (.aload_n 0, 1) := by decide +kernel
theorem dX10_init_102 : decode cX10_init 102 = .ok (.sipush 8200, 3) := by decide +kernel
theorem dX10_init_105 : decode cX10_init 105 = .ok (.newarray .byte, 2) := by decide +kernel
theorem dX10_init_107 : decode cX10_init 107 = .ok (.putfield 48, 3) := by decide +kernel
theorem dX10_init_110 : decode cX10_init 110 = .ok (.return_, 1) := by decide +kernel
theorem dL_law_0 : decode cL_law 0 = .ok (.new 7, 3) := by decide +kernel
theorem dL_law_3 : decode cL_law 3 = .ok (.dup, 1) := by decide +kernel
theorem dL_law_4 : decode cL_law 4 = .ok (.invokespecial 9, 3) := by decide +kernel
theorem dL_law_7 : decode cL_law 7 = .ok (.astore_n 1, 1) := by decide +kernel
theorem dL_law_8 : decode cL_law 8 = .ok (.new 10, 3) := by decide +kernel
theorem dL_law_11 : decode cL_law 11 = .ok (.dup, 1) := by decide +kernel
theorem dL_law_12 : decode cL_law 12 = .ok (.invokespecial 12, 3) := by decide +kernel
theorem dL_law_15 : decode cL_law 15 = .ok (.astore_n 2, 1) := by decide +kernel
theorem dL_law_16 : decode cL_law 16 = .ok (.iconst 0, 1) := by decide +kernel
theorem dL_law_17 : decode cL_law 17 = .ok (.istore_n 3, 1) := by decide +kernel
theorem dL_law_18 : decode cL_law 18 = .ok (.iload_n 3, 1) := by decide +kernel
theorem dL_law_19 : decode cL_law 19 = .ok (.aload_n 0, 1) := by decide +kernel
theorem dL_law_20 : decode cL_law 20 = .ok (.arraylength, 1) := by decide +kernel
theorem dL_law_21 : decode cL_law 21 = .ok (.bipush 6, 2) := by decide +kernel
theorem dL_law_23 : decode cL_law 23 = .ok (.isub, 1) := by decide +kernel
theorem dL_law_24 : decode cL_law 24 = .ok (.if_icmp .gt 674, 3) := by decide +kernel
theorem dL_law_698 : decode cL_law 698 = .ok (.iconst 1, 1) := by decide +kernel
theorem dL_law_699 : decode cL_law 699 = .ok (.ireturn, 1) := by decide +kernel
end
section
/-! worlds of this proof: a fixed list of cells; all numbers in one table 'St' (cell, slot) -/
abbrev St : Type := Nat → Nat → Int32
def st_up (S : St) (k j : Nat) (v : Int32) : St := fun q => if q = k then upd (S k) j v else S q
abbrev sh_F : Type := Option (Nat × Bool)
abbrev sh_C : Type := (Nat × Nat) ⊕ (Nat × List sh_F)
abbrev sh_T : Type := List sh_C
abbrev vD : Type := va_G × (Nat → Nat) × (Nat → ClassId) × sh_T
def adr (X : vD) (k : Nat) : Nat := X.2.1 k
def cyr (X : vD) (t : Nat) : ClassId := X.2.2.1 t
def shp (X : vD) : sh_T := X.2.2.2
def sh_v (X : vD) (x : Int32) (f : sh_F) : Value := match f with
  | none => .int x
  | some (r, false) => .ref (adr X r)
  | some (r, true) => if x = 0 then .null else .ref (adr X r)
def sh_fs (X : vD) (f : Nat → Int32) (fs : List sh_F) : List Value := fs.mapIdx (fun j t => sh_v X (f j) t)
def sh_e (X : vD) (f : Nat → Int32) (d : sh_C) : va_E := match d with
  | .inl (t, n) => .inl (cyr X t, n, .inl f)
  | .inr (ci, fs) => .inr (ci, sh_fs X f fs)
def sh_w (X : vD) (S : St) : va_W := (shp X).mapIdx (fun k d => (adr X k, sh_e X (S k) d))
def sh_A (X : vD) (sz : Nat) : Nat → Prop := fun q => (∃ k, k < (shp X).length ∧ q = adr X k) ∨ sz ≤ q
def sh_J (X : vD) : Prop := ∀ i j, i < (shp X).length → j < (shp X).length → adr X i = adr X j → i = j
def sh_N (U : State) : Prop := (∀ q ∈ tnF, va_Nw (.fieldLinkNest q.1 q.2.1 q.2.2.1 q.2.2.2.1 q.2.2.2.2.1 q.2.2.2.2.2) U) ∧ ∀ q ∈ tnM, va_Nw (.methodLinkNest q.1 q.2.1 q.2.2.1 q.2.2.2) U
def tys3 (X : vD) : List (ClassId × FieldType) := [(cyr X 0, .int), (cyr X 1, .byte), (cyr X 2, .boolean)]
def sh_K (X : vD) (U : State) : Prop := va_K X.1 cls (tys3 X) U ∧ sh_N U
theorem sh_K.warm {X : vD} {s U : State} (hW : s.WarmedH U.vm) (h : sh_K X s) : sh_K X U := ⟨va_K.moved hW.alike h.1, fun q hq => va_Nw.warmF hW (h.2.1 q hq), fun q hq => va_Nw.warmM hW (h.2.2 q hq)⟩
theorem sh_K.same {X : vD} {s U : State} (hv : s.vm = U.vm) (h : sh_K X s) : sh_K X U := ⟨va_K.moved (by rw [hv]; exact Vm.Alike.refl U.vm) h.1, fun q hq => va_Nw.same rfl hv (h.2.1 q hq), fun q hq => va_Nw.same rfl hv (h.2.2 q hq)⟩
def sh_P (X : vD) (S : St) (H : Heap) : Prop := va_P X.1 cls (sh_w X S) H
theorem sh_w_at {X : vD} {S : St} {k : Nat} {d : sh_C} (h : (shp X)[k]? = some d) : (sh_w X S)[k]? = some (adr X k, sh_e X (S k) d) := by
  unfold sh_w
  rw [List.getElem?_mapIdx, h]
  rfl
theorem sh_w_some {X : vD} {S : St} {k : Nat} {q : Nat × va_E} (h : (sh_w X S)[k]? = some q) : ∃ d, (shp X)[k]? = some d ∧ q = (adr X k, sh_e X (S k) d) := by
  unfold sh_w at h
  rw [List.getElem?_mapIdx] at h
  cases hd : (shp X)[k]? with
  | none => rw [hd] at h; cases h
  | some d => rw [hd] at h; exact ⟨d, rfl, (Option.some.inj h).symm⟩
theorem sh_lt {X : vD} {k : Nat} {d : sh_C} (h : (shp X)[k]? = some d) : k < (shp X).length := (List.getElem?_eq_some_iff.mp h).1
theorem sh_D {X : vD} (hJ : sh_J X) (S : St) (sz : Nat) : va_D (sh_A X sz) (sh_w X S) := by
  refine ⟨fun i j x y hi hj hxy => ?_, fun k q hk => ?_⟩
  · obtain ⟨d1, h1, rfl⟩ := sh_w_some hi
    obtain ⟨d2, h2, rfl⟩ := sh_w_some hj
    exact hJ i j (sh_lt h1) (sh_lt h2) hxy
  · obtain ⟨d1, h1, rfl⟩ := sh_w_some hk
    exact Or.inl ⟨k, sh_lt h1, rfl⟩
theorem st_self (S : St) (k j : Nat) (v : Int32) : st_up S k j v k = upd (S k) j v := if_pos rfl
theorem st_other (S : St) {k q : Nat} (j : Nat) (v : Int32) (h : q ≠ k) : st_up S k j v q = S q := if_neg h
theorem sh_set {X : vD} {S : St} {k : Nat} {d : sh_C} (h : (shp X)[k]? = some d) (j : Nat) (v : Int32) : (sh_w X S).set k (adr X k, sh_e X (upd (S k) j v) d) = sh_w X (st_up S k j v) := by
  apply List.ext_getElem?
  intro i
  by_cases hi : i = k
  · subst hi
    rw [List.getElem?_set_self (by unfold sh_w; rw [List.length_mapIdx]; exact sh_lt h), sh_w_at h, st_self]
  · rw [List.getElem?_set_ne (Ne.symm hi)]
    unfold sh_w
    rw [List.getElem?_mapIdx, List.getElem?_mapIdx, st_other _ _ _ hi]
theorem sh_fs_at {X : vD} {f : Nat → Int32} {fs : List sh_F} {j : Nat} {t : sh_F} (h : fs[j]? = some t) : (sh_fs X f fs)[j]? = some (sh_v X (f j) t) := by
  unfold sh_fs
  rw [List.getElem?_mapIdx, h]
  rfl
theorem sh_fs_set {X : vD} {f : Nat → Int32} {fs : List sh_F} {j : Nat} {t : sh_F} (h : fs[j]? = some t) (v : Int32) : (sh_fs X f fs).set j (sh_v X v t) = sh_fs X (upd f j v) fs := by
  have hl := (List.getElem?_eq_some_iff.mp h).1
  apply List.ext_getElem?
  intro i
  by_cases hi : i = j
  · subst hi
    rw [List.getElem?_set_self (by unfold sh_fs; rw [List.length_mapIdx]; exact hl), sh_fs_at h]
    simp [upd]
  · rw [List.getElem?_set_ne (Ne.symm hi)]
    unfold sh_fs
    rw [List.getElem?_mapIdx, List.getElem?_mapIdx]
    simp [upd, hi]
theorem sh_fs_len {X : vD} {f : Nat → Int32} {fs : List sh_F} : (sh_fs X f fs).length = fs.length := by unfold sh_fs; rw [List.length_mapIdx]
/-! the end of a method, its contract -/
def vQ (X : vD) (sz : Nat) (K : Option Value × St) : Array Value → State → Outcome → State → Prop := fun _ st oc t => oc = .returned K.1 ∧ sh_P X K.2 t.heap ∧ va_F (sh_A X sz) st t
def vP (X : vD) (sz : Nat) (As : List Value) (S : St) : Array Value → State → Prop := va_Pc As (fun U => U.heap.size = sz ∧ sh_P X S U.heap ∧ sh_K X U)
def uw (y : MethodName) (cc : ByteArray) (n : Nat) (ret : Option FieldType) : List Cond := .code y cc n ret :: tw
def rmd (d : Nat) : Room := { frames := d, cells := 0, slots := 0, locals := 36 * d }
def Con (l : Launch) (X : vD) (y : MethodName) (cc : ByteArray) (n : Nat) (ret : Option FieldType) (d : Nat) (As : List Value) (S : St) (K : Option Value × St) : Prop :=
  ∀ sz : Nat, Met l y (uw y cc n ret) (rmd d) (vP X sz As S) (vQ X sz K) 0 0 (sh_A X sz)
def vG (p : Program) (s : State) (m : MethodId) (args : Array Value) (meth : Method) (c : Code) (X : vD) (sh0 : sh_T) (own : String) (cc : ByteArray) (nL : Nat) (ret : Option FieldType) : Prop :=
  p.tables.exec = Jvm.exec ∧ c.code = cc ∧ c.maxLocals = nL ∧ s.vm.findClass own = some m.cls ∧ (∀ w ∈ tw, w.before args s = true) ∧ sh_K X s ∧ sh_J X ∧ shp X = sh0 ∧ meth.sig.returnType = ret ∧ meth.locks = false
def V {τ : Type} (p : Program) (l : Launch) (e : Env) (d : Nat) (s : State) (m : MethodId) (args : Array Value) (below : List Frame) (meth : Method) (c : Code) (X : vD) (nL : Nat) (ρ : τ → Option Value × St) (S : St) (pc : Nat) (lv : List (Nat × Value)) (st : List Value) (K : τ) : Prop :=
  ∀ (H : Heap) (locs : List Loc) (ls : Array Slot), sh_P X S H → va_S (sh_A X s.heap.size) s.heap H locs → lv_has ls nL lv → W p l e (rmd d) s m args below meth c H locs 0 0 (MQ below (vQ X s.heap.size (ρ K)) args s 0 0 (sh_A X s.heap.size)) (F0 m pc ls st)
theorem lw_good : tw.all goodWord = true := List.all_eq_true.mpr (fun w h => (List.mem_filter.mp h).2)
theorem lw_goodAll : ∀ w ∈ tw, ((w.onTables && w.keeps) = true ∨ ∃ ty, w = .arrayClass ty) := fun w h => good_of_word (List.all_eq_true.mp lw_good w h)
theorem uw_good {y y' : MethodName} {cc cc' : ByteArray} {n n' : Nat} {ret ret' : Option FieldType} (h : Cond.code y' cc' n' ret' ∈ tw) : GoodIn (uw y cc n ret) (uw y' cc' n' ret') := by
  intro w hw
  rcases List.mem_cons.mp hw with rfl | hw
  · exact ⟨List.mem_cons_of_mem _ h, lw_goodAll _ h⟩
  · exact ⟨List.mem_cons_of_mem _ hw, lw_goodAll _ hw⟩
theorem lw_goodIn {y' : MethodName} {cc' : ByteArray} {n' : Nat} {ret' : Option FieldType} (h : Cond.code y' cc' n' ret' ∈ tw) : GoodIn tw (uw y' cc' n' ret') := by
  intro w hw
  rcases List.mem_cons.mp hw with rfl | hw
  · exact ⟨h, lw_goodAll _ h⟩
  · exact ⟨hw, lw_goodAll _ hw⟩
/-- a contract out of a walk -/
theorem con_of {l : Launch} {X : vD} {sh0 : sh_T} {y : MethodName} {cc : ByteArray} {n : Nat} {ret : Option FieldType} {d : Nat} {As : List Value} {S : St} {τ : Type} {ρ : τ → Option Value × St} {K : τ} (hJ : sh_J X) (hsh : shp X = sh0) (hy : plainName y.cls = true) (hn : (lg_sl As).length ≤ n) {lv : List (Nat × Value)} (hlv : lv_args 0 As = lv)
    (body : ∀ (p : Program) (e : Env) (s : State) (m : MethodId) (below : List Frame) (meth : Method) (c : Code), vG p s m As.toArray meth c X sh0 y.cls cc n ret → V p l e d s m As.toArray below meth c X n ρ S 0 lv [] K) : Con l X y cc n ret d As S (ρ K) := by
  intro sz
  refine Met.ofW (cc := cc) (maxL := n) (ret := ret) hy rfl ?_
  intro p e s m args below meth c s₁ B hml hv
  obtain ⟨rfl, hsz, hP, hK⟩ := hv
  subst hsz
  have hts := atoms_spec (ws := uw y cc n ret) B.pre
  have G : vG p s m As.toArray meth c X sh0 y.cls cc n ret := ⟨B.exec, B.bytes, hml, findClass_of_methodNamed B.named, fun w h => hts w (List.mem_cons_of_mem _ h), hK, hJ, hsh, B.returns, B.notSynchronized⟩
  have hl := lv_entry As (n := n) hn
  rw [hlv] at hl
  rw [lg_entry_eq]
  exact body p e s m below meth c G s.heap [] _ hP va_S.rf hl
end
section
/-! constructors: a world that grows -/
def kK (D : va_G) (cy : Nat → ClassId) (U : State) : Prop := sh_K (D, (fun _ => 0), cy, []) U
def uG (p : Program) (s : State) (m : MethodId) (args : Array Value) (meth : Method) (c : Code) (D : va_G) (cy : Nat → ClassId) (A : Nat → Prop) (own : String) (cc : ByteArray) (nL : Nat) : Prop :=
  p.tables.exec = Jvm.exec ∧ c.code = cc ∧ c.maxLocals = nL ∧ s.vm.findClass own = some m.cls ∧ (∀ w ∈ tw, w.before args s = true) ∧ kK D cy s ∧ (∀ q, s.heap.size ≤ q → A q) ∧ meth.sig.returnType = none ∧ meth.locks = false ∧ meth.name = "<init>"
def U (p : Program) (l : Launch) (e : Env) (R : Room) (s : State) (m : MethodId) (args : Array Value) (below : List Frame) (meth : Method) (c : Code) (D : va_G) (A : Nat → Prop) (nL : Nat) (Q : State → Prop) (ws : va_W) (cells slots : Nat) (pc : Nat) (lv : List (Nat × Value)) (st : List Value) : Prop :=
  ∀ (H : Heap) (locs : List Loc) (ls : Array Slot), va_P D cls ws H → va_D A ws → va_S A s.heap H locs → lv_has ls nL lv → W p l e R s m args below meth c H locs cells slots Q (F0 m pc ls st)
/-- a constructor's contract: out of its own blank cell (h0, e0) it makes the cells 'post ad', ad 0 its own -/
def ConI (l : Launch) (D : va_G) (cy : Nat → ClassId) (y : MethodName) (cc : ByteArray) (n : Nat) (rm : Room) (h0 : Nat) (e0 : va_E) (As : List Value) (post : (Nat → Nat) → va_W) : Prop :=
  ∀ sz : Nat, Met l y (uw y cc n none) rm (va_Pc (.ref h0 :: As) (fun U => U.heap.size = sz ∧ va_P D cls [(h0, e0)] U.heap ∧ kK D cy U)) (va_Qv (fun ad : Nat → Nat => ad 0 = h0) (fun ad t => va_P D cls (post ad) t.heap ∧ va_D (va_A [(h0, e0)] sz) (post ad)) (va_A [(h0, e0)] sz)) rm.cells rm.slots (va_A [(h0, e0)] sz)
def rmi (d cells slots : Nat) : Room := { frames := d, cells := cells, slots := slots, locals := 36 * d }
theorem va_D1 {A : Nat → Prop} {a : Nat} {e : va_E} (h : A a) : va_D A [(a, e)] := by
  refine ⟨fun i j x y hi hj _ => ?_, fun k q hk => ?_⟩
  · have h1 := (List.getElem?_eq_some_iff.mp hi).1
    have h2 := (List.getElem?_eq_some_iff.mp hj).1
    simp at h1 h2
    omega
  · have h1 := (List.getElem?_eq_some_iff.mp hk).1
    have h2 : k = 0 := by simp at h1; omega
    subst h2
    cases hk
    exact h
section UROWS
variable {p : Program} {l : Launch} {e : Env} {R : Room} {s : State} {m : MethodId} {args : Array Value} {below : List Frame} {meth : Method} {c : Code} {D : va_G} {cy : Nat → ClassId} {A : Nat → Prop} {own : String} {cc : ByteArray} {nL : Nat} {Q : State → Prop} {ws : va_W} {cells slots pc : Nat} {lv : List (Nat × Value)} {st : List Value}
theorem u_aload_n (G : uG p s m args meth c D cy A own cc nL) (q : Nat) {i : Fin 4} {x : Nat} (hd : decode cc pc = .ok (.aload_n i, 1)) (hk : lv[q]? = some ((i : Nat), .ref x)) (k : U p l e R s m args below meth c D A nL Q ws cells slots (pc + 1) lv (.ref x :: st)) : U p l e R s m args below meth c D A nL Q ws cells slots pc lv st := fun H locs ls hP hD hS hl => lv_aload_n G.1 G.2.1 hd rfl (lv_at hl q hk) (k H locs ls hP hD hS hl)
theorem u_astore_n (G : uG p s m args meth c D cy A own cc nL) {i : Fin 4} {x : Nat} (lv' : List (Nat × Value)) (hd : decode cc pc = .ok (.astore_n i, 1)) (hn : (i : Nat) < nL) (he : ((i : Nat), Value.ref x) :: lv.filter (fun q => !(q.1 == (i : Nat)) && !(q.1 + 1 == (i : Nat) && q.2.category == 2)) = lv') (k : U p l e R s m args below meth c D A nL Q ws cells slots (pc + 1) lv' st) : U p l e R s m args below meth c D A nL Q ws cells slots pc lv (.ref x :: st) := fun H locs ls hP hD hS hl => lv_astore_n G.1 G.2.1 hd rfl hl hn he (fun ls' hl' => k H locs ls' hP hD hS hl')
theorem u_iload_n (G : uG p s m args meth c D cy A own cc nL) (q : Nat) {i : Fin 4} {x : Int32} (hd : decode cc pc = .ok (.iload_n i, 1)) (hk : lv[q]? = some ((i : Nat), .int x)) (k : U p l e R s m args below meth c D A nL Q ws cells slots (pc + 1) lv (.int x :: st)) : U p l e R s m args below meth c D A nL Q ws cells slots pc lv st := fun H locs ls hP hD hS hl => lv_iload_n G.1 G.2.1 hd rfl (lv_at hl q hk) (k H locs ls hP hD hS hl)
theorem u_iconst (G : uG p s m args meth c D cy A own cc nL) {n : Int} {v : Int32} (hd : decode cc pc = .ok (.iconst n, 1)) (hv : Int32.ofInt n = v) (k : U p l e R s m args below meth c D A nL Q ws cells slots (pc + 1) lv (.int v :: st)) : U p l e R s m args below meth c D A nL Q ws cells slots pc lv st := fun H locs ls hP hD hS hl => lv_iconst G.1 G.2.1 hd hv (k H locs ls hP hD hS hl)
theorem u_bipush (G : uG p s m args meth c D cy A own cc nL) {n : Int} {v : Int32} (hd : decode cc pc = .ok (.bipush n, 2)) (hv : (Int8.ofInt n).toInt32 = v) (k : U p l e R s m args below meth c D A nL Q ws cells slots (pc + 2) lv (.int v :: st)) : U p l e R s m args below meth c D A nL Q ws cells slots pc lv st := fun H locs ls hP hD hS hl => lv_bipush G.1 G.2.1 hd hv (k H locs ls hP hD hS hl)
theorem u_sipush (G : uG p s m args meth c D cy A own cc nL) {n : Int} {v : Int32} (hd : decode cc pc = .ok (.sipush n, 3)) (hv : (Int16.ofInt n).toInt32 = v) (k : U p l e R s m args below meth c D A nL Q ws cells slots (pc + 3) lv (.int v :: st)) : U p l e R s m args below meth c D A nL Q ws cells slots pc lv st := fun H locs ls hP hD hS hl => lv_sipush G.1 G.2.1 hd hv (k H locs ls hP hD hS hl)
theorem u_iadd (G : uG p s m args meth c D cy A own cc nL) {x y v : Int32} (hd : decode cc pc = .ok (.iadd, 1)) (hv : x + y = v) (k : U p l e R s m args below meth c D A nL Q ws cells slots (pc + 1) lv (.int v :: st)) : U p l e R s m args below meth c D A nL Q ws cells slots pc lv (.int y :: .int x :: st) := fun H locs ls hP hD hS hl => lv_iadd G.1 G.2.1 hd (by rw [hv]; exact k H locs ls hP hD hS hl)
theorem u_idiv (G : uG p s m args meth c D cy A own cc nL) {x y v : Int32} (hd : decode cc pc = .ok (.idiv, 1)) (hne : ¬ y = 0) (hv : x / y = v) (k : U p l e R s m args below meth c D A nL Q ws cells slots (pc + 1) lv (.int v :: st)) : U p l e R s m args below meth c D A nL Q ws cells slots pc lv (.int y :: .int x :: st) := fun H locs ls hP hD hS hl => lv_idiv G.1 G.2.1 hd hne (by rw [hv]; exact k H locs ls hP hD hS hl)
theorem u_if_le (G : uG p s m args meth c D cy A own cc nL) {x : Int32} {off : Int} {tgt : Nat} (hd : decode cc pc = .ok (.ifCond .le off, 3)) (ht : (pc : Int) + off = (tgt : Int)) (h0 : 0 < x) (k : U p l e R s m args below meth c D A nL Q ws cells slots (pc + 3) lv st) : U p l e R s m args below meth c D A nL Q ws cells slots pc lv (.int x :: st) := fun H locs ls hP hD hS hl => lv_if_le G.1 G.2.1 hd ht (fun h => absurd h (Int32.not_le.mpr h0)) (fun _ => k H locs ls hP hD hS hl)
theorem u_goto (G : uG p s m args meth c D cy A own cc nL) {off : Int} {tgt : Nat} (hd : decode cc pc = .ok (.goto off, 3)) (ht : (pc : Int) + off = (tgt : Int)) (k : U p l e R s m args below meth c D A nL Q ws cells slots tgt lv st) : U p l e R s m args below meth c D A nL Q ws cells slots pc lv st := fun H locs ls hP hD hS hl => lv_goto G.1 G.2.1 hd ht (k H locs ls hP hD hS hl)
theorem u_dup (G : uG p s m args meth c D cy A own cc nL) {a : Value} (hd : decode cc pc = .ok (.dup, 1)) (ha : a.category = 1) (k : U p l e R s m args below meth c D A nL Q ws cells slots (pc + 1) lv (a :: a :: st)) : U p l e R s m args below meth c D A nL Q ws cells slots pc lv (a :: st) := fun H locs ls hP hD hS hl => lv_dup G.1 G.2.1 hd ha (k H locs ls hP hD hS hl)
theorem u_objInit (G : uG p s m args meth c D cy A own cc nL) {i a : Nat} (hd : decode cc pc = .ok (.invokespecial i, 3)) (w1 : Cond.methodLink own i objectInit ∈ tw) (w2 : Cond.instanceMethod objectInit ∈ tw) (w3 : Cond.code objectInit ⟨#[0xb1]⟩ 1 none ∈ tw) (hf : 1 ≤ R.frames) (hr : (st.map fun v => v.category).sum + 12 ≤ R.locals) (k : U p l e R s m args below meth c D A nL Q ws cells slots (pc + 3) lv st) : U p l e R s m args below meth c D A nL Q ws cells slots pc lv (.ref a :: st) := by
  intro H locs ls hP hD hS hl
  refine W.objInit G.1 G.2.1 G.2.2.2.1 (G.2.2.2.2.1 _ w1) (G.2.2.2.2.1 _ w2) (G.2.2.2.2.1 _ w3) rfl (by rw [G.2.2.1]; exact hl.1) rfl hd hf (by show 2 * 0 + _ + 12 ≤ _; omega) ?_
  exact k H locs ls hP hD hS hl
theorem kK_arr {t : Nat} {ty : FieldType} (hK : kK D cy s) (ht : ([(cy 0, .int), (cy 1, .byte), (cy 2, .boolean)] : List (ClassId × FieldType))[t]? = some (cy t, ty)) : va_RA s (cy t) ty := (hK.1.2 t _ ht).2
theorem u_newa (G : uG p s m args meth c D cy A own cc nL) (t : Nat) {ty : FieldType} {atype : ArrayType} {n : Int32} {N : Nat} (hd : decode cc pc = .ok (.newarray atype, 2)) (hty : newarray.typeOf atype = ty) (ht : ([(cy 0, .int), (cy 1, .byte), (cy 2, .boolean)] : List (ClassId × FieldType))[t]? = some (cy t, ty)) (hnm : ∀ cA, va_RA s cA ty → s.vm.findClass ("[" ++ ty.toString) = some cA) (w : Cond.arrayClass ty ∈ tw) (ha : ∀ cA : ClassId, vp_cell cA (N, .inl (fun _ => 0)) = arrV cA N (fun _ => defaultValue ty)) (hn : ¬ n < 0) (hN : n.toNatClampNeg = N) (hb : N * componentBytes ty ≤ 536870912) (hc : cells + 1 ≤ R.cells) (hs : slots + N ≤ R.slots)
    (k : ∀ q : Nat, U p l e R s m args below meth c D A nL Q (ws ++ [(q, .inl (cy t, N, .inl (fun _ => 0)))]) (cells + 1) (slots + N) (pc + 2) lv (.ref q :: st)) : U p l e R s m args below meth c D A nL Q ws cells slots pc lv (.int n :: st) := by
  intro H locs ls hP hD hS hl
  refine va_newa (D := D) (tys := [(cy 0, .int), (cy 1, .byte), (cy 2, .boolean)]) G.1 G.2.1 (by rw [hty]; exact G.2.2.2.2.1 _ w) hty G.2.2.2.2.2.1.1 hP hD hS G.2.2.2.2.2.2.1 ha hn hN hb hc hs hd (fun q cA H1 hK1 hP1 hD1 hS1 => ?_)
  have e1 := hnm cA (hK1.2 3 (cA, ty) rfl).2
  have e2 := hnm (cy t) (kK_arr G.2.2.2.2.2.1 ht)
  have e3 : cA = cy t := Option.some.inj (e1.symm.trans e2)
  subst e3
  exact k q H1 locs ls hP1 hD1 hS1 hl
theorem u_new (G : uG p s m args meth c D cy A own cc nL) {C : String} {T : u_T} {N ci i : Nat} {ty : Nat → FieldType} (fs : List Value) (hd : decode cc pc = .ok (.new i, 3)) (hin : ∀ w ∈ u_ws C T N, w ∈ tw) (hty : ∀ k, k < N → parseFieldDescriptor (T k).2.2.1 = some (ty k)) (w1 : Cond.classLink own i C ∈ tw) (w2 : Cond.instantiable C N ∈ tw) (w3 : Cond.initialized C ∈ tw) (hc : cls[ci]? = some (C, T, N)) (hfs : ∀ j, j < N → defaultValue (ty j) = vp_V fs j) (hcc : cells + 1 ≤ R.cells) (hss : slots + N ≤ R.slots)
    (k : ∀ q : Nat, U p l e R s m args below meth c D A nL Q (ws ++ [(q, .inr (ci, fs))]) (cells + 1) (slots + N) (pc + 3) lv (.ref q :: st)) : U p l e R s m args below meth c D A nL Q ws cells slots pc lv st := by
  intro H locs ls hP hD hS hl
  exact va_new G.1 G.2.1 G.2.2.2.2.1 hin ty hty G.2.2.2.1 (G.2.2.2.2.1 _ w1) (G.2.2.2.2.1 _ w2) (G.2.2.2.2.1 _ w3) G.2.2.2.2.2.1.1 hP hD hS G.2.2.2.2.2.2.1 hc hfs hcc hss hd (fun q H1 hP1 hD1 hS1 => k q H1 locs ls hP1 hD1 hS1 hl)
theorem u_putF (G : uG p s m args meth c D cy A own cc nL) {C : String} {T : u_T} {N ci i a : Nat} {ty0 : Nat → FieldType} {fs : List Value} {v : Value} (kq j : Nat) (ws' : va_W) (hd : decode cc pc = .ok (.putfield i, 3)) (hin : ∀ w ∈ u_ws C T N, w ∈ tw) (hty : ∀ k, k < N → parseFieldDescriptor (T k).2.2.1 = some (ty0 k)) (hnm : ∀ a, a < N → ∀ b, b < N → a ≠ b → (T a).2.1 ≠ (T b).2.1) (he : ws[kq]? = some (a, .inr (ci, fs))) (hc : cls[ci]? = some (C, T, N)) (hj : j < N) (w : Cond.fieldLink own i (T j).1 (T j).2.1 (T j).2.2.1 ∈ tw) (hfin : (T j).2.2.2 = true) (hdecl : (T j).1 = own) (hn : narrow (ty0 j) v = v) (hfit : fits (ty0 j) v = true) (hl0 : j < fs.length) (hw : ws.set kq (a, .inr (ci, fs.set j v)) = ws')
    (k : U p l e R s m args below meth c D A nL Q ws' cells slots (pc + 3) lv st) : U p l e R s m args below meth c D A nL Q ws cells slots pc lv (v :: .ref a :: st) := by
  intro H locs ls hP hD hS hl
  refine va_putF (D := D) (ty := ty0 j) G.1 G.2.1 G.2.2.2.2.1 hin ty0 hty hnm G.2.2.2.1 G.2.2.2.2.2.1.1 hP hD hS kq he hc j hj (G.2.2.2.2.1 _ w) (fun _ h9 => h9) hfin G.2.2.2.2.2.2.2.2.2 hdecl (hty j hj) hn hfit hl0 hd (fun H1 locs1 hP1 hD1 hS1 => ?_)
  rw [hw] at hP1 hD1
  exact k H1 locs1 ls hP1 hD1 hS1 hl
theorem u_put (G : uG p s m args meth c D cy A own cc nL) {C : String} {T : u_T} {N ci i a : Nat} {ty0 : Nat → FieldType} {fs : List Value} {v : Value} (kq j : Nat) (ws' : va_W) (hd : decode cc pc = .ok (.putfield i, 3)) (hin : ∀ w ∈ u_ws C T N, w ∈ tw) (hty : ∀ k, k < N → parseFieldDescriptor (T k).2.2.1 = some (ty0 k)) (hnm : ∀ a, a < N → ∀ b, b < N → a ≠ b → (T a).2.1 ≠ (T b).2.1) (he : ws[kq]? = some (a, .inr (ci, fs))) (hc : cls[ci]? = some (C, T, N)) (hj : j < N) (w : Cond.fieldLink own i (T j).1 (T j).2.1 (T j).2.2.1 ∈ tw) (hfin : (T j).2.2.2 = false) (hn : narrow (ty0 j) v = v) (hfit : fits (ty0 j) v = true) (hl0 : j < fs.length) (hw : ws.set kq (a, .inr (ci, fs.set j v)) = ws')
    (k : U p l e R s m args below meth c D A nL Q ws' cells slots (pc + 3) lv st) : U p l e R s m args below meth c D A nL Q ws cells slots pc lv (v :: .ref a :: st) := by
  intro H locs ls hP hD hS hl
  refine va_put (D := D) (ty := ty0 j) G.1 G.2.1 G.2.2.2.2.1 hin ty0 hty hnm G.2.2.2.1 G.2.2.2.2.2.1.1 hP hD hS kq he hc j hj (G.2.2.2.2.1 _ w) (fun _ h9 => h9) hfin (hty j hj) hn hfit hl0 hd (fun H1 locs1 hP1 hD1 hS1 => ?_)
  rw [hw] at hP1 hD1
  exact k H1 locs1 ls hP1 hD1 hS1 hl
theorem u_get (G : uG p s m args meth c D cy A own cc nL) {C : String} {T : u_T} {N ci i a : Nat} {fs : List Value} {v : Value} (kq j : Nat) (hd : decode cc pc = .ok (.getfield i, 3)) (hin : ∀ w ∈ u_ws C T N, w ∈ tw) (he : ws[kq]? = some (a, .inr (ci, fs))) (hc : cls[ci]? = some (C, T, N)) (hj : j < N) (w : Cond.fieldLink own i (T j).1 (T j).2.1 (T j).2.2.1 ∈ tw) (hv : fs[j]? = some v)
    (k : U p l e R s m args below meth c D A nL Q ws cells slots (pc + 3) lv (v :: st)) : U p l e R s m args below meth c D A nL Q ws cells slots pc lv (.ref a :: st) := by
  intro H locs ls hP hD hS hl
  exact va_get (D := D) G.1 G.2.1 G.2.2.2.2.1 hin G.2.2.2.1 G.2.2.2.2.2.1.1 hP kq he hc j hj (G.2.2.2.2.1 _ w) (fun _ h9 => h9) hv hd (k H locs ls hP hD hS hl)
theorem u_vret {h0 sz : Nat} {e0 : va_E} {post : (Nat → Nat) → va_W} (G : uG p s m args meth c D cy (va_A [(h0, e0)] s.heap.size) own cc nL) (ad : Nat → Nat) (hd : decode cc pc = .ok (.return_, 1)) (h0' : ad 0 = h0) (is : List Nat) (hn : va_nd is = true) (h1 : is.filterMap (fun i => ws[i]?) = post ad) (h2 : is.map (fun i => ws[i]?) = (post ad).map some) : U p l e R s m args below meth c D (va_A [(h0, e0)] s.heap.size) nL (MQ below (va_Qv (fun ad : Nat → Nat => ad 0 = h0) (fun ad t => va_P D cls (post ad) t.heap ∧ va_D (va_A [(h0, e0)] s.heap.size) (post ad)) (va_A [(h0, e0)] s.heap.size)) args s cells slots (va_A [(h0, e0)] s.heap.size)) ws cells slots pc lv [] := by
  intro H locs ls hP hD hS hl
  have hlk : meth.locks = false := G.2.2.2.2.2.2.2.2.1
  exact W.vret G.1 G.2.1 G.2.2.2.2.2.2.2.1 (fun t ht hW => ⟨⟨ad, rfl, h0', by rw [ht]; exact hP.sub is h1, hD.sub is hn h2⟩, hS.F ht⟩) hS.2.2 hd
theorem u_back {y : MethodName} {cc' : ByteArray} {n' : Nat} {rm : Room} {q kq : Nat} {e0 : va_E} {As : List Value} {post : (Nat → Nat) → va_W} {H : Heap} {locs : List Loc} {ls : Array Slot} {a : Array Value} {st0 : List Value} (G : uG p s m args meth c D cy A own cc nL) (hr : va_Run p l e R s m args below meth c H locs cells slots rm.cells rm.slots (F0 m pc ls st0) st (va_Qv (fun ad : Nat → Nat => ad 0 = q) (fun ad t => va_P D cls (post ad) t.heap ∧ va_D (va_A [(q, e0)] H.size) (post ad)) (va_A [(q, e0)] H.size) a) (va_A [(q, e0)] H.size)) (hP : va_P D cls ws H) (hD : va_D A ws) (hS : va_S A s.heap H locs) (hl : lv_has ls nL lv) (hq : [kq].map (fun i => ws[i]?) = [(q, e0)].map some) (isR : List Nat) (wr : va_W) (hR : isR.map (fun i => ws[i]?) = wr.map some) (hn : va_nd isR = true) (hdis : ∀ i ∈ isR, i ∉ [kq])
    (kk : ∀ ad : Nat → Nat, ad 0 = q → U p l e R s m args below meth c D A nL Q (wr ++ post ad) (cells + rm.cells) (slots + rm.slots) (pc + 3) lv st) : W p l e R s m args below meth c H locs cells slots Q (F0 m pc ls st0) := by
  have hFc := va_free (wc := [(q, e0)]) hD hS G.2.2.2.2.2.2.1 [kq] hq
  refine va_callv hr hS (fun x _ h => hFc x h) hFc (fun u t H1 locs1 ht hvm hw hB hz1 hk1 hS1 => ?_)
  obtain ⟨hP1, hD1⟩ := hB
  rw [ht] at hP1
  obtain ⟨hP2, hD2⟩ := va_join (wr := wr) (w1 := post u) hP hD [kq] isR hq hR hn hdis hk1 hFc hP1 hD1
  exact kk u hw H1 locs1 ls hP2 hD2 hS1 hl
theorem cI_blind (D : va_G) (cy : Nat → ClassId) (sz : Nat) (As : List Value) (w : va_W) : FrameBlind (va_Pc As (fun U => U.heap.size = sz ∧ va_P D cls w U.heap ∧ kK D cy U)) := fun a U g mk q => by
  obtain ⟨q0, q1, qP, qK⟩ := q
  exact ⟨q0, q1, qP, sh_K.same (s := U) rfl qK⟩
theorem u_callI {y : MethodName} {cc' : ByteArray} {n' i : Nat} {rm : Room} {q kq : Nat} {e0 : va_E} {As st0 : List Value} {post : (Nat → Nat) → va_W} (G : uG p s m args meth c D cy A own cc nL) (hC : ConI l D cy y cc' n' rm q e0 As post) (hq : [kq].map (fun i => ws[i]?) = [(q, e0)].map some) (isR : List Nat) (wr : va_W) (hR : isR.map (fun i => ws[i]?) = wr.map some) (hn : va_nd isR = true) (hdis : ∀ i ∈ isR, i ∉ [kq]) (w1 : Cond.methodLink own i y ∈ tw) (w2 : Cond.instanceMethod y ∈ tw) (w4 : Cond.initialized y.cls ∈ tw) (w5 : Cond.code y cc' n' none ∈ tw) (hy1 : y.name = "<init>")
    (hy : y.cls ≠ "java/lang/invoke/MethodHandle" ∧ y.cls ≠ "java/lang/invoke/VarHandle" ∧ (parseMethodDescriptor y.desc).map (fun d => d.parameters.length) = some As.length) (hRm : rm.frames + 1 ≤ R.frames ∧ 8 + (n' + 11) + rm.locals ≤ R.locals) (hst : st0 = As.reverse ++ .ref q :: st) (hrm : (st.map fun v => v.category).sum ≤ 8) (hd : decode cc pc = .ok (.invokespecial i, 3)) (hcs : cells + rm.cells ≤ R.cells ∧ slots + rm.slots ≤ R.slots)
    (kk : ∀ ad : Nat → Nat, ad 0 = q → U p l e R s m args below meth c D A nL Q (wr ++ post ad) (cells + rm.cells) (slots + rm.slots) (pc + 3) lv st) : U p l e R s m args below meth c D A nL Q ws cells slots pc lv st0 := by
  intro H locs ls hP hD hS hl
  obtain ⟨g1, g2, g3, g4, g5, g6, g7, g8, g9, g10⟩ := id G
  have hPc : va_P D cls [(q, e0)] H := hP.sub [kq] (by have h := hq; simp only [List.map_cons, List.map_nil, List.cons.injEq, and_true] at h; simp [h])
  have cb : CallB R s args own i y cc' n' none (uw y cc' n' none) rm rm.cells rm.slots As.length := callB_of As.length g5 (lw_goodIn w5) rfl rfl rfl (g5 _ w4) (g5 _ w1) hy hRm
  have hp : PreS s H (va_Pc (.ref q :: As) (fun U => U.heap.size = H.size ∧ va_P D cls [(q, e0)] U.heap ∧ kK D cy U)) (.ref q :: As) := ⟨cI_blind _ _ _ _ _, fun U hU hW => ⟨rfl, by rw [hU], by rw [hU]; exact hPc, sh_K.warm hW g6⟩⟩
  exact u_back (kq := kq) G (va_runI (As := As) (rest := st) ⟨g1, g2, g3, g4, g5⟩ (hC H.size) ⟨cb, hy1, g5 _ w2⟩ hp rfl rfl hl.1 hst (lv_room hrm) hd hcs) hP hD hS hl hq isR wr hR hn hdis kk (cc' := cc') (y := y) (n' := n') (As := As)
theorem u_callN {y : MethodName} {host : String} {cc' : ByteArray} {n' i : Nat} {rm : Room} {q kq : Nat} {e0 : va_E} {As st0 : List Value} {post : (Nat → Nat) → va_W} (G : uG p s m args meth c D cy A own cc nL) (hC : ConI l D cy y cc' n' rm q e0 As post) (hq : [kq].map (fun i => ws[i]?) = [(q, e0)].map some) (isR : List Nat) (wr : va_W) (hR : isR.map (fun i => ws[i]?) = wr.map some) (hn : va_nd isR = true) (hdis : ∀ i ∈ isR, i ∉ [kq]) (w1 : (own, i, y, host) ∈ tnM) (w2 : Cond.instanceMethod y ∈ tw) (w4 : Cond.initialized y.cls ∈ tw) (w5 : Cond.code y cc' n' none ∈ tw) (hy1 : y.name = "<init>")
    (hy : y.cls ≠ "java/lang/invoke/MethodHandle" ∧ y.cls ≠ "java/lang/invoke/VarHandle" ∧ (parseMethodDescriptor y.desc).map (fun d => d.parameters.length) = some As.length) (hRm : rm.frames + 1 ≤ R.frames ∧ 8 + (n' + 11) + rm.locals ≤ R.locals) (hst : st0 = As.reverse ++ .ref q :: st) (hrm : (st.map fun v => v.category).sum ≤ 8) (hd : decode cc pc = .ok (.invokespecial i, 3)) (hcs : cells + rm.cells ≤ R.cells ∧ slots + rm.slots ≤ R.slots)
    (kk : ∀ ad : Nat → Nat, ad 0 = q → U p l e R s m args below meth c D A nL Q (wr ++ post ad) (cells + rm.cells) (slots + rm.slots) (pc + 3) lv st) : U p l e R s m args below meth c D A nL Q ws cells slots pc lv st0 := by
  intro H locs ls hP hD hS hl
  obtain ⟨g1, g2, g3, g4, g5, g6, g7, g8, g9, g10⟩ := id G
  have hPc : va_P D cls [(q, e0)] H := hP.sub [kq] (by have h := hq; simp only [List.map_cons, List.map_nil, List.cons.injEq, and_true] at h; simp [h])
  have cb : va_CN R s args own i y host cc' n' none (uw y cc' n' none) rm rm.cells rm.slots As.length := va_cnB As.length g5 (lw_goodIn w5) rfl rfl rfl (g6.2.2 _ w1) (g5 _ w4) hy hRm
  have hp : PreS s H (va_Pc (.ref q :: As) (fun U => U.heap.size = H.size ∧ va_P D cls [(q, e0)] U.heap ∧ kK D cy U)) (.ref q :: As) := ⟨cI_blind _ _ _ _ _, fun U hU hW => ⟨rfl, by rw [hU], by rw [hU]; exact hPc, sh_K.warm hW g6⟩⟩
  exact u_back (kq := kq) G (va_runIN (As := As) (rest := st) ⟨g1, g2, g3, g4, g5⟩ (hC H.size) ⟨cb, hy1, g5 _ w2⟩ hp rfl rfl hl.1 hst (lv_room hrm) hd hcs) hP hD hS hl hq isR wr hR hn hdis kk (cc' := cc') (y := y) (n' := n') (As := As)
end UROWS
/-- a constructor's contract out of its walk -/
theorem conI_of {l : Launch} {D : va_G} {cy : Nat → ClassId} {y : MethodName} {cc : ByteArray} {n : Nat} {rm : Room} {h0 : Nat} {e0 : va_E} {As : List Value} {post : (Nat → Nat) → va_W} (hy : plainName y.cls = true) (hnm : y.name = "<init>") (hn : (lg_sl (.ref h0 :: As)).length ≤ n) {lv : List (Nat × Value)} (hlv : lv_args 0 (.ref h0 :: As) = lv)
    (body : ∀ (p : Program) (e : Env) (s : State) (m : MethodId) (below : List Frame) (meth : Method) (c : Code), uG p s m (.ref h0 :: As).toArray meth c D cy (va_A [(h0, e0)] s.heap.size) y.cls cc n → U p l e rm s m (.ref h0 :: As).toArray below meth c D (va_A [(h0, e0)] s.heap.size) n (MQ below (va_Qv (fun ad : Nat → Nat => ad 0 = h0) (fun ad t => va_P D cls (post ad) t.heap ∧ va_D (va_A [(h0, e0)] s.heap.size) (post ad)) (va_A [(h0, e0)] s.heap.size)) (.ref h0 :: As).toArray s rm.cells rm.slots (va_A [(h0, e0)] s.heap.size)) [(h0, e0)] 0 0 0 lv []) : ConI l D cy y cc n rm h0 e0 As post := by
  intro sz
  refine Met.ofW (cc := cc) (maxL := n) (ret := none) hy rfl ?_
  intro p e s m args below meth c s₁ B hml hv
  obtain ⟨rfl, hsz, hP, hK⟩ := hv
  subst hsz
  have hts := atoms_spec (ws := uw y cc n none) B.pre
  have hin : meth.name = "<init>" := by rw [(name_of_methodNamed B.named B.method).1]; exact hnm
  have G : uG p s m (.ref h0 :: As).toArray meth c D cy (va_A [(h0, e0)] s.heap.size) y.cls cc n := ⟨B.exec, B.bytes, hml, findClass_of_methodNamed B.named, fun w h => hts w (List.mem_cons_of_mem _ h), hK, fun q h => Or.inr h, B.returns, B.notSynchronized, hin⟩
  have hl := lv_entry (.ref h0 :: As) (n := n) hn
  rw [hlv] at hl
  rw [lg_entry_eq]
  exact body p e s m below meth c G s.heap [] _ hP (va_D1 (Or.inl ⟨0, e0, rfl⟩)) va_S.rf hl
end
section
/-! constructors -/
abbrev blX0 : List Value := [.null]
theorem blX0_ok : ∀ j, j < 1 → defaultValue (tyX0 j) = vp_V blX0 j := fun j hj => match j, hj with
  | 0, _ => rfl
  | q + 1, h => absurd h (by omega)
theorem qyX0_init : yX0_init.cls ≠ "java/lang/invoke/MethodHandle" ∧ yX0_init.cls ≠ "java/lang/invoke/VarHandle" ∧ (parseMethodDescriptor yX0_init.desc).map (fun d => d.parameters.length) = some 1 := by decide +kernel
abbrev blX1 : List Value := [.null, .null, .null, .null, .int 0, .int 0, .int 0, .int 0, .int 0, .int 0]
theorem blX1_ok : ∀ j, j < 10 → defaultValue (tyX1 j) = vp_V blX1 j := fun j hj => match j, hj with
  | 0, _ => rfl
  | 1, _ => rfl
  | 2, _ => rfl
  | 3, _ => rfl
  | 4, _ => rfl
  | 5, _ => rfl
  | 6, _ => rfl
  | 7, _ => rfl
  | 8, _ => rfl
  | 9, _ => rfl
  | q + 10, h => absurd h (by omega)
theorem qyX1_init : yX1_init.cls ≠ "java/lang/invoke/MethodHandle" ∧ yX1_init.cls ≠ "java/lang/invoke/VarHandle" ∧ (parseMethodDescriptor yX1_init.desc).map (fun d => d.parameters.length) = some 2 := by decide +kernel
abbrev blX2 : List Value := [.null, .null, .null, .null, .null, .null, .int 0, .int 0, .int 0, .int 0, .int 0, .int 0, .int 0, .int 0, .int 0]
theorem blX2_ok : ∀ j, j < 15 → defaultValue (tyX2 j) = vp_V blX2 j := fun j hj => match j, hj with
  | 0, _ => rfl
  | 1, _ => rfl
  | 2, _ => rfl
  | 3, _ => rfl
  | 4, _ => rfl
  | 5, _ => rfl
  | 6, _ => rfl
  | 7, _ => rfl
  | 8, _ => rfl
  | 9, _ => rfl
  | 10, _ => rfl
  | 11, _ => rfl
  | 12, _ => rfl
  | 13, _ => rfl
  | 14, _ => rfl
  | q + 15, h => absurd h (by omega)
theorem qyX2_init : yX2_init.cls ≠ "java/lang/invoke/MethodHandle" ∧ yX2_init.cls ≠ "java/lang/invoke/VarHandle" ∧ (parseMethodDescriptor yX2_init.desc).map (fun d => d.parameters.length) = some 1 := by decide +kernel
abbrev blX3 : List Value := [.null, .null, .null, .null, .int 0, .int 0]
theorem blX3_ok : ∀ j, j < 6 → defaultValue (tyX3 j) = vp_V blX3 j := fun j hj => match j, hj with
  | 0, _ => rfl
  | 1, _ => rfl
  | 2, _ => rfl
  | 3, _ => rfl
  | 4, _ => rfl
  | 5, _ => rfl
  | q + 6, h => absurd h (by omega)
theorem qyX3_init : yX3_init.cls ≠ "java/lang/invoke/MethodHandle" ∧ yX3_init.cls ≠ "java/lang/invoke/VarHandle" ∧ (parseMethodDescriptor yX3_init.desc).map (fun d => d.parameters.length) = some 1 := by decide +kernel
abbrev blX4 : List Value := [.null, .null, .int 0, .int 0, .int 0, .int 0, .int 0, .int 0, .int 0]
theorem blX4_ok : ∀ j, j < 9 → defaultValue (tyX4 j) = vp_V blX4 j := fun j hj => match j, hj with
  | 0, _ => rfl
  | 1, _ => rfl
  | 2, _ => rfl
  | 3, _ => rfl
  | 4, _ => rfl
  | 5, _ => rfl
  | 6, _ => rfl
  | 7, _ => rfl
  | 8, _ => rfl
  | q + 9, h => absurd h (by omega)
theorem qyX4_init : yX4_init.cls ≠ "java/lang/invoke/MethodHandle" ∧ yX4_init.cls ≠ "java/lang/invoke/VarHandle" ∧ (parseMethodDescriptor yX4_init.desc).map (fun d => d.parameters.length) = some 0 := by decide +kernel
abbrev blX5 : List Value := [.null, .null, .null, .null, .int 0, .int 0]
theorem blX5_ok : ∀ j, j < 6 → defaultValue (tyX5 j) = vp_V blX5 j := fun j hj => match j, hj with
  | 0, _ => rfl
  | 1, _ => rfl
  | 2, _ => rfl
  | 3, _ => rfl
  | 4, _ => rfl
  | 5, _ => rfl
  | q + 6, h => absurd h (by omega)
theorem qyX5_init : yX5_init.cls ≠ "java/lang/invoke/MethodHandle" ∧ yX5_init.cls ≠ "java/lang/invoke/VarHandle" ∧ (parseMethodDescriptor yX5_init.desc).map (fun d => d.parameters.length) = some 0 := by decide +kernel
abbrev blX6 : List Value := [.null, .int 0, .int 0]
theorem blX6_ok : ∀ j, j < 3 → defaultValue (tyX6 j) = vp_V blX6 j := fun j hj => match j, hj with
  | 0, _ => rfl
  | 1, _ => rfl
  | 2, _ => rfl
  | q + 3, h => absurd h (by omega)
theorem qyX6_init : yX6_init.cls ≠ "java/lang/invoke/MethodHandle" ∧ yX6_init.cls ≠ "java/lang/invoke/VarHandle" ∧ (parseMethodDescriptor yX6_init.desc).map (fun d => d.parameters.length) = some 0 := by decide +kernel
abbrev blX7 : List Value := [.null, .null, .null, .null]
theorem blX7_ok : ∀ j, j < 4 → defaultValue (tyX7 j) = vp_V blX7 j := fun j hj => match j, hj with
  | 0, _ => rfl
  | 1, _ => rfl
  | 2, _ => rfl
  | 3, _ => rfl
  | q + 4, h => absurd h (by omega)
theorem qyX7_init : yX7_init.cls ≠ "java/lang/invoke/MethodHandle" ∧ yX7_init.cls ≠ "java/lang/invoke/VarHandle" ∧ (parseMethodDescriptor yX7_init.desc).map (fun d => d.parameters.length) = some 0 := by decide +kernel
abbrev blX8 : List Value := [.int 0, .null, .null, .null, .null]
theorem blX8_ok : ∀ j, j < 5 → defaultValue (tyX8 j) = vp_V blX8 j := fun j hj => match j, hj with
  | 0, _ => rfl
  | 1, _ => rfl
  | 2, _ => rfl
  | 3, _ => rfl
  | 4, _ => rfl
  | q + 5, h => absurd h (by omega)
theorem qyX8_init : yX8_init.cls ≠ "java/lang/invoke/MethodHandle" ∧ yX8_init.cls ≠ "java/lang/invoke/VarHandle" ∧ (parseMethodDescriptor yX8_init.desc).map (fun d => d.parameters.length) = some 0 := by decide +kernel
abbrev blX9 : List Value := [.null, .int 0, .int 0, .int 0, .int 0, .null, .int 0, .int 0, .null, .int 0, .null, .int 0, .int 0, .int 0, .int 0, .int 0, .int 0, .int 0, .int 0, .int 0]
theorem blX9_ok : ∀ j, j < 20 → defaultValue (tyX9 j) = vp_V blX9 j := fun j hj => match j, hj with
  | 0, _ => rfl
  | 1, _ => rfl
  | 2, _ => rfl
  | 3, _ => rfl
  | 4, _ => rfl
  | 5, _ => rfl
  | 6, _ => rfl
  | 7, _ => rfl
  | 8, _ => rfl
  | 9, _ => rfl
  | 10, _ => rfl
  | 11, _ => rfl
  | 12, _ => rfl
  | 13, _ => rfl
  | 14, _ => rfl
  | 15, _ => rfl
  | 16, _ => rfl
  | 17, _ => rfl
  | 18, _ => rfl
  | 19, _ => rfl
  | q + 20, h => absurd h (by omega)
theorem qyX9_init : yX9_init.cls ≠ "java/lang/invoke/MethodHandle" ∧ yX9_init.cls ≠ "java/lang/invoke/VarHandle" ∧ (parseMethodDescriptor yX9_init.desc).map (fun d => d.parameters.length) = some 1 := by decide +kernel
abbrev blX10 : List Value := [.int 0, .int 0, .int 0, .int 0, .int 0, .int 0, .int 0, .int 0, .int 0, .int 0, .int 0, .null, .null, .null, .null, .null, .null, .int 0, .null, .null, .int 0, .int 0, .int 0, .int 0, .null, .int 0, .int 0, .int 0, .int 0, .int 0, .int 0, .int 0, .int 0, .null, .int 0, .int 0]
theorem blX10_ok : ∀ j, j < 36 → defaultValue (tyX10 j) = vp_V blX10 j := fun j hj => match j, hj with
  | 0, _ => rfl
  | 1, _ => rfl
  | 2, _ => rfl
  | 3, _ => rfl
  | 4, _ => rfl
  | 5, _ => rfl
  | 6, _ => rfl
  | 7, _ => rfl
  | 8, _ => rfl
  | 9, _ => rfl
  | 10, _ => rfl
  | 11, _ => rfl
  | 12, _ => rfl
  | 13, _ => rfl
  | 14, _ => rfl
  | 15, _ => rfl
  | 16, _ => rfl
  | 17, _ => rfl
  | 18, _ => rfl
  | 19, _ => rfl
  | 20, _ => rfl
  | 21, _ => rfl
  | 22, _ => rfl
  | 23, _ => rfl
  | 24, _ => rfl
  | 25, _ => rfl
  | 26, _ => rfl
  | 27, _ => rfl
  | 28, _ => rfl
  | 29, _ => rfl
  | 30, _ => rfl
  | 31, _ => rfl
  | 32, _ => rfl
  | 33, _ => rfl
  | 34, _ => rfl
  | 35, _ => rfl
  | q + 36, h => absurd h (by omega)
theorem qyX10_init : yX10_init.cls ≠ "java/lang/invoke/MethodHandle" ∧ yX10_init.cls ≠ "java/lang/invoke/VarHandle" ∧ (parseMethodDescriptor yX10_init.desc).map (fun d => d.parameters.length) = some 0 := by decide +kernel
/-! SensorNode$Bytes.<init> -/
set_option linter.unusedVariables false in
set_option maxHeartbeats 4000000 in
set_option maxRecDepth 100000 in
theorem c_B_init_2050 (l : Launch) (D : va_G) (cy : Nat → ClassId) (h0 : Nat)  : ConI l D cy yX0_init cX0_init 2 (rmi 1 1 2050) h0 (.inr (0, blX0)) [.int (8200 : Int32)] (fun ad => [((ad 0), .inr (0, [.ref (ad 1)])), ((ad 1), .inl (cy 0, 2050, .inl (fun _ => 0)))]) := by
  refine conI_of (by decide) rfl (Nat.le_of_ble_eq_true rfl) (lv := [(0, .ref h0), (1, .int (8200 : Int32))]) rfl ?_
  intro p e s m below meth c G
  have G : uG p s m _ meth c D cy (va_A [(h0, (.inr (0, blX0)))] s.heap.size) "SensorNode$Bytes" cX0_init 2 := G
  show U _ _ _ _ _ _ _ _ _ _ _ _ _ _ [(h0, .inr (0, [.null]))] _ _ _ _ _
  refine u_aload_n G 0 dX0_init_0 rfl ?_
  refine u_objInit G dX0_init_1 w1_74 w1_18 w1_19 (by decide) (by decide) ?_
  refine u_aload_n G 0 dX0_init_4 rfl ?_
  refine u_iload_n G 1 dX0_init_5 rfl ?_
  refine u_if_le G (tgt := 17) dX0_init_6 (by decide) (by decide) ?_
  refine u_iload_n G 1 dX0_init_9 rfl ?_
  refine u_iconst G (v := (3 : Int32)) dX0_init_10 (by decide) ?_
  refine u_iadd G (v := (8203 : Int32)) dX0_init_11 (by decide) ?_
  refine u_iconst G (v := (4 : Int32)) dX0_init_12 (by decide) ?_
  refine u_idiv G (v := (2050 : Int32)) dX0_init_13 (by decide) (by decide) ?_
  refine u_goto G (tgt := 18) dX0_init_14 (by decide) ?_
  refine u_newa G 0 (ty := .int) (N := 2050) dX0_init_18 rfl rfl (fun _ h => h) w1_62 (fun _ => rfl) (by decide) (by decide) (by decide) (by decide) (by decide) (fun q1 => ?_)
  show U _ _ _ _ _ _ _ _ _ _ _ _ _ _ [(h0, .inr (0, [.null])), (q1, .inl (cy 0, 2050, .inl (fun _ => 0)))] _ _ _ _ _
  refine u_putF G (ci := 0) (T := TX0) 0 0 [(h0, .inr (0, [.ref q1])), (q1, .inl (cy 0, 2050, .inl (fun _ => 0)))] dX0_init_20 inX0 tyX0_ok nmX0 rfl rfl (by decide) w1_75 rfl rfl rfl rfl (Nat.le_of_ble_eq_true rfl) rfl ?_
  exact u_vret (sz := 0) G (fun k => ([h0, q1] : List Nat).getD k 0) dX0_init_23 rfl [0, 1] (by decide) rfl rfl
/-! SensorNode$Bytes.<init> -/
set_option linter.unusedVariables false in
set_option maxHeartbeats 4000000 in
set_option maxRecDepth 100000 in
theorem c_B_init_6400 (l : Launch) (D : va_G) (cy : Nat → ClassId) (h0 : Nat)  : ConI l D cy yX0_init cX0_init 2 (rmi 1 1 6400) h0 (.inr (0, blX0)) [.int (25600 : Int32)] (fun ad => [((ad 0), .inr (0, [.ref (ad 1)])), ((ad 1), .inl (cy 0, 6400, .inl (fun _ => 0)))]) := by
  refine conI_of (by decide) rfl (Nat.le_of_ble_eq_true rfl) (lv := [(0, .ref h0), (1, .int (25600 : Int32))]) rfl ?_
  intro p e s m below meth c G
  have G : uG p s m _ meth c D cy (va_A [(h0, (.inr (0, blX0)))] s.heap.size) "SensorNode$Bytes" cX0_init 2 := G
  show U _ _ _ _ _ _ _ _ _ _ _ _ _ _ [(h0, .inr (0, [.null]))] _ _ _ _ _
  refine u_aload_n G 0 dX0_init_0 rfl ?_
  refine u_objInit G dX0_init_1 w1_74 w1_18 w1_19 (by decide) (by decide) ?_
  refine u_aload_n G 0 dX0_init_4 rfl ?_
  refine u_iload_n G 1 dX0_init_5 rfl ?_
  refine u_if_le G (tgt := 17) dX0_init_6 (by decide) (by decide) ?_
  refine u_iload_n G 1 dX0_init_9 rfl ?_
  refine u_iconst G (v := (3 : Int32)) dX0_init_10 (by decide) ?_
  refine u_iadd G (v := (25603 : Int32)) dX0_init_11 (by decide) ?_
  refine u_iconst G (v := (4 : Int32)) dX0_init_12 (by decide) ?_
  refine u_idiv G (v := (6400 : Int32)) dX0_init_13 (by decide) (by decide) ?_
  refine u_goto G (tgt := 18) dX0_init_14 (by decide) ?_
  refine u_newa G 0 (ty := .int) (N := 6400) dX0_init_18 rfl rfl (fun _ h => h) w1_62 (fun _ => rfl) (by decide) (by decide) (by decide) (by decide) (by decide) (fun q1 => ?_)
  show U _ _ _ _ _ _ _ _ _ _ _ _ _ _ [(h0, .inr (0, [.null])), (q1, .inl (cy 0, 6400, .inl (fun _ => 0)))] _ _ _ _ _
  refine u_putF G (ci := 0) (T := TX0) 0 0 [(h0, .inr (0, [.ref q1])), (q1, .inl (cy 0, 6400, .inl (fun _ => 0)))] dX0_init_20 inX0 tyX0_ok nmX0 rfl rfl (by decide) w1_75 rfl rfl rfl rfl (Nat.le_of_ble_eq_true rfl) rfl ?_
  exact u_vret (sz := 0) G (fun k => ([h0, q1] : List Nat).getD k 0) dX0_init_23 rfl [0, 1] (by decide) rfl rfl
/-! SensorNode$Tray.<init> -/
set_option linter.unusedVariables false in
set_option maxHeartbeats 4000000 in
set_option maxRecDepth 100000 in
theorem c_T_init (l : Launch) (D : va_G) (cy : Nat → ClassId) (h0 : Nat)  : ConI l D cy yX6_init cX6_init 1 (rmi 2 2 2051) h0 (.inr (6, blX6)) [] (fun ad => [((ad 0), .inr (6, [.ref (ad 1), .int 0, .int 0])), ((ad 1), .inr (0, [.ref (ad 2)])), ((ad 2), .inl (cy 0, 2050, .inl (fun _ => 0)))]) := by
  refine conI_of (by decide) rfl (Nat.le_of_ble_eq_true rfl) (lv := [(0, .ref h0)]) rfl ?_
  intro p e s m below meth c G
  have G : uG p s m _ meth c D cy (va_A [(h0, (.inr (6, blX6)))] s.heap.size) "SensorNode$Tray" cX6_init 1 := G
  show U _ _ _ _ _ _ _ _ _ _ _ _ _ _ [(h0, .inr (6, [.null, .int 0, .int 0]))] _ _ _ _ _
  refine u_aload_n G 0 dX6_init_0 rfl ?_
  refine u_objInit G dX6_init_1 w1_68 w1_18 w1_19 (by decide) (by decide) ?_
  refine u_aload_n G 0 dX6_init_4 rfl ?_
  refine u_new G (ci := 0) blX0 dX6_init_5 inX0 tyX0_ok w1_69 w1_70 w1_4 rfl blX0_ok (by decide) (by decide) (fun q1 => ?_)
  show U _ _ _ _ _ _ _ _ _ _ _ _ _ _ [(h0, .inr (6, [.null, .int 0, .int 0])), (q1, .inr (0, [.null]))] _ _ _ _ _
  refine u_dup G dX6_init_8 rfl ?_
  refine u_sipush G (v := (8200 : Int32)) dX6_init_9 (by decide) ?_
  refine u_callI G (kq := 1) (As := [.int (8200 : Int32)]) (st := [.ref q1, .ref h0]) (c_B_init_2050 l D cy q1 ) rfl [0] [(h0, .inr (6, [.null, .int 0, .int 0]))] rfl (by decide) (by decide) w1_71 w1_72 w1_4 w1_73 rfl qyX0_init (by decide) rfl (Nat.le_of_ble_eq_true rfl) dX6_init_12 (by decide) (fun ad2 had2 => ?_)
  subst had2
  show U _ _ _ _ _ _ _ _ _ _ _ _ _ _ [(h0, .inr (6, [.null, .int 0, .int 0])), ((ad2 0), .inr (0, [.ref (ad2 1)])), ((ad2 1), .inl (cy 0, 2050, .inl (fun _ => 0)))] _ _ _ _ _
  refine u_putF G (ci := 6) (T := TX6) 0 0 [(h0, .inr (6, [.ref (ad2 0), .int 0, .int 0])), ((ad2 0), .inr (0, [.ref (ad2 1)])), ((ad2 1), .inl (cy 0, 2050, .inl (fun _ => 0)))] dX6_init_15 inX6 tyX6_ok nmX6 rfl rfl (by decide) w1_79 rfl rfl rfl rfl (Nat.le_of_ble_eq_true rfl) rfl ?_
  exact u_vret (sz := 0) G (fun k => ([h0, (ad2 0), (ad2 1)] : List Nat).getD k 0) dX6_init_18 rfl [0, 1, 2] (by decide) rfl rfl
/-! SensorNode$Plan.<init> -/
set_option linter.unusedVariables false in
set_option maxHeartbeats 4000000 in
set_option maxRecDepth 100000 in
theorem c_L_init (l : Launch) (D : va_G) (cy : Nat → ClassId) (h0 : Nat)  : ConI l D cy yX4_init cX4_init 1 (rmi 1 2 3048) h0 (.inr (4, blX4)) [] (fun ad => [((ad 0), .inr (4, [.ref (ad 1), .ref (ad 2), .int 0, .int 0, .int 0, .int 0, .int 0, .int 0, .int 0])), ((ad 1), .inl (cy 0, 2048, .inl (fun _ => 0))), ((ad 2), .inl (cy 0, 1000, .inl (fun _ => 0)))]) := by
  refine conI_of (by decide) rfl (Nat.le_of_ble_eq_true rfl) (lv := [(0, .ref h0)]) rfl ?_
  intro p e s m below meth c G
  have G : uG p s m _ meth c D cy (va_A [(h0, (.inr (4, blX4)))] s.heap.size) "SensorNode$Plan" cX4_init 1 := G
  show U _ _ _ _ _ _ _ _ _ _ _ _ _ _ [(h0, .inr (4, [.null, .null, .int 0, .int 0, .int 0, .int 0, .int 0, .int 0, .int 0]))] _ _ _ _ _
  refine u_aload_n G 0 dX4_init_0 rfl ?_
  refine u_objInit G dX4_init_1 w1_25 w1_18 w1_19 (by decide) (by decide) ?_
  refine u_aload_n G 0 dX4_init_4 rfl ?_
  refine u_sipush G (v := (2048 : Int32)) dX4_init_5 (by decide) ?_
  refine u_newa G 0 (ty := .int) (N := 2048) dX4_init_8 rfl rfl (fun _ h => h) w1_62 (fun _ => rfl) (by decide) (by decide) (by decide) (by decide) (by decide) (fun q1 => ?_)
  show U _ _ _ _ _ _ _ _ _ _ _ _ _ _ [(h0, .inr (4, [.null, .null, .int 0, .int 0, .int 0, .int 0, .int 0, .int 0, .int 0])), (q1, .inl (cy 0, 2048, .inl (fun _ => 0)))] _ _ _ _ _
  refine u_putF G (ci := 4) (T := TX4) 0 0 [(h0, .inr (4, [.ref q1, .null, .int 0, .int 0, .int 0, .int 0, .int 0, .int 0, .int 0])), (q1, .inl (cy 0, 2048, .inl (fun _ => 0)))] dX4_init_10 inX4 tyX4_ok nmX4 rfl rfl (by decide) w1_26 rfl rfl rfl rfl (Nat.le_of_ble_eq_true rfl) rfl ?_
  refine u_aload_n G 0 dX4_init_13 rfl ?_
  refine u_sipush G (v := (1000 : Int32)) dX4_init_14 (by decide) ?_
  refine u_newa G 0 (ty := .int) (N := 1000) dX4_init_17 rfl rfl (fun _ h => h) w1_62 (fun _ => rfl) (by decide) (by decide) (by decide) (by decide) (by decide) (fun q2 => ?_)
  show U _ _ _ _ _ _ _ _ _ _ _ _ _ _ [(h0, .inr (4, [.ref q1, .null, .int 0, .int 0, .int 0, .int 0, .int 0, .int 0, .int 0])), (q1, .inl (cy 0, 2048, .inl (fun _ => 0))), (q2, .inl (cy 0, 1000, .inl (fun _ => 0)))] _ _ _ _ _
  refine u_putF G (ci := 4) (T := TX4) 0 1 [(h0, .inr (4, [.ref q1, .ref q2, .int 0, .int 0, .int 0, .int 0, .int 0, .int 0, .int 0])), (q1, .inl (cy 0, 2048, .inl (fun _ => 0))), (q2, .inl (cy 0, 1000, .inl (fun _ => 0)))] dX4_init_19 inX4 tyX4_ok nmX4 rfl rfl (by decide) w1_27 rfl rfl rfl rfl (Nat.le_of_ble_eq_true rfl) rfl ?_
  exact u_vret (sz := 0) G (fun k => ([h0, q1, q2] : List Nat).getD k 0) dX4_init_22 rfl [0, 1, 2] (by decide) rfl rfl
/-! SensorNode$Radio.<init> -/
set_option linter.unusedVariables false in
set_option maxHeartbeats 4000000 in
set_option maxRecDepth 100000 in
theorem c_R_init (l : Launch) (D : va_G) (cy : Nat → ClassId) (h0 : Nat)  : ConI l D cy yX5_init cX5_init 1 (rmi 2 5 7601) h0 (.inr (5, blX5)) [] (fun ad => [((ad 0), .inr (5, [.ref (ad 1), .ref (ad 2), .ref (ad 3), .ref (ad 4), .int 0, .int 0])), ((ad 1), .inl (cy 0, 400, .inl (fun _ => 0))), ((ad 2), .inl (cy 0, 400, .inl (fun _ => 0))), ((ad 3), .inl (cy 0, 400, .inl (fun _ => 0))), ((ad 4), .inr (0, [.ref (ad 5)])), ((ad 5), .inl (cy 0, 6400, .inl (fun _ => 0)))]) := by
  refine conI_of (by decide) rfl (Nat.le_of_ble_eq_true rfl) (lv := [(0, .ref h0)]) rfl ?_
  intro p e s m below meth c G
  have G : uG p s m _ meth c D cy (va_A [(h0, (.inr (5, blX5)))] s.heap.size) "SensorNode$Radio" cX5_init 1 := G
  show U _ _ _ _ _ _ _ _ _ _ _ _ _ _ [(h0, .inr (5, [.null, .null, .null, .null, .int 0, .int 0]))] _ _ _ _ _
  refine u_aload_n G 0 dX5_init_0 rfl ?_
  refine u_objInit G dX5_init_1 w1_100 w1_18 w1_19 (by decide) (by decide) ?_
  refine u_aload_n G 0 dX5_init_4 rfl ?_
  refine u_sipush G (v := (400 : Int32)) dX5_init_5 (by decide) ?_
  refine u_newa G 0 (ty := .int) (N := 400) dX5_init_8 rfl rfl (fun _ h => h) w1_62 (fun _ => rfl) (by decide) (by decide) (by decide) (by decide) (by decide) (fun q1 => ?_)
  show U _ _ _ _ _ _ _ _ _ _ _ _ _ _ [(h0, .inr (5, [.null, .null, .null, .null, .int 0, .int 0])), (q1, .inl (cy 0, 400, .inl (fun _ => 0)))] _ _ _ _ _
  refine u_putF G (ci := 5) (T := TX5) 0 0 [(h0, .inr (5, [.ref q1, .null, .null, .null, .int 0, .int 0])), (q1, .inl (cy 0, 400, .inl (fun _ => 0)))] dX5_init_10 inX5 tyX5_ok nmX5 rfl rfl (by decide) w1_103 rfl rfl rfl rfl (Nat.le_of_ble_eq_true rfl) rfl ?_
  refine u_aload_n G 0 dX5_init_13 rfl ?_
  refine u_sipush G (v := (400 : Int32)) dX5_init_14 (by decide) ?_
  refine u_newa G 0 (ty := .int) (N := 400) dX5_init_17 rfl rfl (fun _ h => h) w1_62 (fun _ => rfl) (by decide) (by decide) (by decide) (by decide) (by decide) (fun q2 => ?_)
  show U _ _ _ _ _ _ _ _ _ _ _ _ _ _ [(h0, .inr (5, [.ref q1, .null, .null, .null, .int 0, .int 0])), (q1, .inl (cy 0, 400, .inl (fun _ => 0))), (q2, .inl (cy 0, 400, .inl (fun _ => 0)))] _ _ _ _ _
  refine u_putF G (ci := 5) (T := TX5) 0 1 [(h0, .inr (5, [.ref q1, .ref q2, .null, .null, .int 0, .int 0])), (q1, .inl (cy 0, 400, .inl (fun _ => 0))), (q2, .inl (cy 0, 400, .inl (fun _ => 0)))] dX5_init_19 inX5 tyX5_ok nmX5 rfl rfl (by decide) w1_104 rfl rfl rfl rfl (Nat.le_of_ble_eq_true rfl) rfl ?_
  refine u_aload_n G 0 dX5_init_22 rfl ?_
  refine u_sipush G (v := (400 : Int32)) dX5_init_23 (by decide) ?_
  refine u_newa G 0 (ty := .int) (N := 400) dX5_init_26 rfl rfl (fun _ h => h) w1_62 (fun _ => rfl) (by decide) (by decide) (by decide) (by decide) (by decide) (fun q3 => ?_)
  show U _ _ _ _ _ _ _ _ _ _ _ _ _ _ [(h0, .inr (5, [.ref q1, .ref q2, .null, .null, .int 0, .int 0])), (q1, .inl (cy 0, 400, .inl (fun _ => 0))), (q2, .inl (cy 0, 400, .inl (fun _ => 0))), (q3, .inl (cy 0, 400, .inl (fun _ => 0)))] _ _ _ _ _
  refine u_putF G (ci := 5) (T := TX5) 0 2 [(h0, .inr (5, [.ref q1, .ref q2, .ref q3, .null, .int 0, .int 0])), (q1, .inl (cy 0, 400, .inl (fun _ => 0))), (q2, .inl (cy 0, 400, .inl (fun _ => 0))), (q3, .inl (cy 0, 400, .inl (fun _ => 0)))] dX5_init_28 inX5 tyX5_ok nmX5 rfl rfl (by decide) w1_105 rfl rfl rfl rfl (Nat.le_of_ble_eq_true rfl) rfl ?_
  refine u_aload_n G 0 dX5_init_31 rfl ?_
  refine u_new G (ci := 0) blX0 dX5_init_32 inX0 tyX0_ok w1_101 w1_70 w1_4 rfl blX0_ok (by decide) (by decide) (fun q4 => ?_)
  show U _ _ _ _ _ _ _ _ _ _ _ _ _ _ [(h0, .inr (5, [.ref q1, .ref q2, .ref q3, .null, .int 0, .int 0])), (q1, .inl (cy 0, 400, .inl (fun _ => 0))), (q2, .inl (cy 0, 400, .inl (fun _ => 0))), (q3, .inl (cy 0, 400, .inl (fun _ => 0))), (q4, .inr (0, [.null]))] _ _ _ _ _
  refine u_dup G dX5_init_35 rfl ?_
  refine u_sipush G (v := (25600 : Int32)) dX5_init_36 (by decide) ?_
  refine u_callI G (kq := 4) (As := [.int (25600 : Int32)]) (st := [.ref q4, .ref h0]) (c_B_init_6400 l D cy q4 ) rfl [0, 1, 2, 3] [(h0, .inr (5, [.ref q1, .ref q2, .ref q3, .null, .int 0, .int 0])), (q1, .inl (cy 0, 400, .inl (fun _ => 0))), (q2, .inl (cy 0, 400, .inl (fun _ => 0))), (q3, .inl (cy 0, 400, .inl (fun _ => 0)))] rfl (by decide) (by decide) w1_102 w1_72 w1_4 w1_73 rfl qyX0_init (by decide) rfl (Nat.le_of_ble_eq_true rfl) dX5_init_39 (by decide) (fun ad5 had5 => ?_)
  subst had5
  show U _ _ _ _ _ _ _ _ _ _ _ _ _ _ [(h0, .inr (5, [.ref q1, .ref q2, .ref q3, .null, .int 0, .int 0])), (q1, .inl (cy 0, 400, .inl (fun _ => 0))), (q2, .inl (cy 0, 400, .inl (fun _ => 0))), (q3, .inl (cy 0, 400, .inl (fun _ => 0))), ((ad5 0), .inr (0, [.ref (ad5 1)])), ((ad5 1), .inl (cy 0, 6400, .inl (fun _ => 0)))] _ _ _ _ _
  refine u_putF G (ci := 5) (T := TX5) 0 3 [(h0, .inr (5, [.ref q1, .ref q2, .ref q3, .ref (ad5 0), .int 0, .int 0])), (q1, .inl (cy 0, 400, .inl (fun _ => 0))), (q2, .inl (cy 0, 400, .inl (fun _ => 0))), (q3, .inl (cy 0, 400, .inl (fun _ => 0))), ((ad5 0), .inr (0, [.ref (ad5 1)])), ((ad5 1), .inl (cy 0, 6400, .inl (fun _ => 0)))] dX5_init_42 inX5 tyX5_ok nmX5 rfl rfl (by decide) w1_106 rfl rfl rfl rfl (Nat.le_of_ble_eq_true rfl) rfl ?_
  exact u_vret (sz := 0) G (fun k => ([h0, q1, q2, q3, (ad5 0), (ad5 1)] : List Nat).getD k 0) dX5_init_45 rfl [0, 1, 2, 3, 4, 5] (by decide) rfl rfl
/-! SensorNode$Guest.<init> -/
set_option linter.unusedVariables false in
set_option maxHeartbeats 4000000 in
set_option maxRecDepth 100000 in
theorem c_G_init (l : Launch) (D : va_G) (cy : Nat → ClassId) (h0 : Nat) (r1 : Nat) (r2 : Nat) : ConI l D cy yX1_init cX1_init 3 (rmi 1 2 1060) h0 (.inr (1, blX1)) [.ref r1, .ref r2] (fun ad => [((ad 0), .inr (1, [.ref r1, .ref (ad 1), .ref (ad 2), .ref r2, .int 0, .int 0, .int 0, .int 0, .int 0, .int 0])), ((ad 1), .inl (cy 0, 36, .inl (fun _ => 0))), ((ad 2), .inl (cy 0, 1024, .inl (fun _ => 0)))]) := by
  refine conI_of (by decide) rfl (Nat.le_of_ble_eq_true rfl) (lv := [(0, .ref h0), (1, .ref r1), (2, .ref r2)]) rfl ?_
  intro p e s m below meth c G
  have G : uG p s m _ meth c D cy (va_A [(h0, (.inr (1, blX1)))] s.heap.size) "SensorNode$Guest" cX1_init 3 := G
  show U _ _ _ _ _ _ _ _ _ _ _ _ _ _ [(h0, .inr (1, [.null, .null, .null, .null, .int 0, .int 0, .int 0, .int 0, .int 0, .int 0]))] _ _ _ _ _
  refine u_aload_n G 0 dX1_init_0 rfl ?_
  refine u_objInit G dX1_init_1 w1_127 w1_18 w1_19 (by decide) (by decide) ?_
  refine u_aload_n G 0 dX1_init_4 rfl ?_
  refine u_bipush G (v := (36 : Int32)) dX1_init_5 (by decide) ?_
  refine u_newa G 0 (ty := .int) (N := 36) dX1_init_7 rfl rfl (fun _ h => h) w1_62 (fun _ => rfl) (by decide) (by decide) (by decide) (by decide) (by decide) (fun q1 => ?_)
  show U _ _ _ _ _ _ _ _ _ _ _ _ _ _ [(h0, .inr (1, [.null, .null, .null, .null, .int 0, .int 0, .int 0, .int 0, .int 0, .int 0])), (q1, .inl (cy 0, 36, .inl (fun _ => 0)))] _ _ _ _ _
  refine u_putF G (ci := 1) (T := TX1) 0 1 [(h0, .inr (1, [.null, .ref q1, .null, .null, .int 0, .int 0, .int 0, .int 0, .int 0, .int 0])), (q1, .inl (cy 0, 36, .inl (fun _ => 0)))] dX1_init_9 inX1 tyX1_ok nmX1 rfl rfl (by decide) w1_129 rfl rfl rfl rfl (Nat.le_of_ble_eq_true rfl) rfl ?_
  refine u_aload_n G 0 dX1_init_12 rfl ?_
  refine u_sipush G (v := (1024 : Int32)) dX1_init_13 (by decide) ?_
  refine u_newa G 0 (ty := .int) (N := 1024) dX1_init_16 rfl rfl (fun _ h => h) w1_62 (fun _ => rfl) (by decide) (by decide) (by decide) (by decide) (by decide) (fun q2 => ?_)
  show U _ _ _ _ _ _ _ _ _ _ _ _ _ _ [(h0, .inr (1, [.null, .ref q1, .null, .null, .int 0, .int 0, .int 0, .int 0, .int 0, .int 0])), (q1, .inl (cy 0, 36, .inl (fun _ => 0))), (q2, .inl (cy 0, 1024, .inl (fun _ => 0)))] _ _ _ _ _
  refine u_putF G (ci := 1) (T := TX1) 0 2 [(h0, .inr (1, [.null, .ref q1, .ref q2, .null, .int 0, .int 0, .int 0, .int 0, .int 0, .int 0])), (q1, .inl (cy 0, 36, .inl (fun _ => 0))), (q2, .inl (cy 0, 1024, .inl (fun _ => 0)))] dX1_init_18 inX1 tyX1_ok nmX1 rfl rfl (by decide) w1_130 rfl rfl rfl rfl (Nat.le_of_ble_eq_true rfl) rfl ?_
  refine u_aload_n G 0 dX1_init_21 rfl ?_
  refine u_aload_n G 1 dX1_init_22 rfl ?_
  refine u_putF G (ci := 1) (T := TX1) 0 0 [(h0, .inr (1, [.ref r1, .ref q1, .ref q2, .null, .int 0, .int 0, .int 0, .int 0, .int 0, .int 0])), (q1, .inl (cy 0, 36, .inl (fun _ => 0))), (q2, .inl (cy 0, 1024, .inl (fun _ => 0)))] dX1_init_23 inX1 tyX1_ok nmX1 rfl rfl (by decide) w1_128 rfl rfl rfl rfl (Nat.le_of_ble_eq_true rfl) rfl ?_
  refine u_aload_n G 0 dX1_init_26 rfl ?_
  refine u_aload_n G 2 dX1_init_27 rfl ?_
  refine u_putF G (ci := 1) (T := TX1) 0 3 [(h0, .inr (1, [.ref r1, .ref q1, .ref q2, .ref r2, .int 0, .int 0, .int 0, .int 0, .int 0, .int 0])), (q1, .inl (cy 0, 36, .inl (fun _ => 0))), (q2, .inl (cy 0, 1024, .inl (fun _ => 0)))] dX1_init_28 inX1 tyX1_ok nmX1 rfl rfl (by decide) w1_131 rfl rfl rfl rfl (Nat.le_of_ble_eq_true rfl) rfl ?_
  exact u_vret (sz := 0) G (fun k => ([h0, q1, q2] : List Nat).getD k 0) dX1_init_31 rfl [0, 1, 2] (by decide) rfl rfl
/-! SensorNode$Node.<init> -/
set_option linter.unusedVariables false in
set_option maxHeartbeats 4000000 in
set_option maxRecDepth 100000 in
theorem c_N_init (l : Launch) (D : va_G) (cy : Nat → ClassId) (h0 : Nat) (r1 : Nat) : ConI l D cy yX2_init cX2_init 3 (rmi 3 12 16951) h0 (.inr (2, blX2)) [.ref r1] (fun ad => [((ad 0), .inr (2, [.ref r1, .ref (ad 9), .ref (ad 1), .ref (ad 2), .ref (ad 3), .ref (ad 10), .int 0, .int 0, .int 0, .int 0, .int 0, .int 0, .int 0, .int 0, .int 0])), ((ad 1), .inl (cy 0, 2048, .inl (fun _ => 0))), ((ad 2), .inl (cy 0, 7, .inl (fun _ => 0))), ((ad 3), .inr (5, [.ref (ad 4), .ref (ad 5), .ref (ad 6), .ref (ad 7), .int 0, .int 0])), ((ad 4), .inl (cy 0, 400, .inl (fun _ => 0))), ((ad 5), .inl (cy 0, 400, .inl (fun _ => 0))), ((ad 6), .inl (cy 0, 400, .inl (fun _ => 0))), ((ad 7), .inr (0, [.ref (ad 8)])), ((ad 8), .inl (cy 0, 6400, .inl (fun _ => 0))), ((ad 9), .inl (cy 0, 6219, .inl (fun _ => 0))), ((ad 10), .inr (1, [.ref r1, .ref (ad 11), .ref (ad 12), .ref (ad 9), .int 0, .int 0, .int 0, .int 0, .int 0, .int 0])), ((ad 11), .inl (cy 0, 36, .inl (fun _ => 0))), ((ad 12), .inl (cy 0, 1024, .inl (fun _ => 0)))]) := by
  refine conI_of (by decide) rfl (Nat.le_of_ble_eq_true rfl) (lv := [(0, .ref h0), (1, .ref r1)]) rfl ?_
  intro p e s m below meth c G
  have G : uG p s m _ meth c D cy (va_A [(h0, (.inr (2, blX2)))] s.heap.size) "SensorNode$Node" cX2_init 3 := G
  show U _ _ _ _ _ _ _ _ _ _ _ _ _ _ [(h0, .inr (2, [.null, .null, .null, .null, .null, .null, .int 0, .int 0, .int 0, .int 0, .int 0, .int 0, .int 0, .int 0, .int 0]))] _ _ _ _ _
  refine u_aload_n G 0 dX2_init_0 rfl ?_
  refine u_objInit G dX2_init_1 w1_94 w1_18 w1_19 (by decide) (by decide) ?_
  refine u_aload_n G 0 dX2_init_4 rfl ?_
  refine u_sipush G (v := (2048 : Int32)) dX2_init_5 (by decide) ?_
  refine u_newa G 0 (ty := .int) (N := 2048) dX2_init_8 rfl rfl (fun _ h => h) w1_62 (fun _ => rfl) (by decide) (by decide) (by decide) (by decide) (by decide) (fun q1 => ?_)
  show U _ _ _ _ _ _ _ _ _ _ _ _ _ _ [(h0, .inr (2, [.null, .null, .null, .null, .null, .null, .int 0, .int 0, .int 0, .int 0, .int 0, .int 0, .int 0, .int 0, .int 0])), (q1, .inl (cy 0, 2048, .inl (fun _ => 0)))] _ _ _ _ _
  refine u_putF G (ci := 2) (T := TX2) 0 2 [(h0, .inr (2, [.null, .null, .ref q1, .null, .null, .null, .int 0, .int 0, .int 0, .int 0, .int 0, .int 0, .int 0, .int 0, .int 0])), (q1, .inl (cy 0, 2048, .inl (fun _ => 0)))] dX2_init_10 inX2 tyX2_ok nmX2 rfl rfl (by decide) w1_161 rfl rfl rfl rfl (Nat.le_of_ble_eq_true rfl) rfl ?_
  refine u_aload_n G 0 dX2_init_13 rfl ?_
  refine u_bipush G (v := (7 : Int32)) dX2_init_14 (by decide) ?_
  refine u_newa G 0 (ty := .int) (N := 7) dX2_init_16 rfl rfl (fun _ h => h) w1_62 (fun _ => rfl) (by decide) (by decide) (by decide) (by decide) (by decide) (fun q2 => ?_)
  show U _ _ _ _ _ _ _ _ _ _ _ _ _ _ [(h0, .inr (2, [.null, .null, .ref q1, .null, .null, .null, .int 0, .int 0, .int 0, .int 0, .int 0, .int 0, .int 0, .int 0, .int 0])), (q1, .inl (cy 0, 2048, .inl (fun _ => 0))), (q2, .inl (cy 0, 7, .inl (fun _ => 0)))] _ _ _ _ _
  refine u_putF G (ci := 2) (T := TX2) 0 3 [(h0, .inr (2, [.null, .null, .ref q1, .ref q2, .null, .null, .int 0, .int 0, .int 0, .int 0, .int 0, .int 0, .int 0, .int 0, .int 0])), (q1, .inl (cy 0, 2048, .inl (fun _ => 0))), (q2, .inl (cy 0, 7, .inl (fun _ => 0)))] dX2_init_18 inX2 tyX2_ok nmX2 rfl rfl (by decide) w1_162 rfl rfl rfl rfl (Nat.le_of_ble_eq_true rfl) rfl ?_
  refine u_aload_n G 0 dX2_init_21 rfl ?_
  refine u_new G (ci := 5) blX5 dX2_init_22 inX5 tyX5_ok w1_95 w1_96 w1_6 rfl blX5_ok (by decide) (by decide) (fun q3 => ?_)
  show U _ _ _ _ _ _ _ _ _ _ _ _ _ _ [(h0, .inr (2, [.null, .null, .ref q1, .ref q2, .null, .null, .int 0, .int 0, .int 0, .int 0, .int 0, .int 0, .int 0, .int 0, .int 0])), (q1, .inl (cy 0, 2048, .inl (fun _ => 0))), (q2, .inl (cy 0, 7, .inl (fun _ => 0))), (q3, .inr (5, [.null, .null, .null, .null, .int 0, .int 0]))] _ _ _ _ _
  refine u_dup G dX2_init_25 rfl ?_
  refine u_callN G (kq := 3) (As := []) (st := [.ref q3, .ref h0]) (c_R_init l D cy q3 ) rfl [0, 1, 2] [(h0, .inr (2, [.null, .null, .ref q1, .ref q2, .null, .null, .int 0, .int 0, .int 0, .int 0, .int 0, .int 0, .int 0, .int 0, .int 0])), (q1, .inl (cy 0, 2048, .inl (fun _ => 0))), (q2, .inl (cy 0, 7, .inl (fun _ => 0)))] rfl (by decide) (by decide) (List.mem_of_getElem? (i := 2) rfl) w1_98 w1_6 w1_99 rfl qyX5_init (by decide) rfl (Nat.le_of_ble_eq_true rfl) dX2_init_26 (by decide) (fun ad4 had4 => ?_)
  subst had4
  show U _ _ _ _ _ _ _ _ _ _ _ _ _ _ [(h0, .inr (2, [.null, .null, .ref q1, .ref q2, .null, .null, .int 0, .int 0, .int 0, .int 0, .int 0, .int 0, .int 0, .int 0, .int 0])), (q1, .inl (cy 0, 2048, .inl (fun _ => 0))), (q2, .inl (cy 0, 7, .inl (fun _ => 0))), ((ad4 0), .inr (5, [.ref (ad4 1), .ref (ad4 2), .ref (ad4 3), .ref (ad4 4), .int 0, .int 0])), ((ad4 1), .inl (cy 0, 400, .inl (fun _ => 0))), ((ad4 2), .inl (cy 0, 400, .inl (fun _ => 0))), ((ad4 3), .inl (cy 0, 400, .inl (fun _ => 0))), ((ad4 4), .inr (0, [.ref (ad4 5)])), ((ad4 5), .inl (cy 0, 6400, .inl (fun _ => 0)))] _ _ _ _ _
  refine u_putF G (ci := 2) (T := TX2) 0 4 [(h0, .inr (2, [.null, .null, .ref q1, .ref q2, .ref (ad4 0), .null, .int 0, .int 0, .int 0, .int 0, .int 0, .int 0, .int 0, .int 0, .int 0])), (q1, .inl (cy 0, 2048, .inl (fun _ => 0))), (q2, .inl (cy 0, 7, .inl (fun _ => 0))), ((ad4 0), .inr (5, [.ref (ad4 1), .ref (ad4 2), .ref (ad4 3), .ref (ad4 4), .int 0, .int 0])), ((ad4 1), .inl (cy 0, 400, .inl (fun _ => 0))), ((ad4 2), .inl (cy 0, 400, .inl (fun _ => 0))), ((ad4 3), .inl (cy 0, 400, .inl (fun _ => 0))), ((ad4 4), .inr (0, [.ref (ad4 5)])), ((ad4 5), .inl (cy 0, 6400, .inl (fun _ => 0)))] dX2_init_29 inX2 tyX2_ok nmX2 rfl rfl (by decide) w1_163 rfl rfl rfl rfl (Nat.le_of_ble_eq_true rfl) rfl ?_
  refine u_aload_n G 0 dX2_init_32 rfl ?_
  refine u_aload_n G 1 dX2_init_33 rfl ?_
  refine u_putF G (ci := 2) (T := TX2) 0 0 [(h0, .inr (2, [.ref r1, .null, .ref q1, .ref q2, .ref (ad4 0), .null, .int 0, .int 0, .int 0, .int 0, .int 0, .int 0, .int 0, .int 0, .int 0])), (q1, .inl (cy 0, 2048, .inl (fun _ => 0))), (q2, .inl (cy 0, 7, .inl (fun _ => 0))), ((ad4 0), .inr (5, [.ref (ad4 1), .ref (ad4 2), .ref (ad4 3), .ref (ad4 4), .int 0, .int 0])), ((ad4 1), .inl (cy 0, 400, .inl (fun _ => 0))), ((ad4 2), .inl (cy 0, 400, .inl (fun _ => 0))), ((ad4 3), .inl (cy 0, 400, .inl (fun _ => 0))), ((ad4 4), .inr (0, [.ref (ad4 5)])), ((ad4 5), .inl (cy 0, 6400, .inl (fun _ => 0)))] dX2_init_34 inX2 tyX2_ok nmX2 rfl rfl (by decide) w1_159 rfl rfl rfl rfl (Nat.le_of_ble_eq_true rfl) rfl ?_
  refine u_sipush G (v := (6219 : Int32)) dX2_init_37 (by decide) ?_
  refine u_newa G 0 (ty := .int) (N := 6219) dX2_init_40 rfl rfl (fun _ h => h) w1_62 (fun _ => rfl) (by decide) (by decide) (by decide) (by decide) (by decide) (fun q5 => ?_)
  show U _ _ _ _ _ _ _ _ _ _ _ _ _ _ [(h0, .inr (2, [.ref r1, .null, .ref q1, .ref q2, .ref (ad4 0), .null, .int 0, .int 0, .int 0, .int 0, .int 0, .int 0, .int 0, .int 0, .int 0])), (q1, .inl (cy 0, 2048, .inl (fun _ => 0))), (q2, .inl (cy 0, 7, .inl (fun _ => 0))), ((ad4 0), .inr (5, [.ref (ad4 1), .ref (ad4 2), .ref (ad4 3), .ref (ad4 4), .int 0, .int 0])), ((ad4 1), .inl (cy 0, 400, .inl (fun _ => 0))), ((ad4 2), .inl (cy 0, 400, .inl (fun _ => 0))), ((ad4 3), .inl (cy 0, 400, .inl (fun _ => 0))), ((ad4 4), .inr (0, [.ref (ad4 5)])), ((ad4 5), .inl (cy 0, 6400, .inl (fun _ => 0))), (q5, .inl (cy 0, 6219, .inl (fun _ => 0)))] _ _ _ _ _
  refine u_astore_n G [(2, .ref q5), (0, .ref h0), (1, .ref r1)] dX2_init_42 (by decide) rfl ?_
  refine u_aload_n G 1 dX2_init_43 rfl ?_
  refine u_aload_n G 0 dX2_init_44 rfl ?_
  refine u_putF G (ci := 2) (T := TX2) 0 1 [(h0, .inr (2, [.ref r1, .ref q5, .ref q1, .ref q2, .ref (ad4 0), .null, .int 0, .int 0, .int 0, .int 0, .int 0, .int 0, .int 0, .int 0, .int 0])), (q1, .inl (cy 0, 2048, .inl (fun _ => 0))), (q2, .inl (cy 0, 7, .inl (fun _ => 0))), ((ad4 0), .inr (5, [.ref (ad4 1), .ref (ad4 2), .ref (ad4 3), .ref (ad4 4), .int 0, .int 0])), ((ad4 1), .inl (cy 0, 400, .inl (fun _ => 0))), ((ad4 2), .inl (cy 0, 400, .inl (fun _ => 0))), ((ad4 3), .inl (cy 0, 400, .inl (fun _ => 0))), ((ad4 4), .inr (0, [.ref (ad4 5)])), ((ad4 5), .inl (cy 0, 6400, .inl (fun _ => 0))), (q5, .inl (cy 0, 6219, .inl (fun _ => 0)))] dX2_init_45 inX2 tyX2_ok nmX2 rfl rfl (by decide) w1_160 rfl rfl rfl rfl (Nat.le_of_ble_eq_true rfl) rfl ?_
  refine u_aload_n G 1 dX2_init_48 rfl ?_
  refine u_new G (ci := 1) blX1 dX2_init_49 inX1 tyX1_ok w1_122 w1_123 w1_7 rfl blX1_ok (by decide) (by decide) (fun q6 => ?_)
  show U _ _ _ _ _ _ _ _ _ _ _ _ _ _ [(h0, .inr (2, [.ref r1, .ref q5, .ref q1, .ref q2, .ref (ad4 0), .null, .int 0, .int 0, .int 0, .int 0, .int 0, .int 0, .int 0, .int 0, .int 0])), (q1, .inl (cy 0, 2048, .inl (fun _ => 0))), (q2, .inl (cy 0, 7, .inl (fun _ => 0))), ((ad4 0), .inr (5, [.ref (ad4 1), .ref (ad4 2), .ref (ad4 3), .ref (ad4 4), .int 0, .int 0])), ((ad4 1), .inl (cy 0, 400, .inl (fun _ => 0))), ((ad4 2), .inl (cy 0, 400, .inl (fun _ => 0))), ((ad4 3), .inl (cy 0, 400, .inl (fun _ => 0))), ((ad4 4), .inr (0, [.ref (ad4 5)])), ((ad4 5), .inl (cy 0, 6400, .inl (fun _ => 0))), (q5, .inl (cy 0, 6219, .inl (fun _ => 0))), (q6, .inr (1, [.null, .null, .null, .null, .int 0, .int 0, .int 0, .int 0, .int 0, .int 0]))] _ _ _ _ _
  refine u_dup G dX2_init_52 rfl ?_
  refine u_aload_n G 2 dX2_init_53 rfl ?_
  refine u_aload_n G 0 dX2_init_54 rfl ?_
  refine u_callI G (kq := 10) (As := [.ref r1, .ref q5]) (st := [.ref q6, .ref h0]) (c_G_init l D cy q6 r1 q5) rfl [0, 1, 2, 3, 4, 5, 6, 7, 8, 9] [(h0, .inr (2, [.ref r1, .ref q5, .ref q1, .ref q2, .ref (ad4 0), .null, .int 0, .int 0, .int 0, .int 0, .int 0, .int 0, .int 0, .int 0, .int 0])), (q1, .inl (cy 0, 2048, .inl (fun _ => 0))), (q2, .inl (cy 0, 7, .inl (fun _ => 0))), ((ad4 0), .inr (5, [.ref (ad4 1), .ref (ad4 2), .ref (ad4 3), .ref (ad4 4), .int 0, .int 0])), ((ad4 1), .inl (cy 0, 400, .inl (fun _ => 0))), ((ad4 2), .inl (cy 0, 400, .inl (fun _ => 0))), ((ad4 3), .inl (cy 0, 400, .inl (fun _ => 0))), ((ad4 4), .inr (0, [.ref (ad4 5)])), ((ad4 5), .inl (cy 0, 6400, .inl (fun _ => 0))), (q5, .inl (cy 0, 6219, .inl (fun _ => 0)))] rfl (by decide) (by decide) w1_124 w1_125 w1_7 w1_126 rfl qyX1_init (by decide) rfl (Nat.le_of_ble_eq_true rfl) dX2_init_55 (by decide) (fun ad7 had7 => ?_)
  subst had7
  show U _ _ _ _ _ _ _ _ _ _ _ _ _ _ [(h0, .inr (2, [.ref r1, .ref q5, .ref q1, .ref q2, .ref (ad4 0), .null, .int 0, .int 0, .int 0, .int 0, .int 0, .int 0, .int 0, .int 0, .int 0])), (q1, .inl (cy 0, 2048, .inl (fun _ => 0))), (q2, .inl (cy 0, 7, .inl (fun _ => 0))), ((ad4 0), .inr (5, [.ref (ad4 1), .ref (ad4 2), .ref (ad4 3), .ref (ad4 4), .int 0, .int 0])), ((ad4 1), .inl (cy 0, 400, .inl (fun _ => 0))), ((ad4 2), .inl (cy 0, 400, .inl (fun _ => 0))), ((ad4 3), .inl (cy 0, 400, .inl (fun _ => 0))), ((ad4 4), .inr (0, [.ref (ad4 5)])), ((ad4 5), .inl (cy 0, 6400, .inl (fun _ => 0))), (q5, .inl (cy 0, 6219, .inl (fun _ => 0))), ((ad7 0), .inr (1, [.ref r1, .ref (ad7 1), .ref (ad7 2), .ref q5, .int 0, .int 0, .int 0, .int 0, .int 0, .int 0])), ((ad7 1), .inl (cy 0, 36, .inl (fun _ => 0))), ((ad7 2), .inl (cy 0, 1024, .inl (fun _ => 0)))] _ _ _ _ _
  refine u_putF G (ci := 2) (T := TX2) 0 5 [(h0, .inr (2, [.ref r1, .ref q5, .ref q1, .ref q2, .ref (ad4 0), .ref (ad7 0), .int 0, .int 0, .int 0, .int 0, .int 0, .int 0, .int 0, .int 0, .int 0])), (q1, .inl (cy 0, 2048, .inl (fun _ => 0))), (q2, .inl (cy 0, 7, .inl (fun _ => 0))), ((ad4 0), .inr (5, [.ref (ad4 1), .ref (ad4 2), .ref (ad4 3), .ref (ad4 4), .int 0, .int 0])), ((ad4 1), .inl (cy 0, 400, .inl (fun _ => 0))), ((ad4 2), .inl (cy 0, 400, .inl (fun _ => 0))), ((ad4 3), .inl (cy 0, 400, .inl (fun _ => 0))), ((ad4 4), .inr (0, [.ref (ad4 5)])), ((ad4 5), .inl (cy 0, 6400, .inl (fun _ => 0))), (q5, .inl (cy 0, 6219, .inl (fun _ => 0))), ((ad7 0), .inr (1, [.ref r1, .ref (ad7 1), .ref (ad7 2), .ref q5, .int 0, .int 0, .int 0, .int 0, .int 0, .int 0])), ((ad7 1), .inl (cy 0, 36, .inl (fun _ => 0))), ((ad7 2), .inl (cy 0, 1024, .inl (fun _ => 0)))] dX2_init_58 inX2 tyX2_ok nmX2 rfl rfl (by decide) w1_164 rfl rfl rfl rfl (Nat.le_of_ble_eq_true rfl) rfl ?_
  refine u_aload_n G 1 dX2_init_61 rfl ?_
  refine u_iconst G (v := (0 : Int32)) dX2_init_62 (by decide) ?_
  refine u_put G (ci := 2) (T := TX2) 0 7 [(h0, .inr (2, [.ref r1, .ref q5, .ref q1, .ref q2, .ref (ad4 0), .ref (ad7 0), .int 0, .int 0, .int 0, .int 0, .int 0, .int 0, .int 0, .int 0, .int 0])), (q1, .inl (cy 0, 2048, .inl (fun _ => 0))), (q2, .inl (cy 0, 7, .inl (fun _ => 0))), ((ad4 0), .inr (5, [.ref (ad4 1), .ref (ad4 2), .ref (ad4 3), .ref (ad4 4), .int 0, .int 0])), ((ad4 1), .inl (cy 0, 400, .inl (fun _ => 0))), ((ad4 2), .inl (cy 0, 400, .inl (fun _ => 0))), ((ad4 3), .inl (cy 0, 400, .inl (fun _ => 0))), ((ad4 4), .inr (0, [.ref (ad4 5)])), ((ad4 5), .inl (cy 0, 6400, .inl (fun _ => 0))), (q5, .inl (cy 0, 6219, .inl (fun _ => 0))), ((ad7 0), .inr (1, [.ref r1, .ref (ad7 1), .ref (ad7 2), .ref q5, .int 0, .int 0, .int 0, .int 0, .int 0, .int 0])), ((ad7 1), .inl (cy 0, 36, .inl (fun _ => 0))), ((ad7 2), .inl (cy 0, 1024, .inl (fun _ => 0)))] dX2_init_63 inX2 tyX2_ok nmX2 rfl rfl (by decide) w1_166 rfl rfl rfl (Nat.le_of_ble_eq_true rfl) rfl ?_
  exact u_vret (sz := 0) G (fun k => ([h0, q1, q2, (ad4 0), (ad4 1), (ad4 2), (ad4 3), (ad4 4), (ad4 5), q5, (ad7 0), (ad7 1), (ad7 2)] : List Nat).getD k 0) dX2_init_66 rfl [0, 1, 2, 3, 4, 5, 6, 7, 8, 9, 10, 11, 12] (by decide) rfl rfl
/-! SensorNode$PlainMachine.<init> -/
set_option linter.unusedVariables false in
set_option maxHeartbeats 4000000 in
set_option maxRecDepth 100000 in
theorem c_P_init (l : Launch) (D : va_G) (cy : Nat → ClassId) (h0 : Nat) (r1 : Nat) : ConI l D cy yX3_init cX3_init 3 (rmi 3 10 10725) h0 (.inr (3, blX3)) [.ref r1] (fun ad => [((ad 0), .inr (3, [.ref r1, .ref (ad 7), .ref (ad 8), .ref (ad 1), .int 0, .int 0])), ((ad 1), .inr (5, [.ref (ad 2), .ref (ad 3), .ref (ad 4), .ref (ad 5), .int 0, .int 0])), ((ad 2), .inl (cy 0, 400, .inl (fun _ => 0))), ((ad 3), .inl (cy 0, 400, .inl (fun _ => 0))), ((ad 4), .inl (cy 0, 400, .inl (fun _ => 0))), ((ad 5), .inr (0, [.ref (ad 6)])), ((ad 6), .inl (cy 0, 6400, .inl (fun _ => 0))), ((ad 7), .inl (cy 0, 2048, .inl (fun _ => 0))), ((ad 8), .inr (1, [.ref r1, .ref (ad 9), .ref (ad 10), .ref (ad 7), .int 0, .int 0, .int 0, .int 0, .int 0, .int 0])), ((ad 9), .inl (cy 0, 36, .inl (fun _ => 0))), ((ad 10), .inl (cy 0, 1024, .inl (fun _ => 0)))]) := by
  refine conI_of (by decide) rfl (Nat.le_of_ble_eq_true rfl) (lv := [(0, .ref h0), (1, .ref r1)]) rfl ?_
  intro p e s m below meth c G
  have G : uG p s m _ meth c D cy (va_A [(h0, (.inr (3, blX3)))] s.heap.size) "SensorNode$PlainMachine" cX3_init 3 := G
  show U _ _ _ _ _ _ _ _ _ _ _ _ _ _ [(h0, .inr (3, [.null, .null, .null, .null, .int 0, .int 0]))] _ _ _ _ _
  refine u_aload_n G 0 dX3_init_0 rfl ?_
  refine u_objInit G dX3_init_1 w1_210 w1_18 w1_19 (by decide) (by decide) ?_
  refine u_aload_n G 0 dX3_init_4 rfl ?_
  refine u_new G (ci := 5) blX5 dX3_init_5 inX5 tyX5_ok w1_211 w1_96 w1_6 rfl blX5_ok (by decide) (by decide) (fun q1 => ?_)
  show U _ _ _ _ _ _ _ _ _ _ _ _ _ _ [(h0, .inr (3, [.null, .null, .null, .null, .int 0, .int 0])), (q1, .inr (5, [.null, .null, .null, .null, .int 0, .int 0]))] _ _ _ _ _
  refine u_dup G dX3_init_8 rfl ?_
  refine u_callN G (kq := 1) (As := []) (st := [.ref q1, .ref h0]) (c_R_init l D cy q1 ) rfl [0] [(h0, .inr (3, [.null, .null, .null, .null, .int 0, .int 0]))] rfl (by decide) (by decide) (List.mem_of_getElem? (i := 3) rfl) w1_98 w1_6 w1_99 rfl qyX5_init (by decide) rfl (Nat.le_of_ble_eq_true rfl) dX3_init_9 (by decide) (fun ad2 had2 => ?_)
  subst had2
  show U _ _ _ _ _ _ _ _ _ _ _ _ _ _ [(h0, .inr (3, [.null, .null, .null, .null, .int 0, .int 0])), ((ad2 0), .inr (5, [.ref (ad2 1), .ref (ad2 2), .ref (ad2 3), .ref (ad2 4), .int 0, .int 0])), ((ad2 1), .inl (cy 0, 400, .inl (fun _ => 0))), ((ad2 2), .inl (cy 0, 400, .inl (fun _ => 0))), ((ad2 3), .inl (cy 0, 400, .inl (fun _ => 0))), ((ad2 4), .inr (0, [.ref (ad2 5)])), ((ad2 5), .inl (cy 0, 6400, .inl (fun _ => 0)))] _ _ _ _ _
  refine u_putF G (ci := 3) (T := TX3) 0 3 [(h0, .inr (3, [.null, .null, .null, .ref (ad2 0), .int 0, .int 0])), ((ad2 0), .inr (5, [.ref (ad2 1), .ref (ad2 2), .ref (ad2 3), .ref (ad2 4), .int 0, .int 0])), ((ad2 1), .inl (cy 0, 400, .inl (fun _ => 0))), ((ad2 2), .inl (cy 0, 400, .inl (fun _ => 0))), ((ad2 3), .inl (cy 0, 400, .inl (fun _ => 0))), ((ad2 4), .inr (0, [.ref (ad2 5)])), ((ad2 5), .inl (cy 0, 6400, .inl (fun _ => 0)))] dX3_init_12 inX3 tyX3_ok nmX3 rfl rfl (by decide) w1_218 rfl rfl rfl rfl (Nat.le_of_ble_eq_true rfl) rfl ?_
  refine u_aload_n G 0 dX3_init_15 rfl ?_
  refine u_aload_n G 1 dX3_init_16 rfl ?_
  refine u_putF G (ci := 3) (T := TX3) 0 0 [(h0, .inr (3, [.ref r1, .null, .null, .ref (ad2 0), .int 0, .int 0])), ((ad2 0), .inr (5, [.ref (ad2 1), .ref (ad2 2), .ref (ad2 3), .ref (ad2 4), .int 0, .int 0])), ((ad2 1), .inl (cy 0, 400, .inl (fun _ => 0))), ((ad2 2), .inl (cy 0, 400, .inl (fun _ => 0))), ((ad2 3), .inl (cy 0, 400, .inl (fun _ => 0))), ((ad2 4), .inr (0, [.ref (ad2 5)])), ((ad2 5), .inl (cy 0, 6400, .inl (fun _ => 0)))] dX3_init_17 inX3 tyX3_ok nmX3 rfl rfl (by decide) w1_215 rfl rfl rfl rfl (Nat.le_of_ble_eq_true rfl) rfl ?_
  refine u_sipush G (v := (2048 : Int32)) dX3_init_20 (by decide) ?_
  refine u_newa G 0 (ty := .int) (N := 2048) dX3_init_23 rfl rfl (fun _ h => h) w1_62 (fun _ => rfl) (by decide) (by decide) (by decide) (by decide) (by decide) (fun q3 => ?_)
  show U _ _ _ _ _ _ _ _ _ _ _ _ _ _ [(h0, .inr (3, [.ref r1, .null, .null, .ref (ad2 0), .int 0, .int 0])), ((ad2 0), .inr (5, [.ref (ad2 1), .ref (ad2 2), .ref (ad2 3), .ref (ad2 4), .int 0, .int 0])), ((ad2 1), .inl (cy 0, 400, .inl (fun _ => 0))), ((ad2 2), .inl (cy 0, 400, .inl (fun _ => 0))), ((ad2 3), .inl (cy 0, 400, .inl (fun _ => 0))), ((ad2 4), .inr (0, [.ref (ad2 5)])), ((ad2 5), .inl (cy 0, 6400, .inl (fun _ => 0))), (q3, .inl (cy 0, 2048, .inl (fun _ => 0)))] _ _ _ _ _
  refine u_astore_n G [(2, .ref q3), (0, .ref h0), (1, .ref r1)] dX3_init_25 (by decide) rfl ?_
  refine u_aload_n G 1 dX3_init_26 rfl ?_
  refine u_aload_n G 0 dX3_init_27 rfl ?_
  refine u_putF G (ci := 3) (T := TX3) 0 1 [(h0, .inr (3, [.ref r1, .ref q3, .null, .ref (ad2 0), .int 0, .int 0])), ((ad2 0), .inr (5, [.ref (ad2 1), .ref (ad2 2), .ref (ad2 3), .ref (ad2 4), .int 0, .int 0])), ((ad2 1), .inl (cy 0, 400, .inl (fun _ => 0))), ((ad2 2), .inl (cy 0, 400, .inl (fun _ => 0))), ((ad2 3), .inl (cy 0, 400, .inl (fun _ => 0))), ((ad2 4), .inr (0, [.ref (ad2 5)])), ((ad2 5), .inl (cy 0, 6400, .inl (fun _ => 0))), (q3, .inl (cy 0, 2048, .inl (fun _ => 0)))] dX3_init_28 inX3 tyX3_ok nmX3 rfl rfl (by decide) w1_216 rfl rfl rfl rfl (Nat.le_of_ble_eq_true rfl) rfl ?_
  refine u_aload_n G 1 dX3_init_31 rfl ?_
  refine u_new G (ci := 1) blX1 dX3_init_32 inX1 tyX1_ok w1_213 w1_123 w1_7 rfl blX1_ok (by decide) (by decide) (fun q4 => ?_)
  show U _ _ _ _ _ _ _ _ _ _ _ _ _ _ [(h0, .inr (3, [.ref r1, .ref q3, .null, .ref (ad2 0), .int 0, .int 0])), ((ad2 0), .inr (5, [.ref (ad2 1), .ref (ad2 2), .ref (ad2 3), .ref (ad2 4), .int 0, .int 0])), ((ad2 1), .inl (cy 0, 400, .inl (fun _ => 0))), ((ad2 2), .inl (cy 0, 400, .inl (fun _ => 0))), ((ad2 3), .inl (cy 0, 400, .inl (fun _ => 0))), ((ad2 4), .inr (0, [.ref (ad2 5)])), ((ad2 5), .inl (cy 0, 6400, .inl (fun _ => 0))), (q3, .inl (cy 0, 2048, .inl (fun _ => 0))), (q4, .inr (1, [.null, .null, .null, .null, .int 0, .int 0, .int 0, .int 0, .int 0, .int 0]))] _ _ _ _ _
  refine u_dup G dX3_init_35 rfl ?_
  refine u_aload_n G 2 dX3_init_36 rfl ?_
  refine u_aload_n G 0 dX3_init_37 rfl ?_
  refine u_callI G (kq := 8) (As := [.ref r1, .ref q3]) (st := [.ref q4, .ref h0]) (c_G_init l D cy q4 r1 q3) rfl [0, 1, 2, 3, 4, 5, 6, 7] [(h0, .inr (3, [.ref r1, .ref q3, .null, .ref (ad2 0), .int 0, .int 0])), ((ad2 0), .inr (5, [.ref (ad2 1), .ref (ad2 2), .ref (ad2 3), .ref (ad2 4), .int 0, .int 0])), ((ad2 1), .inl (cy 0, 400, .inl (fun _ => 0))), ((ad2 2), .inl (cy 0, 400, .inl (fun _ => 0))), ((ad2 3), .inl (cy 0, 400, .inl (fun _ => 0))), ((ad2 4), .inr (0, [.ref (ad2 5)])), ((ad2 5), .inl (cy 0, 6400, .inl (fun _ => 0))), (q3, .inl (cy 0, 2048, .inl (fun _ => 0)))] rfl (by decide) (by decide) w1_214 w1_125 w1_7 w1_126 rfl qyX1_init (by decide) rfl (Nat.le_of_ble_eq_true rfl) dX3_init_38 (by decide) (fun ad5 had5 => ?_)
  subst had5
  show U _ _ _ _ _ _ _ _ _ _ _ _ _ _ [(h0, .inr (3, [.ref r1, .ref q3, .null, .ref (ad2 0), .int 0, .int 0])), ((ad2 0), .inr (5, [.ref (ad2 1), .ref (ad2 2), .ref (ad2 3), .ref (ad2 4), .int 0, .int 0])), ((ad2 1), .inl (cy 0, 400, .inl (fun _ => 0))), ((ad2 2), .inl (cy 0, 400, .inl (fun _ => 0))), ((ad2 3), .inl (cy 0, 400, .inl (fun _ => 0))), ((ad2 4), .inr (0, [.ref (ad2 5)])), ((ad2 5), .inl (cy 0, 6400, .inl (fun _ => 0))), (q3, .inl (cy 0, 2048, .inl (fun _ => 0))), ((ad5 0), .inr (1, [.ref r1, .ref (ad5 1), .ref (ad5 2), .ref q3, .int 0, .int 0, .int 0, .int 0, .int 0, .int 0])), ((ad5 1), .inl (cy 0, 36, .inl (fun _ => 0))), ((ad5 2), .inl (cy 0, 1024, .inl (fun _ => 0)))] _ _ _ _ _
  refine u_putF G (ci := 3) (T := TX3) 0 2 [(h0, .inr (3, [.ref r1, .ref q3, .ref (ad5 0), .ref (ad2 0), .int 0, .int 0])), ((ad2 0), .inr (5, [.ref (ad2 1), .ref (ad2 2), .ref (ad2 3), .ref (ad2 4), .int 0, .int 0])), ((ad2 1), .inl (cy 0, 400, .inl (fun _ => 0))), ((ad2 2), .inl (cy 0, 400, .inl (fun _ => 0))), ((ad2 3), .inl (cy 0, 400, .inl (fun _ => 0))), ((ad2 4), .inr (0, [.ref (ad2 5)])), ((ad2 5), .inl (cy 0, 6400, .inl (fun _ => 0))), (q3, .inl (cy 0, 2048, .inl (fun _ => 0))), ((ad5 0), .inr (1, [.ref r1, .ref (ad5 1), .ref (ad5 2), .ref q3, .int 0, .int 0, .int 0, .int 0, .int 0, .int 0])), ((ad5 1), .inl (cy 0, 36, .inl (fun _ => 0))), ((ad5 2), .inl (cy 0, 1024, .inl (fun _ => 0)))] dX3_init_41 inX3 tyX3_ok nmX3 rfl rfl (by decide) w1_217 rfl rfl rfl rfl (Nat.le_of_ble_eq_true rfl) rfl ?_
  exact u_vret (sz := 0) G (fun k => ([h0, (ad2 0), (ad2 1), (ad2 2), (ad2 3), (ad2 4), (ad2 5), q3, (ad5 0), (ad5 1), (ad5 2)] : List Nat).getD k 0) dX3_init_44 rfl [0, 1, 2, 3, 4, 5, 6, 7, 8, 9, 10] (by decide) rfl rfl
/-! SensorNode.<init> -/
set_option linter.unusedVariables false in
set_option maxHeartbeats 4000000 in
set_option maxRecDepth 100000 in
theorem c_S_init (l : Launch) (D : va_G) (cy : Nat → ClassId) (h0 : Nat)  : ConI l D cy yX7_init cX7_init 2 (rmi 4 30 32808) h0 (.inr (7, blX7)) [] (fun ad => [((ad 0), .inr (7, [.ref (ad 4), .ref (ad 1), .ref (ad 7), .ref (ad 20)])), ((ad 1), .inr (4, [.ref (ad 2), .ref (ad 3), .int 0, .int 0, .int 0, .int 0, .int 0, .int 0, .int 0])), ((ad 2), .inl (cy 0, 2048, .inl (fun _ => 0))), ((ad 3), .inl (cy 0, 1000, .inl (fun _ => 0))), ((ad 4), .inr (6, [.ref (ad 5), .int 0, .int 0])), ((ad 5), .inr (0, [.ref (ad 6)])), ((ad 6), .inl (cy 0, 2050, .inl (fun _ => 0))), ((ad 7), .inr (2, [.ref (ad 1), .ref (ad 16), .ref (ad 8), .ref (ad 9), .ref (ad 10), .ref (ad 17), .int 0, .int 0, .int 0, .int 0, .int 0, .int 0, .int 0, .int 0, .int 0])), ((ad 8), .inl (cy 0, 2048, .inl (fun _ => 0))), ((ad 9), .inl (cy 0, 7, .inl (fun _ => 0))), ((ad 10), .inr (5, [.ref (ad 11), .ref (ad 12), .ref (ad 13), .ref (ad 14), .int 0, .int 0])), ((ad 11), .inl (cy 0, 400, .inl (fun _ => 0))), ((ad 12), .inl (cy 0, 400, .inl (fun _ => 0))), ((ad 13), .inl (cy 0, 400, .inl (fun _ => 0))), ((ad 14), .inr (0, [.ref (ad 15)])), ((ad 15), .inl (cy 0, 6400, .inl (fun _ => 0))), ((ad 16), .inl (cy 0, 6219, .inl (fun _ => 0))), ((ad 17), .inr (1, [.ref (ad 1), .ref (ad 18), .ref (ad 19), .ref (ad 16), .int 0, .int 0, .int 0, .int 0, .int 0, .int 0])), ((ad 18), .inl (cy 0, 36, .inl (fun _ => 0))), ((ad 19), .inl (cy 0, 1024, .inl (fun _ => 0))), ((ad 20), .inr (3, [.ref (ad 1), .ref (ad 27), .ref (ad 28), .ref (ad 21), .int 0, .int 0])), ((ad 21), .inr (5, [.ref (ad 22), .ref (ad 23), .ref (ad 24), .ref (ad 25), .int 0, .int 0])), ((ad 22), .inl (cy 0, 400, .inl (fun _ => 0))), ((ad 23), .inl (cy 0, 400, .inl (fun _ => 0))), ((ad 24), .inl (cy 0, 400, .inl (fun _ => 0))), ((ad 25), .inr (0, [.ref (ad 26)])), ((ad 26), .inl (cy 0, 6400, .inl (fun _ => 0))), ((ad 27), .inl (cy 0, 2048, .inl (fun _ => 0))), ((ad 28), .inr (1, [.ref (ad 1), .ref (ad 29), .ref (ad 30), .ref (ad 27), .int 0, .int 0, .int 0, .int 0, .int 0, .int 0])), ((ad 29), .inl (cy 0, 36, .inl (fun _ => 0))), ((ad 30), .inl (cy 0, 1024, .inl (fun _ => 0)))]) := by
  refine conI_of (by decide) rfl (Nat.le_of_ble_eq_true rfl) (lv := [(0, .ref h0)]) rfl ?_
  intro p e s m below meth c G
  have G : uG p s m _ meth c D cy (va_A [(h0, (.inr (7, blX7)))] s.heap.size) "SensorNode" cX7_init 2 := G
  show U _ _ _ _ _ _ _ _ _ _ _ _ _ _ [(h0, .inr (7, [.null, .null, .null, .null]))] _ _ _ _ _
  refine u_aload_n G 0 dX7_init_0 rfl ?_
  refine u_objInit G dX7_init_1 w1_17 w1_18 w1_19 (by decide) (by decide) ?_
  refine u_new G (ci := 4) blX4 dX7_init_4 inX4 tyX4_ok w1_20 w1_21 w1_2 rfl blX4_ok (by decide) (by decide) (fun q1 => ?_)
  show U _ _ _ _ _ _ _ _ _ _ _ _ _ _ [(h0, .inr (7, [.null, .null, .null, .null])), (q1, .inr (4, [.null, .null, .int 0, .int 0, .int 0, .int 0, .int 0, .int 0, .int 0]))] _ _ _ _ _
  refine u_dup G dX7_init_7 rfl ?_
  refine u_callN G (kq := 1) (As := []) (st := [.ref q1]) (c_L_init l D cy q1 ) rfl [0] [(h0, .inr (7, [.null, .null, .null, .null]))] rfl (by decide) (by decide) (List.mem_of_getElem? (i := 0) rfl) w1_23 w1_2 w1_24 rfl qyX4_init (by decide) rfl (Nat.le_of_ble_eq_true rfl) dX7_init_8 (by decide) (fun ad2 had2 => ?_)
  subst had2
  show U _ _ _ _ _ _ _ _ _ _ _ _ _ _ [(h0, .inr (7, [.null, .null, .null, .null])), ((ad2 0), .inr (4, [.ref (ad2 1), .ref (ad2 2), .int 0, .int 0, .int 0, .int 0, .int 0, .int 0, .int 0])), ((ad2 1), .inl (cy 0, 2048, .inl (fun _ => 0))), ((ad2 2), .inl (cy 0, 1000, .inl (fun _ => 0)))] _ _ _ _ _
  refine u_astore_n G [(1, .ref (ad2 0)), (0, .ref h0)] dX7_init_11 (by decide) rfl ?_
  refine u_aload_n G 1 dX7_init_12 rfl ?_
  refine u_new G (ci := 6) blX6 dX7_init_13 inX6 tyX6_ok w1_63 w1_64 w1_3 rfl blX6_ok (by decide) (by decide) (fun q3 => ?_)
  show U _ _ _ _ _ _ _ _ _ _ _ _ _ _ [(h0, .inr (7, [.null, .null, .null, .null])), ((ad2 0), .inr (4, [.ref (ad2 1), .ref (ad2 2), .int 0, .int 0, .int 0, .int 0, .int 0, .int 0, .int 0])), ((ad2 1), .inl (cy 0, 2048, .inl (fun _ => 0))), ((ad2 2), .inl (cy 0, 1000, .inl (fun _ => 0))), (q3, .inr (6, [.null, .int 0, .int 0]))] _ _ _ _ _
  refine u_dup G dX7_init_16 rfl ?_
  refine u_callN G (kq := 4) (As := []) (st := [.ref q3, .ref h0]) (c_T_init l D cy q3 ) rfl [0, 1, 2, 3] [(h0, .inr (7, [.null, .null, .null, .null])), ((ad2 0), .inr (4, [.ref (ad2 1), .ref (ad2 2), .int 0, .int 0, .int 0, .int 0, .int 0, .int 0, .int 0])), ((ad2 1), .inl (cy 0, 2048, .inl (fun _ => 0))), ((ad2 2), .inl (cy 0, 1000, .inl (fun _ => 0)))] rfl (by decide) (by decide) (List.mem_of_getElem? (i := 1) rfl) w1_66 w1_3 w1_67 rfl qyX6_init (by decide) rfl (Nat.le_of_ble_eq_true rfl) dX7_init_17 (by decide) (fun ad4 had4 => ?_)
  subst had4
  show U _ _ _ _ _ _ _ _ _ _ _ _ _ _ [(h0, .inr (7, [.null, .null, .null, .null])), ((ad2 0), .inr (4, [.ref (ad2 1), .ref (ad2 2), .int 0, .int 0, .int 0, .int 0, .int 0, .int 0, .int 0])), ((ad2 1), .inl (cy 0, 2048, .inl (fun _ => 0))), ((ad2 2), .inl (cy 0, 1000, .inl (fun _ => 0))), ((ad4 0), .inr (6, [.ref (ad4 1), .int 0, .int 0])), ((ad4 1), .inr (0, [.ref (ad4 2)])), ((ad4 2), .inl (cy 0, 2050, .inl (fun _ => 0)))] _ _ _ _ _
  refine u_putF G (ci := 7) (T := TX7) 0 0 [(h0, .inr (7, [.ref (ad4 0), .null, .null, .null])), ((ad2 0), .inr (4, [.ref (ad2 1), .ref (ad2 2), .int 0, .int 0, .int 0, .int 0, .int 0, .int 0, .int 0])), ((ad2 1), .inl (cy 0, 2048, .inl (fun _ => 0))), ((ad2 2), .inl (cy 0, 1000, .inl (fun _ => 0))), ((ad4 0), .inr (6, [.ref (ad4 1), .int 0, .int 0])), ((ad4 1), .inr (0, [.ref (ad4 2)])), ((ad4 2), .inl (cy 0, 2050, .inl (fun _ => 0)))] dX7_init_20 inX7 tyX7_ok nmX7 rfl rfl (by decide) w1_234 rfl rfl rfl rfl (Nat.le_of_ble_eq_true rfl) rfl ?_
  refine u_aload_n G 1 dX7_init_23 rfl ?_
  refine u_aload_n G 0 dX7_init_24 rfl ?_
  refine u_putF G (ci := 7) (T := TX7) 0 1 [(h0, .inr (7, [.ref (ad4 0), .ref (ad2 0), .null, .null])), ((ad2 0), .inr (4, [.ref (ad2 1), .ref (ad2 2), .int 0, .int 0, .int 0, .int 0, .int 0, .int 0, .int 0])), ((ad2 1), .inl (cy 0, 2048, .inl (fun _ => 0))), ((ad2 2), .inl (cy 0, 1000, .inl (fun _ => 0))), ((ad4 0), .inr (6, [.ref (ad4 1), .int 0, .int 0])), ((ad4 1), .inr (0, [.ref (ad4 2)])), ((ad4 2), .inl (cy 0, 2050, .inl (fun _ => 0)))] dX7_init_25 inX7 tyX7_ok nmX7 rfl rfl (by decide) w1_235 rfl rfl rfl rfl (Nat.le_of_ble_eq_true rfl) rfl ?_
  refine u_aload_n G 1 dX7_init_28 rfl ?_
  refine u_new G (ci := 2) blX2 dX7_init_29 inX2 tyX2_ok w1_89 w1_90 w1_5 rfl blX2_ok (by decide) (by decide) (fun q5 => ?_)
  show U _ _ _ _ _ _ _ _ _ _ _ _ _ _ [(h0, .inr (7, [.ref (ad4 0), .ref (ad2 0), .null, .null])), ((ad2 0), .inr (4, [.ref (ad2 1), .ref (ad2 2), .int 0, .int 0, .int 0, .int 0, .int 0, .int 0, .int 0])), ((ad2 1), .inl (cy 0, 2048, .inl (fun _ => 0))), ((ad2 2), .inl (cy 0, 1000, .inl (fun _ => 0))), ((ad4 0), .inr (6, [.ref (ad4 1), .int 0, .int 0])), ((ad4 1), .inr (0, [.ref (ad4 2)])), ((ad4 2), .inl (cy 0, 2050, .inl (fun _ => 0))), (q5, .inr (2, [.null, .null, .null, .null, .null, .null, .int 0, .int 0, .int 0, .int 0, .int 0, .int 0, .int 0, .int 0, .int 0]))] _ _ _ _ _
  refine u_dup G dX7_init_32 rfl ?_
  refine u_aload_n G 0 dX7_init_33 rfl ?_
  refine u_callI G (kq := 7) (As := [.ref (ad2 0)]) (st := [.ref q5, .ref h0]) (c_N_init l D cy q5 (ad2 0)) rfl [0, 1, 2, 3, 4, 5, 6] [(h0, .inr (7, [.ref (ad4 0), .ref (ad2 0), .null, .null])), ((ad2 0), .inr (4, [.ref (ad2 1), .ref (ad2 2), .int 0, .int 0, .int 0, .int 0, .int 0, .int 0, .int 0])), ((ad2 1), .inl (cy 0, 2048, .inl (fun _ => 0))), ((ad2 2), .inl (cy 0, 1000, .inl (fun _ => 0))), ((ad4 0), .inr (6, [.ref (ad4 1), .int 0, .int 0])), ((ad4 1), .inr (0, [.ref (ad4 2)])), ((ad4 2), .inl (cy 0, 2050, .inl (fun _ => 0)))] rfl (by decide) (by decide) w1_91 w1_92 w1_5 w1_93 rfl qyX2_init (by decide) rfl (Nat.le_of_ble_eq_true rfl) dX7_init_34 (by decide) (fun ad6 had6 => ?_)
  subst had6
  show U _ _ _ _ _ _ _ _ _ _ _ _ _ _ [(h0, .inr (7, [.ref (ad4 0), .ref (ad2 0), .null, .null])), ((ad2 0), .inr (4, [.ref (ad2 1), .ref (ad2 2), .int 0, .int 0, .int 0, .int 0, .int 0, .int 0, .int 0])), ((ad2 1), .inl (cy 0, 2048, .inl (fun _ => 0))), ((ad2 2), .inl (cy 0, 1000, .inl (fun _ => 0))), ((ad4 0), .inr (6, [.ref (ad4 1), .int 0, .int 0])), ((ad4 1), .inr (0, [.ref (ad4 2)])), ((ad4 2), .inl (cy 0, 2050, .inl (fun _ => 0))), ((ad6 0), .inr (2, [.ref (ad2 0), .ref (ad6 9), .ref (ad6 1), .ref (ad6 2), .ref (ad6 3), .ref (ad6 10), .int 0, .int 0, .int 0, .int 0, .int 0, .int 0, .int 0, .int 0, .int 0])), ((ad6 1), .inl (cy 0, 2048, .inl (fun _ => 0))), ((ad6 2), .inl (cy 0, 7, .inl (fun _ => 0))), ((ad6 3), .inr (5, [.ref (ad6 4), .ref (ad6 5), .ref (ad6 6), .ref (ad6 7), .int 0, .int 0])), ((ad6 4), .inl (cy 0, 400, .inl (fun _ => 0))), ((ad6 5), .inl (cy 0, 400, .inl (fun _ => 0))), ((ad6 6), .inl (cy 0, 400, .inl (fun _ => 0))), ((ad6 7), .inr (0, [.ref (ad6 8)])), ((ad6 8), .inl (cy 0, 6400, .inl (fun _ => 0))), ((ad6 9), .inl (cy 0, 6219, .inl (fun _ => 0))), ((ad6 10), .inr (1, [.ref (ad2 0), .ref (ad6 11), .ref (ad6 12), .ref (ad6 9), .int 0, .int 0, .int 0, .int 0, .int 0, .int 0])), ((ad6 11), .inl (cy 0, 36, .inl (fun _ => 0))), ((ad6 12), .inl (cy 0, 1024, .inl (fun _ => 0)))] _ _ _ _ _
  refine u_putF G (ci := 7) (T := TX7) 0 2 [(h0, .inr (7, [.ref (ad4 0), .ref (ad2 0), .ref (ad6 0), .null])), ((ad2 0), .inr (4, [.ref (ad2 1), .ref (ad2 2), .int 0, .int 0, .int 0, .int 0, .int 0, .int 0, .int 0])), ((ad2 1), .inl (cy 0, 2048, .inl (fun _ => 0))), ((ad2 2), .inl (cy 0, 1000, .inl (fun _ => 0))), ((ad4 0), .inr (6, [.ref (ad4 1), .int 0, .int 0])), ((ad4 1), .inr (0, [.ref (ad4 2)])), ((ad4 2), .inl (cy 0, 2050, .inl (fun _ => 0))), ((ad6 0), .inr (2, [.ref (ad2 0), .ref (ad6 9), .ref (ad6 1), .ref (ad6 2), .ref (ad6 3), .ref (ad6 10), .int 0, .int 0, .int 0, .int 0, .int 0, .int 0, .int 0, .int 0, .int 0])), ((ad6 1), .inl (cy 0, 2048, .inl (fun _ => 0))), ((ad6 2), .inl (cy 0, 7, .inl (fun _ => 0))), ((ad6 3), .inr (5, [.ref (ad6 4), .ref (ad6 5), .ref (ad6 6), .ref (ad6 7), .int 0, .int 0])), ((ad6 4), .inl (cy 0, 400, .inl (fun _ => 0))), ((ad6 5), .inl (cy 0, 400, .inl (fun _ => 0))), ((ad6 6), .inl (cy 0, 400, .inl (fun _ => 0))), ((ad6 7), .inr (0, [.ref (ad6 8)])), ((ad6 8), .inl (cy 0, 6400, .inl (fun _ => 0))), ((ad6 9), .inl (cy 0, 6219, .inl (fun _ => 0))), ((ad6 10), .inr (1, [.ref (ad2 0), .ref (ad6 11), .ref (ad6 12), .ref (ad6 9), .int 0, .int 0, .int 0, .int 0, .int 0, .int 0])), ((ad6 11), .inl (cy 0, 36, .inl (fun _ => 0))), ((ad6 12), .inl (cy 0, 1024, .inl (fun _ => 0)))] dX7_init_37 inX7 tyX7_ok nmX7 rfl rfl (by decide) w1_236 rfl rfl rfl rfl (Nat.le_of_ble_eq_true rfl) rfl ?_
  refine u_aload_n G 1 dX7_init_40 rfl ?_
  refine u_new G (ci := 3) blX3 dX7_init_41 inX3 tyX3_ok w1_205 w1_206 w1_8 rfl blX3_ok (by decide) (by decide) (fun q7 => ?_)
  show U _ _ _ _ _ _ _ _ _ _ _ _ _ _ [(h0, .inr (7, [.ref (ad4 0), .ref (ad2 0), .ref (ad6 0), .null])), ((ad2 0), .inr (4, [.ref (ad2 1), .ref (ad2 2), .int 0, .int 0, .int 0, .int 0, .int 0, .int 0, .int 0])), ((ad2 1), .inl (cy 0, 2048, .inl (fun _ => 0))), ((ad2 2), .inl (cy 0, 1000, .inl (fun _ => 0))), ((ad4 0), .inr (6, [.ref (ad4 1), .int 0, .int 0])), ((ad4 1), .inr (0, [.ref (ad4 2)])), ((ad4 2), .inl (cy 0, 2050, .inl (fun _ => 0))), ((ad6 0), .inr (2, [.ref (ad2 0), .ref (ad6 9), .ref (ad6 1), .ref (ad6 2), .ref (ad6 3), .ref (ad6 10), .int 0, .int 0, .int 0, .int 0, .int 0, .int 0, .int 0, .int 0, .int 0])), ((ad6 1), .inl (cy 0, 2048, .inl (fun _ => 0))), ((ad6 2), .inl (cy 0, 7, .inl (fun _ => 0))), ((ad6 3), .inr (5, [.ref (ad6 4), .ref (ad6 5), .ref (ad6 6), .ref (ad6 7), .int 0, .int 0])), ((ad6 4), .inl (cy 0, 400, .inl (fun _ => 0))), ((ad6 5), .inl (cy 0, 400, .inl (fun _ => 0))), ((ad6 6), .inl (cy 0, 400, .inl (fun _ => 0))), ((ad6 7), .inr (0, [.ref (ad6 8)])), ((ad6 8), .inl (cy 0, 6400, .inl (fun _ => 0))), ((ad6 9), .inl (cy 0, 6219, .inl (fun _ => 0))), ((ad6 10), .inr (1, [.ref (ad2 0), .ref (ad6 11), .ref (ad6 12), .ref (ad6 9), .int 0, .int 0, .int 0, .int 0, .int 0, .int 0])), ((ad6 11), .inl (cy 0, 36, .inl (fun _ => 0))), ((ad6 12), .inl (cy 0, 1024, .inl (fun _ => 0))), (q7, .inr (3, [.null, .null, .null, .null, .int 0, .int 0]))] _ _ _ _ _
  refine u_dup G dX7_init_44 rfl ?_
  refine u_aload_n G 0 dX7_init_45 rfl ?_
  refine u_callI G (kq := 20) (As := [.ref (ad2 0)]) (st := [.ref q7, .ref h0]) (c_P_init l D cy q7 (ad2 0)) rfl [0, 1, 2, 3, 4, 5, 6, 7, 8, 9, 10, 11, 12, 13, 14, 15, 16, 17, 18, 19] [(h0, .inr (7, [.ref (ad4 0), .ref (ad2 0), .ref (ad6 0), .null])), ((ad2 0), .inr (4, [.ref (ad2 1), .ref (ad2 2), .int 0, .int 0, .int 0, .int 0, .int 0, .int 0, .int 0])), ((ad2 1), .inl (cy 0, 2048, .inl (fun _ => 0))), ((ad2 2), .inl (cy 0, 1000, .inl (fun _ => 0))), ((ad4 0), .inr (6, [.ref (ad4 1), .int 0, .int 0])), ((ad4 1), .inr (0, [.ref (ad4 2)])), ((ad4 2), .inl (cy 0, 2050, .inl (fun _ => 0))), ((ad6 0), .inr (2, [.ref (ad2 0), .ref (ad6 9), .ref (ad6 1), .ref (ad6 2), .ref (ad6 3), .ref (ad6 10), .int 0, .int 0, .int 0, .int 0, .int 0, .int 0, .int 0, .int 0, .int 0])), ((ad6 1), .inl (cy 0, 2048, .inl (fun _ => 0))), ((ad6 2), .inl (cy 0, 7, .inl (fun _ => 0))), ((ad6 3), .inr (5, [.ref (ad6 4), .ref (ad6 5), .ref (ad6 6), .ref (ad6 7), .int 0, .int 0])), ((ad6 4), .inl (cy 0, 400, .inl (fun _ => 0))), ((ad6 5), .inl (cy 0, 400, .inl (fun _ => 0))), ((ad6 6), .inl (cy 0, 400, .inl (fun _ => 0))), ((ad6 7), .inr (0, [.ref (ad6 8)])), ((ad6 8), .inl (cy 0, 6400, .inl (fun _ => 0))), ((ad6 9), .inl (cy 0, 6219, .inl (fun _ => 0))), ((ad6 10), .inr (1, [.ref (ad2 0), .ref (ad6 11), .ref (ad6 12), .ref (ad6 9), .int 0, .int 0, .int 0, .int 0, .int 0, .int 0])), ((ad6 11), .inl (cy 0, 36, .inl (fun _ => 0))), ((ad6 12), .inl (cy 0, 1024, .inl (fun _ => 0)))] rfl (by decide) (by decide) w1_207 w1_208 w1_8 w1_209 rfl qyX3_init (by decide) rfl (Nat.le_of_ble_eq_true rfl) dX7_init_46 (by decide) (fun ad8 had8 => ?_)
  subst had8
  show U _ _ _ _ _ _ _ _ _ _ _ _ _ _ [(h0, .inr (7, [.ref (ad4 0), .ref (ad2 0), .ref (ad6 0), .null])), ((ad2 0), .inr (4, [.ref (ad2 1), .ref (ad2 2), .int 0, .int 0, .int 0, .int 0, .int 0, .int 0, .int 0])), ((ad2 1), .inl (cy 0, 2048, .inl (fun _ => 0))), ((ad2 2), .inl (cy 0, 1000, .inl (fun _ => 0))), ((ad4 0), .inr (6, [.ref (ad4 1), .int 0, .int 0])), ((ad4 1), .inr (0, [.ref (ad4 2)])), ((ad4 2), .inl (cy 0, 2050, .inl (fun _ => 0))), ((ad6 0), .inr (2, [.ref (ad2 0), .ref (ad6 9), .ref (ad6 1), .ref (ad6 2), .ref (ad6 3), .ref (ad6 10), .int 0, .int 0, .int 0, .int 0, .int 0, .int 0, .int 0, .int 0, .int 0])), ((ad6 1), .inl (cy 0, 2048, .inl (fun _ => 0))), ((ad6 2), .inl (cy 0, 7, .inl (fun _ => 0))), ((ad6 3), .inr (5, [.ref (ad6 4), .ref (ad6 5), .ref (ad6 6), .ref (ad6 7), .int 0, .int 0])), ((ad6 4), .inl (cy 0, 400, .inl (fun _ => 0))), ((ad6 5), .inl (cy 0, 400, .inl (fun _ => 0))), ((ad6 6), .inl (cy 0, 400, .inl (fun _ => 0))), ((ad6 7), .inr (0, [.ref (ad6 8)])), ((ad6 8), .inl (cy 0, 6400, .inl (fun _ => 0))), ((ad6 9), .inl (cy 0, 6219, .inl (fun _ => 0))), ((ad6 10), .inr (1, [.ref (ad2 0), .ref (ad6 11), .ref (ad6 12), .ref (ad6 9), .int 0, .int 0, .int 0, .int 0, .int 0, .int 0])), ((ad6 11), .inl (cy 0, 36, .inl (fun _ => 0))), ((ad6 12), .inl (cy 0, 1024, .inl (fun _ => 0))), ((ad8 0), .inr (3, [.ref (ad2 0), .ref (ad8 7), .ref (ad8 8), .ref (ad8 1), .int 0, .int 0])), ((ad8 1), .inr (5, [.ref (ad8 2), .ref (ad8 3), .ref (ad8 4), .ref (ad8 5), .int 0, .int 0])), ((ad8 2), .inl (cy 0, 400, .inl (fun _ => 0))), ((ad8 3), .inl (cy 0, 400, .inl (fun _ => 0))), ((ad8 4), .inl (cy 0, 400, .inl (fun _ => 0))), ((ad8 5), .inr (0, [.ref (ad8 6)])), ((ad8 6), .inl (cy 0, 6400, .inl (fun _ => 0))), ((ad8 7), .inl (cy 0, 2048, .inl (fun _ => 0))), ((ad8 8), .inr (1, [.ref (ad2 0), .ref (ad8 9), .ref (ad8 10), .ref (ad8 7), .int 0, .int 0, .int 0, .int 0, .int 0, .int 0])), ((ad8 9), .inl (cy 0, 36, .inl (fun _ => 0))), ((ad8 10), .inl (cy 0, 1024, .inl (fun _ => 0)))] _ _ _ _ _
  refine u_putF G (ci := 7) (T := TX7) 0 3 [(h0, .inr (7, [.ref (ad4 0), .ref (ad2 0), .ref (ad6 0), .ref (ad8 0)])), ((ad2 0), .inr (4, [.ref (ad2 1), .ref (ad2 2), .int 0, .int 0, .int 0, .int 0, .int 0, .int 0, .int 0])), ((ad2 1), .inl (cy 0, 2048, .inl (fun _ => 0))), ((ad2 2), .inl (cy 0, 1000, .inl (fun _ => 0))), ((ad4 0), .inr (6, [.ref (ad4 1), .int 0, .int 0])), ((ad4 1), .inr (0, [.ref (ad4 2)])), ((ad4 2), .inl (cy 0, 2050, .inl (fun _ => 0))), ((ad6 0), .inr (2, [.ref (ad2 0), .ref (ad6 9), .ref (ad6 1), .ref (ad6 2), .ref (ad6 3), .ref (ad6 10), .int 0, .int 0, .int 0, .int 0, .int 0, .int 0, .int 0, .int 0, .int 0])), ((ad6 1), .inl (cy 0, 2048, .inl (fun _ => 0))), ((ad6 2), .inl (cy 0, 7, .inl (fun _ => 0))), ((ad6 3), .inr (5, [.ref (ad6 4), .ref (ad6 5), .ref (ad6 6), .ref (ad6 7), .int 0, .int 0])), ((ad6 4), .inl (cy 0, 400, .inl (fun _ => 0))), ((ad6 5), .inl (cy 0, 400, .inl (fun _ => 0))), ((ad6 6), .inl (cy 0, 400, .inl (fun _ => 0))), ((ad6 7), .inr (0, [.ref (ad6 8)])), ((ad6 8), .inl (cy 0, 6400, .inl (fun _ => 0))), ((ad6 9), .inl (cy 0, 6219, .inl (fun _ => 0))), ((ad6 10), .inr (1, [.ref (ad2 0), .ref (ad6 11), .ref (ad6 12), .ref (ad6 9), .int 0, .int 0, .int 0, .int 0, .int 0, .int 0])), ((ad6 11), .inl (cy 0, 36, .inl (fun _ => 0))), ((ad6 12), .inl (cy 0, 1024, .inl (fun _ => 0))), ((ad8 0), .inr (3, [.ref (ad2 0), .ref (ad8 7), .ref (ad8 8), .ref (ad8 1), .int 0, .int 0])), ((ad8 1), .inr (5, [.ref (ad8 2), .ref (ad8 3), .ref (ad8 4), .ref (ad8 5), .int 0, .int 0])), ((ad8 2), .inl (cy 0, 400, .inl (fun _ => 0))), ((ad8 3), .inl (cy 0, 400, .inl (fun _ => 0))), ((ad8 4), .inl (cy 0, 400, .inl (fun _ => 0))), ((ad8 5), .inr (0, [.ref (ad8 6)])), ((ad8 6), .inl (cy 0, 6400, .inl (fun _ => 0))), ((ad8 7), .inl (cy 0, 2048, .inl (fun _ => 0))), ((ad8 8), .inr (1, [.ref (ad2 0), .ref (ad8 9), .ref (ad8 10), .ref (ad8 7), .int 0, .int 0, .int 0, .int 0, .int 0, .int 0])), ((ad8 9), .inl (cy 0, 36, .inl (fun _ => 0))), ((ad8 10), .inl (cy 0, 1024, .inl (fun _ => 0)))] dX7_init_49 inX7 tyX7_ok nmX7 rfl rfl (by decide) w1_237 rfl rfl rfl rfl (Nat.le_of_ble_eq_true rfl) rfl ?_
  exact u_vret (sz := 0) G (fun k => ([h0, (ad2 0), (ad2 1), (ad2 2), (ad4 0), (ad4 1), (ad4 2), (ad6 0), (ad6 1), (ad6 2), (ad6 3), (ad6 4), (ad6 5), (ad6 6), (ad6 7), (ad6 8), (ad6 9), (ad6 10), (ad6 11), (ad6 12), (ad8 0), (ad8 1), (ad8 2), (ad8 3), (ad8 4), (ad8 5), (ad8 6), (ad8 7), (ad8 8), (ad8 9), (ad8 10)] : List Nat).getD k 0) dX7_init_52 rfl [0, 1, 2, 3, 4, 5, 6, 7, 8, 9, 10, 11, 12, 13, 14, 15, 16, 17, 18, 19, 20, 21, 22, 23, 24, 25, 26, 27, 28, 29, 30] (by decide) rfl rfl
/-! SensorNodeModel$Air.<init> -/
set_option linter.unusedVariables false in
set_option maxHeartbeats 4000000 in
set_option maxRecDepth 100000 in
theorem c_A_init (l : Launch) (D : va_G) (cy : Nat → ClassId) (h0 : Nat)  : ConI l D cy yX8_init cX8_init 1 (rmi 1 4 26800) h0 (.inr (8, blX8)) [] (fun ad => [((ad 0), .inr (8, [.int 0, .ref (ad 1), .ref (ad 2), .ref (ad 3), .ref (ad 4)])), ((ad 1), .inl (cy 0, 400, .inl (fun _ => 0))), ((ad 2), .inl (cy 0, 400, .inl (fun _ => 0))), ((ad 3), .inl (cy 0, 400, .inl (fun _ => 0))), ((ad 4), .inl (cy 1, 25600, .inl (fun _ => 0)))]) := by
  refine conI_of (by decide) rfl (Nat.le_of_ble_eq_true rfl) (lv := [(0, .ref h0)]) rfl ?_
  intro p e s m below meth c G
  have G : uG p s m _ meth c D cy (va_A [(h0, (.inr (8, blX8)))] s.heap.size) "SensorNodeModel$Air" cX8_init 1 := G
  show U _ _ _ _ _ _ _ _ _ _ _ _ _ _ [(h0, .inr (8, [.int 0, .null, .null, .null, .null]))] _ _ _ _ _
  refine u_aload_n G 0 dX8_init_0 rfl ?_
  refine u_objInit G dX8_init_1 w4_68 w1_18 w1_19 (by decide) (by decide) ?_
  refine u_aload_n G 0 dX8_init_4 rfl ?_
  refine u_sipush G (v := (400 : Int32)) dX8_init_5 (by decide) ?_
  refine u_newa G 0 (ty := .int) (N := 400) dX8_init_8 rfl rfl (fun _ h => h) w1_62 (fun _ => rfl) (by decide) (by decide) (by decide) (by decide) (by decide) (fun q1 => ?_)
  show U _ _ _ _ _ _ _ _ _ _ _ _ _ _ [(h0, .inr (8, [.int 0, .null, .null, .null, .null])), (q1, .inl (cy 0, 400, .inl (fun _ => 0)))] _ _ _ _ _
  refine u_putF G (ci := 8) (T := TX8) 0 1 [(h0, .inr (8, [.int 0, .ref q1, .null, .null, .null])), (q1, .inl (cy 0, 400, .inl (fun _ => 0)))] dX8_init_10 inX8 tyX8_ok nmX8 rfl rfl (by decide) w4_72 rfl rfl rfl rfl (Nat.le_of_ble_eq_true rfl) rfl ?_
  refine u_aload_n G 0 dX8_init_13 rfl ?_
  refine u_sipush G (v := (400 : Int32)) dX8_init_14 (by decide) ?_
  refine u_newa G 0 (ty := .int) (N := 400) dX8_init_17 rfl rfl (fun _ h => h) w1_62 (fun _ => rfl) (by decide) (by decide) (by decide) (by decide) (by decide) (fun q2 => ?_)
  show U _ _ _ _ _ _ _ _ _ _ _ _ _ _ [(h0, .inr (8, [.int 0, .ref q1, .null, .null, .null])), (q1, .inl (cy 0, 400, .inl (fun _ => 0))), (q2, .inl (cy 0, 400, .inl (fun _ => 0)))] _ _ _ _ _
  refine u_putF G (ci := 8) (T := TX8) 0 2 [(h0, .inr (8, [.int 0, .ref q1, .ref q2, .null, .null])), (q1, .inl (cy 0, 400, .inl (fun _ => 0))), (q2, .inl (cy 0, 400, .inl (fun _ => 0)))] dX8_init_19 inX8 tyX8_ok nmX8 rfl rfl (by decide) w4_75 rfl rfl rfl rfl (Nat.le_of_ble_eq_true rfl) rfl ?_
  refine u_aload_n G 0 dX8_init_22 rfl ?_
  refine u_sipush G (v := (400 : Int32)) dX8_init_23 (by decide) ?_
  refine u_newa G 0 (ty := .int) (N := 400) dX8_init_26 rfl rfl (fun _ h => h) w1_62 (fun _ => rfl) (by decide) (by decide) (by decide) (by decide) (by decide) (fun q3 => ?_)
  show U _ _ _ _ _ _ _ _ _ _ _ _ _ _ [(h0, .inr (8, [.int 0, .ref q1, .ref q2, .null, .null])), (q1, .inl (cy 0, 400, .inl (fun _ => 0))), (q2, .inl (cy 0, 400, .inl (fun _ => 0))), (q3, .inl (cy 0, 400, .inl (fun _ => 0)))] _ _ _ _ _
  refine u_putF G (ci := 8) (T := TX8) 0 3 [(h0, .inr (8, [.int 0, .ref q1, .ref q2, .ref q3, .null])), (q1, .inl (cy 0, 400, .inl (fun _ => 0))), (q2, .inl (cy 0, 400, .inl (fun _ => 0))), (q3, .inl (cy 0, 400, .inl (fun _ => 0)))] dX8_init_28 inX8 tyX8_ok nmX8 rfl rfl (by decide) w4_78 rfl rfl rfl rfl (Nat.le_of_ble_eq_true rfl) rfl ?_
  refine u_aload_n G 0 dX8_init_31 rfl ?_
  refine u_sipush G (v := (25600 : Int32)) dX8_init_32 (by decide) ?_
  refine u_newa G 1 (ty := .byte) (N := 25600) dX8_init_35 rfl rfl (fun _ h => h) w4_94 (fun _ => rfl) (by decide) (by decide) (by decide) (by decide) (by decide) (fun q4 => ?_)
  show U _ _ _ _ _ _ _ _ _ _ _ _ _ _ [(h0, .inr (8, [.int 0, .ref q1, .ref q2, .ref q3, .null])), (q1, .inl (cy 0, 400, .inl (fun _ => 0))), (q2, .inl (cy 0, 400, .inl (fun _ => 0))), (q3, .inl (cy 0, 400, .inl (fun _ => 0))), (q4, .inl (cy 1, 25600, .inl (fun _ => 0)))] _ _ _ _ _
  refine u_putF G (ci := 8) (T := TX8) 0 4 [(h0, .inr (8, [.int 0, .ref q1, .ref q2, .ref q3, .ref q4])), (q1, .inl (cy 0, 400, .inl (fun _ => 0))), (q2, .inl (cy 0, 400, .inl (fun _ => 0))), (q3, .inl (cy 0, 400, .inl (fun _ => 0))), (q4, .inl (cy 1, 25600, .inl (fun _ => 0)))] dX8_init_37 inX8 tyX8_ok nmX8 rfl rfl (by decide) w4_81 rfl rfl rfl rfl (Nat.le_of_ble_eq_true rfl) rfl ?_
  exact u_vret (sz := 0) G (fun k => ([h0, q1, q2, q3, q4] : List Nat).getD k 0) dX8_init_40 rfl [0, 1, 2, 3, 4] (by decide) rfl rfl
/-! SensorNodeModel$Guest.<init> -/
set_option linter.unusedVariables false in
set_option maxHeartbeats 4000000 in
set_option maxRecDepth 100000 in
theorem c_H_init (l : Launch) (D : va_G) (cy : Nat → ClassId) (h0 : Nat) (r1 : Nat) : ConI l D cy yX9_init cX9_init 2 (rmi 1 2 1056) h0 (.inr (9, blX9)) [.ref r1] (fun ad => [((ad 0), .inr (9, [.ref (ad 1), .int 0, .int 0, .int 0, .int 0, .ref (ad 2), .int 0, .int 0, .null, .int 0, .ref r1, .int 0, .int 0, .int 0, .int 0, .int 0, .int 0, .int 0, .int 0, .int 0])), ((ad 1), .inl (cy 0, 32, .inl (fun _ => 0))), ((ad 2), .inl (cy 0, 1024, .inl (fun _ => 0)))]) := by
  refine conI_of (by decide) rfl (Nat.le_of_ble_eq_true rfl) (lv := [(0, .ref h0), (1, .ref r1)]) rfl ?_
  intro p e s m below meth c G
  have G : uG p s m _ meth c D cy (va_A [(h0, (.inr (9, blX9)))] s.heap.size) "SensorNodeModel$Guest" cX9_init 2 := G
  show U _ _ _ _ _ _ _ _ _ _ _ _ _ _ [(h0, .inr (9, [.null, .int 0, .int 0, .int 0, .int 0, .null, .int 0, .int 0, .null, .int 0, .null, .int 0, .int 0, .int 0, .int 0, .int 0, .int 0, .int 0, .int 0, .int 0]))] _ _ _ _ _
  refine u_aload_n G 0 dX9_init_0 rfl ?_
  refine u_objInit G dX9_init_1 w3_227 w1_18 w1_19 (by decide) (by decide) ?_
  refine u_aload_n G 0 dX9_init_4 rfl ?_
  refine u_bipush G (v := (32 : Int32)) dX9_init_5 (by decide) ?_
  refine u_newa G 0 (ty := .int) (N := 32) dX9_init_7 rfl rfl (fun _ h => h) w1_62 (fun _ => rfl) (by decide) (by decide) (by decide) (by decide) (by decide) (fun q1 => ?_)
  show U _ _ _ _ _ _ _ _ _ _ _ _ _ _ [(h0, .inr (9, [.null, .int 0, .int 0, .int 0, .int 0, .null, .int 0, .int 0, .null, .int 0, .null, .int 0, .int 0, .int 0, .int 0, .int 0, .int 0, .int 0, .int 0, .int 0])), (q1, .inl (cy 0, 32, .inl (fun _ => 0)))] _ _ _ _ _
  refine u_putF G (ci := 9) (T := TX9) 0 0 [(h0, .inr (9, [.ref q1, .int 0, .int 0, .int 0, .int 0, .null, .int 0, .int 0, .null, .int 0, .null, .int 0, .int 0, .int 0, .int 0, .int 0, .int 0, .int 0, .int 0, .int 0])), (q1, .inl (cy 0, 32, .inl (fun _ => 0)))] dX9_init_9 inX9 tyX9_ok nmX9 rfl rfl (by decide) w3_228 rfl rfl rfl rfl (Nat.le_of_ble_eq_true rfl) rfl ?_
  refine u_aload_n G 0 dX9_init_12 rfl ?_
  refine u_sipush G (v := (1024 : Int32)) dX9_init_13 (by decide) ?_
  refine u_newa G 0 (ty := .int) (N := 1024) dX9_init_16 rfl rfl (fun _ h => h) w1_62 (fun _ => rfl) (by decide) (by decide) (by decide) (by decide) (by decide) (fun q2 => ?_)
  show U _ _ _ _ _ _ _ _ _ _ _ _ _ _ [(h0, .inr (9, [.ref q1, .int 0, .int 0, .int 0, .int 0, .null, .int 0, .int 0, .null, .int 0, .null, .int 0, .int 0, .int 0, .int 0, .int 0, .int 0, .int 0, .int 0, .int 0])), (q1, .inl (cy 0, 32, .inl (fun _ => 0))), (q2, .inl (cy 0, 1024, .inl (fun _ => 0)))] _ _ _ _ _
  refine u_putF G (ci := 9) (T := TX9) 0 5 [(h0, .inr (9, [.ref q1, .int 0, .int 0, .int 0, .int 0, .ref q2, .int 0, .int 0, .null, .int 0, .null, .int 0, .int 0, .int 0, .int 0, .int 0, .int 0, .int 0, .int 0, .int 0])), (q1, .inl (cy 0, 32, .inl (fun _ => 0))), (q2, .inl (cy 0, 1024, .inl (fun _ => 0)))] dX9_init_18 inX9 tyX9_ok nmX9 rfl rfl (by decide) w3_238 rfl rfl rfl rfl (Nat.le_of_ble_eq_true rfl) rfl ?_
  refine u_aload_n G 0 dX9_init_21 rfl ?_
  refine u_aload_n G 1 dX9_init_22 rfl ?_
  refine u_putF G (ci := 9) (T := TX9) 0 10 [(h0, .inr (9, [.ref q1, .int 0, .int 0, .int 0, .int 0, .ref q2, .int 0, .int 0, .null, .int 0, .ref r1, .int 0, .int 0, .int 0, .int 0, .int 0, .int 0, .int 0, .int 0, .int 0])), (q1, .inl (cy 0, 32, .inl (fun _ => 0))), (q2, .inl (cy 0, 1024, .inl (fun _ => 0)))] dX9_init_23 inX9 tyX9_ok nmX9 rfl rfl (by decide) w4_8 rfl rfl rfl rfl (Nat.le_of_ble_eq_true rfl) rfl ?_
  exact u_vret (sz := 0) G (fun k => ([h0, q1, q2] : List Nat).getD k 0) dX9_init_26 rfl [0, 1, 2] (by decide) rfl rfl
/-! SensorNodeModel.<init> -/
set_option linter.unusedVariables false in
set_option maxHeartbeats 4000000 in
set_option maxRecDepth 100000 in
theorem c_M_init (l : Launch) (D : va_G) (cy : Nat → ClassId) (h0 : Nat)  : ConI l D cy yX10_init cX10_init 1 (rmi 2 22 77325) h0 (.inr (10, blX10)) [] (fun ad => [((ad 0), .inr (10, [.int 0, .int 0, .int 0, .int 0, .int 0, .int 0, .int 0, .int 0, .int 0, .int 0, .int 0, .ref (ad 1), .ref (ad 2), .ref (ad 3), .ref (ad 4), .ref (ad 7), .ref (ad 10), .int 0, .ref (ad 11), .ref (ad 16), .int 0, .int 0, .int 0, .int 0, .ref (ad 21), .int 0, .int 0, .int 0, .int 0, .int 0, .int 0, .int 0, .int 0, .ref (ad 22), .int 0, .int 0])), ((ad 1), .inl (cy 0, 6219, .inl (fun _ => 0))), ((ad 2), .inl (cy 0, 2048, .inl (fun _ => 0))), ((ad 3), .inl (cy 0, 1000, .inl (fun _ => 0))), ((ad 4), .inr (9, [.ref (ad 5), .int 0, .int 0, .int 0, .int 0, .ref (ad 6), .int 0, .int 0, .null, .int 0, .ref (ad 3), .int 0, .int 0, .int 0, .int 0, .int 0, .int 0, .int 0, .int 0, .int 0])), ((ad 5), .inl (cy 0, 32, .inl (fun _ => 0))), ((ad 6), .inl (cy 0, 1024, .inl (fun _ => 0))), ((ad 7), .inr (9, [.ref (ad 8), .int 0, .int 0, .int 0, .int 0, .ref (ad 9), .int 0, .int 0, .null, .int 0, .ref (ad 3), .int 0, .int 0, .int 0, .int 0, .int 0, .int 0, .int 0, .int 0, .int 0])), ((ad 8), .inl (cy 0, 32, .inl (fun _ => 0))), ((ad 9), .inl (cy 0, 1024, .inl (fun _ => 0))), ((ad 10), .inl (cy 0, 2048, .inl (fun _ => 0))), ((ad 11), .inr (8, [.int 0, .ref (ad 12), .ref (ad 13), .ref (ad 14), .ref (ad 15)])), ((ad 12), .inl (cy 0, 400, .inl (fun _ => 0))), ((ad 13), .inl (cy 0, 400, .inl (fun _ => 0))), ((ad 14), .inl (cy 0, 400, .inl (fun _ => 0))), ((ad 15), .inl (cy 1, 25600, .inl (fun _ => 0))), ((ad 16), .inr (8, [.int 0, .ref (ad 17), .ref (ad 18), .ref (ad 19), .ref (ad 20)])), ((ad 17), .inl (cy 0, 400, .inl (fun _ => 0))), ((ad 18), .inl (cy 0, 400, .inl (fun _ => 0))), ((ad 19), .inl (cy 0, 400, .inl (fun _ => 0))), ((ad 20), .inl (cy 1, 25600, .inl (fun _ => 0))), ((ad 21), .inl (cy 2, 2048, .inl (fun _ => 0))), ((ad 22), .inl (cy 1, 8200, .inl (fun _ => 0)))]) := by
  refine conI_of (by decide) rfl (Nat.le_of_ble_eq_true rfl) (lv := [(0, .ref h0)]) rfl ?_
  intro p e s m below meth c G
  have G : uG p s m _ meth c D cy (va_A [(h0, (.inr (10, blX10)))] s.heap.size) "SensorNodeModel" cX10_init 1 := G
  show U _ _ _ _ _ _ _ _ _ _ _ _ _ _ [(h0, .inr (10, [.int 0, .int 0, .int 0, .int 0, .int 0, .int 0, .int 0, .int 0, .int 0, .int 0, .int 0, .null, .null, .null, .null, .null, .null, .int 0, .null, .null, .int 0, .int 0, .int 0, .int 0, .null, .int 0, .int 0, .int 0, .int 0, .int 0, .int 0, .int 0, .int 0, .null, .int 0, .int 0]))] _ _ _ _ _
  refine u_aload_n G 0 dX10_init_0 rfl ?_
  refine u_objInit G dX10_init_1 w3_221 w1_18 w1_19 (by decide) (by decide) ?_
  refine u_aload_n G 0 dX10_init_4 rfl ?_
  refine u_sipush G (v := (6219 : Int32)) dX10_init_5 (by decide) ?_
  refine u_newa G 0 (ty := .int) (N := 6219) dX10_init_8 rfl rfl (fun _ h => h) w1_62 (fun _ => rfl) (by decide) (by decide) (by decide) (by decide) (by decide) (fun q1 => ?_)
  show U _ _ _ _ _ _ _ _ _ _ _ _ _ _ [(h0, .inr (10, [.int 0, .int 0, .int 0, .int 0, .int 0, .int 0, .int 0, .int 0, .int 0, .int 0, .int 0, .null, .null, .null, .null, .null, .null, .int 0, .null, .null, .int 0, .int 0, .int 0, .int 0, .null, .int 0, .int 0, .int 0, .int 0, .int 0, .int 0, .int 0, .int 0, .null, .int 0, .int 0])), (q1, .inl (cy 0, 6219, .inl (fun _ => 0)))] _ _ _ _ _
  refine u_putF G (ci := 10) (T := TX10) 0 11 [(h0, .inr (10, [.int 0, .int 0, .int 0, .int 0, .int 0, .int 0, .int 0, .int 0, .int 0, .int 0, .int 0, .ref q1, .null, .null, .null, .null, .null, .int 0, .null, .null, .int 0, .int 0, .int 0, .int 0, .null, .int 0, .int 0, .int 0, .int 0, .int 0, .int 0, .int 0, .int 0, .null, .int 0, .int 0])), (q1, .inl (cy 0, 6219, .inl (fun _ => 0)))] dX10_init_10 inX10 tyX10_ok nmX10 rfl rfl (by decide) w4_106 rfl rfl rfl rfl (Nat.le_of_ble_eq_true rfl) rfl ?_
  refine u_aload_n G 0 dX10_init_13 rfl ?_
  refine u_sipush G (v := (2048 : Int32)) dX10_init_14 (by decide) ?_
  refine u_newa G 0 (ty := .int) (N := 2048) dX10_init_17 rfl rfl (fun _ h => h) w1_62 (fun _ => rfl) (by decide) (by decide) (by decide) (by decide) (by decide) (fun q2 => ?_)
  show U _ _ _ _ _ _ _ _ _ _ _ _ _ _ [(h0, .inr (10, [.int 0, .int 0, .int 0, .int 0, .int 0, .int 0, .int 0, .int 0, .int 0, .int 0, .int 0, .ref q1, .null, .null, .null, .null, .null, .int 0, .null, .null, .int 0, .int 0, .int 0, .int 0, .null, .int 0, .int 0, .int 0, .int 0, .int 0, .int 0, .int 0, .int 0, .null, .int 0, .int 0])), (q1, .inl (cy 0, 6219, .inl (fun _ => 0))), (q2, .inl (cy 0, 2048, .inl (fun _ => 0)))] _ _ _ _ _
  refine u_putF G (ci := 10) (T := TX10) 0 12 [(h0, .inr (10, [.int 0, .int 0, .int 0, .int 0, .int 0, .int 0, .int 0, .int 0, .int 0, .int 0, .int 0, .ref q1, .ref q2, .null, .null, .null, .null, .int 0, .null, .null, .int 0, .int 0, .int 0, .int 0, .null, .int 0, .int 0, .int 0, .int 0, .int 0, .int 0, .int 0, .int 0, .null, .int 0, .int 0])), (q1, .inl (cy 0, 6219, .inl (fun _ => 0))), (q2, .inl (cy 0, 2048, .inl (fun _ => 0)))] dX10_init_19 inX10 tyX10_ok nmX10 rfl rfl (by decide) w4_107 rfl rfl rfl rfl (Nat.le_of_ble_eq_true rfl) rfl ?_
  refine u_aload_n G 0 dX10_init_22 rfl ?_
  refine u_sipush G (v := (1000 : Int32)) dX10_init_23 (by decide) ?_
  refine u_newa G 0 (ty := .int) (N := 1000) dX10_init_26 rfl rfl (fun _ h => h) w1_62 (fun _ => rfl) (by decide) (by decide) (by decide) (by decide) (by decide) (fun q3 => ?_)
  show U _ _ _ _ _ _ _ _ _ _ _ _ _ _ [(h0, .inr (10, [.int 0, .int 0, .int 0, .int 0, .int 0, .int 0, .int 0, .int 0, .int 0, .int 0, .int 0, .ref q1, .ref q2, .null, .null, .null, .null, .int 0, .null, .null, .int 0, .int 0, .int 0, .int 0, .null, .int 0, .int 0, .int 0, .int 0, .int 0, .int 0, .int 0, .int 0, .null, .int 0, .int 0])), (q1, .inl (cy 0, 6219, .inl (fun _ => 0))), (q2, .inl (cy 0, 2048, .inl (fun _ => 0))), (q3, .inl (cy 0, 1000, .inl (fun _ => 0)))] _ _ _ _ _
  refine u_putF G (ci := 10) (T := TX10) 0 13 [(h0, .inr (10, [.int 0, .int 0, .int 0, .int 0, .int 0, .int 0, .int 0, .int 0, .int 0, .int 0, .int 0, .ref q1, .ref q2, .ref q3, .null, .null, .null, .int 0, .null, .null, .int 0, .int 0, .int 0, .int 0, .null, .int 0, .int 0, .int 0, .int 0, .int 0, .int 0, .int 0, .int 0, .null, .int 0, .int 0])), (q1, .inl (cy 0, 6219, .inl (fun _ => 0))), (q2, .inl (cy 0, 2048, .inl (fun _ => 0))), (q3, .inl (cy 0, 1000, .inl (fun _ => 0)))] dX10_init_28 inX10 tyX10_ok nmX10 rfl rfl (by decide) w4_108 rfl rfl rfl rfl (Nat.le_of_ble_eq_true rfl) rfl ?_
  refine u_aload_n G 0 dX10_init_31 rfl ?_
  refine u_new G (ci := 9) blX9 dX10_init_32 inX9 tyX9_ok w3_222 w3_223 w1_10 rfl blX9_ok (by decide) (by decide) (fun q4 => ?_)
  show U _ _ _ _ _ _ _ _ _ _ _ _ _ _ [(h0, .inr (10, [.int 0, .int 0, .int 0, .int 0, .int 0, .int 0, .int 0, .int 0, .int 0, .int 0, .int 0, .ref q1, .ref q2, .ref q3, .null, .null, .null, .int 0, .null, .null, .int 0, .int 0, .int 0, .int 0, .null, .int 0, .int 0, .int 0, .int 0, .int 0, .int 0, .int 0, .int 0, .null, .int 0, .int 0])), (q1, .inl (cy 0, 6219, .inl (fun _ => 0))), (q2, .inl (cy 0, 2048, .inl (fun _ => 0))), (q3, .inl (cy 0, 1000, .inl (fun _ => 0))), (q4, .inr (9, [.null, .int 0, .int 0, .int 0, .int 0, .null, .int 0, .int 0, .null, .int 0, .null, .int 0, .int 0, .int 0, .int 0, .int 0, .int 0, .int 0, .int 0, .int 0]))] _ _ _ _ _
  refine u_dup G dX10_init_35 rfl ?_
  refine u_aload_n G 0 dX10_init_36 rfl ?_
  refine u_get G (ci := 10) (T := TX10) 0 13 dX10_init_37 inX10 rfl rfl (by decide) w4_108 rfl ?_
  refine u_callI G (kq := 4) (As := [.ref q3]) (st := [.ref q4, .ref h0]) (c_H_init l D cy q4 q3) rfl [0, 1, 2, 3] [(h0, .inr (10, [.int 0, .int 0, .int 0, .int 0, .int 0, .int 0, .int 0, .int 0, .int 0, .int 0, .int 0, .ref q1, .ref q2, .ref q3, .null, .null, .null, .int 0, .null, .null, .int 0, .int 0, .int 0, .int 0, .null, .int 0, .int 0, .int 0, .int 0, .int 0, .int 0, .int 0, .int 0, .null, .int 0, .int 0])), (q1, .inl (cy 0, 6219, .inl (fun _ => 0))), (q2, .inl (cy 0, 2048, .inl (fun _ => 0))), (q3, .inl (cy 0, 1000, .inl (fun _ => 0)))] rfl (by decide) (by decide) w3_224 w3_225 w1_10 w3_226 rfl qyX9_init (by decide) rfl (Nat.le_of_ble_eq_true rfl) dX10_init_40 (by decide) (fun ad5 had5 => ?_)
  subst had5
  show U _ _ _ _ _ _ _ _ _ _ _ _ _ _ [(h0, .inr (10, [.int 0, .int 0, .int 0, .int 0, .int 0, .int 0, .int 0, .int 0, .int 0, .int 0, .int 0, .ref q1, .ref q2, .ref q3, .null, .null, .null, .int 0, .null, .null, .int 0, .int 0, .int 0, .int 0, .null, .int 0, .int 0, .int 0, .int 0, .int 0, .int 0, .int 0, .int 0, .null, .int 0, .int 0])), (q1, .inl (cy 0, 6219, .inl (fun _ => 0))), (q2, .inl (cy 0, 2048, .inl (fun _ => 0))), (q3, .inl (cy 0, 1000, .inl (fun _ => 0))), ((ad5 0), .inr (9, [.ref (ad5 1), .int 0, .int 0, .int 0, .int 0, .ref (ad5 2), .int 0, .int 0, .null, .int 0, .ref q3, .int 0, .int 0, .int 0, .int 0, .int 0, .int 0, .int 0, .int 0, .int 0])), ((ad5 1), .inl (cy 0, 32, .inl (fun _ => 0))), ((ad5 2), .inl (cy 0, 1024, .inl (fun _ => 0)))] _ _ _ _ _
  refine u_putF G (ci := 10) (T := TX10) 0 14 [(h0, .inr (10, [.int 0, .int 0, .int 0, .int 0, .int 0, .int 0, .int 0, .int 0, .int 0, .int 0, .int 0, .ref q1, .ref q2, .ref q3, .ref (ad5 0), .null, .null, .int 0, .null, .null, .int 0, .int 0, .int 0, .int 0, .null, .int 0, .int 0, .int 0, .int 0, .int 0, .int 0, .int 0, .int 0, .null, .int 0, .int 0])), (q1, .inl (cy 0, 6219, .inl (fun _ => 0))), (q2, .inl (cy 0, 2048, .inl (fun _ => 0))), (q3, .inl (cy 0, 1000, .inl (fun _ => 0))), ((ad5 0), .inr (9, [.ref (ad5 1), .int 0, .int 0, .int 0, .int 0, .ref (ad5 2), .int 0, .int 0, .null, .int 0, .ref q3, .int 0, .int 0, .int 0, .int 0, .int 0, .int 0, .int 0, .int 0, .int 0])), ((ad5 1), .inl (cy 0, 32, .inl (fun _ => 0))), ((ad5 2), .inl (cy 0, 1024, .inl (fun _ => 0)))] dX10_init_43 inX10 tyX10_ok nmX10 rfl rfl (by decide) w4_109 rfl rfl rfl rfl (Nat.le_of_ble_eq_true rfl) rfl ?_
  refine u_aload_n G 0 dX10_init_46 rfl ?_
  refine u_new G (ci := 9) blX9 dX10_init_47 inX9 tyX9_ok w3_222 w3_223 w1_10 rfl blX9_ok (by decide) (by decide) (fun q6 => ?_)
  show U _ _ _ _ _ _ _ _ _ _ _ _ _ _ [(h0, .inr (10, [.int 0, .int 0, .int 0, .int 0, .int 0, .int 0, .int 0, .int 0, .int 0, .int 0, .int 0, .ref q1, .ref q2, .ref q3, .ref (ad5 0), .null, .null, .int 0, .null, .null, .int 0, .int 0, .int 0, .int 0, .null, .int 0, .int 0, .int 0, .int 0, .int 0, .int 0, .int 0, .int 0, .null, .int 0, .int 0])), (q1, .inl (cy 0, 6219, .inl (fun _ => 0))), (q2, .inl (cy 0, 2048, .inl (fun _ => 0))), (q3, .inl (cy 0, 1000, .inl (fun _ => 0))), ((ad5 0), .inr (9, [.ref (ad5 1), .int 0, .int 0, .int 0, .int 0, .ref (ad5 2), .int 0, .int 0, .null, .int 0, .ref q3, .int 0, .int 0, .int 0, .int 0, .int 0, .int 0, .int 0, .int 0, .int 0])), ((ad5 1), .inl (cy 0, 32, .inl (fun _ => 0))), ((ad5 2), .inl (cy 0, 1024, .inl (fun _ => 0))), (q6, .inr (9, [.null, .int 0, .int 0, .int 0, .int 0, .null, .int 0, .int 0, .null, .int 0, .null, .int 0, .int 0, .int 0, .int 0, .int 0, .int 0, .int 0, .int 0, .int 0]))] _ _ _ _ _
  refine u_dup G dX10_init_50 rfl ?_
  refine u_aload_n G 0 dX10_init_51 rfl ?_
  refine u_get G (ci := 10) (T := TX10) 0 13 dX10_init_52 inX10 rfl rfl (by decide) w4_108 rfl ?_
  refine u_callI G (kq := 7) (As := [.ref q3]) (st := [.ref q6, .ref h0]) (c_H_init l D cy q6 q3) rfl [0, 1, 2, 3, 4, 5, 6] [(h0, .inr (10, [.int 0, .int 0, .int 0, .int 0, .int 0, .int 0, .int 0, .int 0, .int 0, .int 0, .int 0, .ref q1, .ref q2, .ref q3, .ref (ad5 0), .null, .null, .int 0, .null, .null, .int 0, .int 0, .int 0, .int 0, .null, .int 0, .int 0, .int 0, .int 0, .int 0, .int 0, .int 0, .int 0, .null, .int 0, .int 0])), (q1, .inl (cy 0, 6219, .inl (fun _ => 0))), (q2, .inl (cy 0, 2048, .inl (fun _ => 0))), (q3, .inl (cy 0, 1000, .inl (fun _ => 0))), ((ad5 0), .inr (9, [.ref (ad5 1), .int 0, .int 0, .int 0, .int 0, .ref (ad5 2), .int 0, .int 0, .null, .int 0, .ref q3, .int 0, .int 0, .int 0, .int 0, .int 0, .int 0, .int 0, .int 0, .int 0])), ((ad5 1), .inl (cy 0, 32, .inl (fun _ => 0))), ((ad5 2), .inl (cy 0, 1024, .inl (fun _ => 0)))] rfl (by decide) (by decide) w3_224 w3_225 w1_10 w3_226 rfl qyX9_init (by decide) rfl (Nat.le_of_ble_eq_true rfl) dX10_init_55 (by decide) (fun ad7 had7 => ?_)
  subst had7
  show U _ _ _ _ _ _ _ _ _ _ _ _ _ _ [(h0, .inr (10, [.int 0, .int 0, .int 0, .int 0, .int 0, .int 0, .int 0, .int 0, .int 0, .int 0, .int 0, .ref q1, .ref q2, .ref q3, .ref (ad5 0), .null, .null, .int 0, .null, .null, .int 0, .int 0, .int 0, .int 0, .null, .int 0, .int 0, .int 0, .int 0, .int 0, .int 0, .int 0, .int 0, .null, .int 0, .int 0])), (q1, .inl (cy 0, 6219, .inl (fun _ => 0))), (q2, .inl (cy 0, 2048, .inl (fun _ => 0))), (q3, .inl (cy 0, 1000, .inl (fun _ => 0))), ((ad5 0), .inr (9, [.ref (ad5 1), .int 0, .int 0, .int 0, .int 0, .ref (ad5 2), .int 0, .int 0, .null, .int 0, .ref q3, .int 0, .int 0, .int 0, .int 0, .int 0, .int 0, .int 0, .int 0, .int 0])), ((ad5 1), .inl (cy 0, 32, .inl (fun _ => 0))), ((ad5 2), .inl (cy 0, 1024, .inl (fun _ => 0))), ((ad7 0), .inr (9, [.ref (ad7 1), .int 0, .int 0, .int 0, .int 0, .ref (ad7 2), .int 0, .int 0, .null, .int 0, .ref q3, .int 0, .int 0, .int 0, .int 0, .int 0, .int 0, .int 0, .int 0, .int 0])), ((ad7 1), .inl (cy 0, 32, .inl (fun _ => 0))), ((ad7 2), .inl (cy 0, 1024, .inl (fun _ => 0)))] _ _ _ _ _
  refine u_putF G (ci := 10) (T := TX10) 0 15 [(h0, .inr (10, [.int 0, .int 0, .int 0, .int 0, .int 0, .int 0, .int 0, .int 0, .int 0, .int 0, .int 0, .ref q1, .ref q2, .ref q3, .ref (ad5 0), .ref (ad7 0), .null, .int 0, .null, .null, .int 0, .int 0, .int 0, .int 0, .null, .int 0, .int 0, .int 0, .int 0, .int 0, .int 0, .int 0, .int 0, .null, .int 0, .int 0])), (q1, .inl (cy 0, 6219, .inl (fun _ => 0))), (q2, .inl (cy 0, 2048, .inl (fun _ => 0))), (q3, .inl (cy 0, 1000, .inl (fun _ => 0))), ((ad5 0), .inr (9, [.ref (ad5 1), .int 0, .int 0, .int 0, .int 0, .ref (ad5 2), .int 0, .int 0, .null, .int 0, .ref q3, .int 0, .int 0, .int 0, .int 0, .int 0, .int 0, .int 0, .int 0, .int 0])), ((ad5 1), .inl (cy 0, 32, .inl (fun _ => 0))), ((ad5 2), .inl (cy 0, 1024, .inl (fun _ => 0))), ((ad7 0), .inr (9, [.ref (ad7 1), .int 0, .int 0, .int 0, .int 0, .ref (ad7 2), .int 0, .int 0, .null, .int 0, .ref q3, .int 0, .int 0, .int 0, .int 0, .int 0, .int 0, .int 0, .int 0, .int 0])), ((ad7 1), .inl (cy 0, 32, .inl (fun _ => 0))), ((ad7 2), .inl (cy 0, 1024, .inl (fun _ => 0)))] dX10_init_58 inX10 tyX10_ok nmX10 rfl rfl (by decide) w4_110 rfl rfl rfl rfl (Nat.le_of_ble_eq_true rfl) rfl ?_
  refine u_aload_n G 0 dX10_init_61 rfl ?_
  refine u_sipush G (v := (2048 : Int32)) dX10_init_62 (by decide) ?_
  refine u_newa G 0 (ty := .int) (N := 2048) dX10_init_65 rfl rfl (fun _ h => h) w1_62 (fun _ => rfl) (by decide) (by decide) (by decide) (by decide) (by decide) (fun q8 => ?_)
  show U _ _ _ _ _ _ _ _ _ _ _ _ _ _ [(h0, .inr (10, [.int 0, .int 0, .int 0, .int 0, .int 0, .int 0, .int 0, .int 0, .int 0, .int 0, .int 0, .ref q1, .ref q2, .ref q3, .ref (ad5 0), .ref (ad7 0), .null, .int 0, .null, .null, .int 0, .int 0, .int 0, .int 0, .null, .int 0, .int 0, .int 0, .int 0, .int 0, .int 0, .int 0, .int 0, .null, .int 0, .int 0])), (q1, .inl (cy 0, 6219, .inl (fun _ => 0))), (q2, .inl (cy 0, 2048, .inl (fun _ => 0))), (q3, .inl (cy 0, 1000, .inl (fun _ => 0))), ((ad5 0), .inr (9, [.ref (ad5 1), .int 0, .int 0, .int 0, .int 0, .ref (ad5 2), .int 0, .int 0, .null, .int 0, .ref q3, .int 0, .int 0, .int 0, .int 0, .int 0, .int 0, .int 0, .int 0, .int 0])), ((ad5 1), .inl (cy 0, 32, .inl (fun _ => 0))), ((ad5 2), .inl (cy 0, 1024, .inl (fun _ => 0))), ((ad7 0), .inr (9, [.ref (ad7 1), .int 0, .int 0, .int 0, .int 0, .ref (ad7 2), .int 0, .int 0, .null, .int 0, .ref q3, .int 0, .int 0, .int 0, .int 0, .int 0, .int 0, .int 0, .int 0, .int 0])), ((ad7 1), .inl (cy 0, 32, .inl (fun _ => 0))), ((ad7 2), .inl (cy 0, 1024, .inl (fun _ => 0))), (q8, .inl (cy 0, 2048, .inl (fun _ => 0)))] _ _ _ _ _
  refine u_putF G (ci := 10) (T := TX10) 0 16 [(h0, .inr (10, [.int 0, .int 0, .int 0, .int 0, .int 0, .int 0, .int 0, .int 0, .int 0, .int 0, .int 0, .ref q1, .ref q2, .ref q3, .ref (ad5 0), .ref (ad7 0), .ref q8, .int 0, .null, .null, .int 0, .int 0, .int 0, .int 0, .null, .int 0, .int 0, .int 0, .int 0, .int 0, .int 0, .int 0, .int 0, .null, .int 0, .int 0])), (q1, .inl (cy 0, 6219, .inl (fun _ => 0))), (q2, .inl (cy 0, 2048, .inl (fun _ => 0))), (q3, .inl (cy 0, 1000, .inl (fun _ => 0))), ((ad5 0), .inr (9, [.ref (ad5 1), .int 0, .int 0, .int 0, .int 0, .ref (ad5 2), .int 0, .int 0, .null, .int 0, .ref q3, .int 0, .int 0, .int 0, .int 0, .int 0, .int 0, .int 0, .int 0, .int 0])), ((ad5 1), .inl (cy 0, 32, .inl (fun _ => 0))), ((ad5 2), .inl (cy 0, 1024, .inl (fun _ => 0))), ((ad7 0), .inr (9, [.ref (ad7 1), .int 0, .int 0, .int 0, .int 0, .ref (ad7 2), .int 0, .int 0, .null, .int 0, .ref q3, .int 0, .int 0, .int 0, .int 0, .int 0, .int 0, .int 0, .int 0, .int 0])), ((ad7 1), .inl (cy 0, 32, .inl (fun _ => 0))), ((ad7 2), .inl (cy 0, 1024, .inl (fun _ => 0))), (q8, .inl (cy 0, 2048, .inl (fun _ => 0)))] dX10_init_67 inX10 tyX10_ok nmX10 rfl rfl (by decide) w4_111 rfl rfl rfl rfl (Nat.le_of_ble_eq_true rfl) rfl ?_
  refine u_aload_n G 0 dX10_init_70 rfl ?_
  refine u_new G (ci := 8) blX8 dX10_init_71 inX8 tyX8_ok w4_63 w4_64 w1_11 rfl blX8_ok (by decide) (by decide) (fun q9 => ?_)
  show U _ _ _ _ _ _ _ _ _ _ _ _ _ _ [(h0, .inr (10, [.int 0, .int 0, .int 0, .int 0, .int 0, .int 0, .int 0, .int 0, .int 0, .int 0, .int 0, .ref q1, .ref q2, .ref q3, .ref (ad5 0), .ref (ad7 0), .ref q8, .int 0, .null, .null, .int 0, .int 0, .int 0, .int 0, .null, .int 0, .int 0, .int 0, .int 0, .int 0, .int 0, .int 0, .int 0, .null, .int 0, .int 0])), (q1, .inl (cy 0, 6219, .inl (fun _ => 0))), (q2, .inl (cy 0, 2048, .inl (fun _ => 0))), (q3, .inl (cy 0, 1000, .inl (fun _ => 0))), ((ad5 0), .inr (9, [.ref (ad5 1), .int 0, .int 0, .int 0, .int 0, .ref (ad5 2), .int 0, .int 0, .null, .int 0, .ref q3, .int 0, .int 0, .int 0, .int 0, .int 0, .int 0, .int 0, .int 0, .int 0])), ((ad5 1), .inl (cy 0, 32, .inl (fun _ => 0))), ((ad5 2), .inl (cy 0, 1024, .inl (fun _ => 0))), ((ad7 0), .inr (9, [.ref (ad7 1), .int 0, .int 0, .int 0, .int 0, .ref (ad7 2), .int 0, .int 0, .null, .int 0, .ref q3, .int 0, .int 0, .int 0, .int 0, .int 0, .int 0, .int 0, .int 0, .int 0])), ((ad7 1), .inl (cy 0, 32, .inl (fun _ => 0))), ((ad7 2), .inl (cy 0, 1024, .inl (fun _ => 0))), (q8, .inl (cy 0, 2048, .inl (fun _ => 0))), (q9, .inr (8, [.int 0, .null, .null, .null, .null]))] _ _ _ _ _
  refine u_dup G dX10_init_74 rfl ?_
  refine u_callN G (kq := 11) (As := []) (st := [.ref q9, .ref h0]) (c_A_init l D cy q9 ) rfl [0, 1, 2, 3, 4, 5, 6, 7, 8, 9, 10] [(h0, .inr (10, [.int 0, .int 0, .int 0, .int 0, .int 0, .int 0, .int 0, .int 0, .int 0, .int 0, .int 0, .ref q1, .ref q2, .ref q3, .ref (ad5 0), .ref (ad7 0), .ref q8, .int 0, .null, .null, .int 0, .int 0, .int 0, .int 0, .null, .int 0, .int 0, .int 0, .int 0, .int 0, .int 0, .int 0, .int 0, .null, .int 0, .int 0])), (q1, .inl (cy 0, 6219, .inl (fun _ => 0))), (q2, .inl (cy 0, 2048, .inl (fun _ => 0))), (q3, .inl (cy 0, 1000, .inl (fun _ => 0))), ((ad5 0), .inr (9, [.ref (ad5 1), .int 0, .int 0, .int 0, .int 0, .ref (ad5 2), .int 0, .int 0, .null, .int 0, .ref q3, .int 0, .int 0, .int 0, .int 0, .int 0, .int 0, .int 0, .int 0, .int 0])), ((ad5 1), .inl (cy 0, 32, .inl (fun _ => 0))), ((ad5 2), .inl (cy 0, 1024, .inl (fun _ => 0))), ((ad7 0), .inr (9, [.ref (ad7 1), .int 0, .int 0, .int 0, .int 0, .ref (ad7 2), .int 0, .int 0, .null, .int 0, .ref q3, .int 0, .int 0, .int 0, .int 0, .int 0, .int 0, .int 0, .int 0, .int 0])), ((ad7 1), .inl (cy 0, 32, .inl (fun _ => 0))), ((ad7 2), .inl (cy 0, 1024, .inl (fun _ => 0))), (q8, .inl (cy 0, 2048, .inl (fun _ => 0)))] rfl (by decide) (by decide) (List.mem_of_getElem? (i := 4) rfl) w4_66 w1_11 w4_67 rfl qyX8_init (by decide) rfl (Nat.le_of_ble_eq_true rfl) dX10_init_75 (by decide) (fun ad10 had10 => ?_)
  subst had10
  show U _ _ _ _ _ _ _ _ _ _ _ _ _ _ [(h0, .inr (10, [.int 0, .int 0, .int 0, .int 0, .int 0, .int 0, .int 0, .int 0, .int 0, .int 0, .int 0, .ref q1, .ref q2, .ref q3, .ref (ad5 0), .ref (ad7 0), .ref q8, .int 0, .null, .null, .int 0, .int 0, .int 0, .int 0, .null, .int 0, .int 0, .int 0, .int 0, .int 0, .int 0, .int 0, .int 0, .null, .int 0, .int 0])), (q1, .inl (cy 0, 6219, .inl (fun _ => 0))), (q2, .inl (cy 0, 2048, .inl (fun _ => 0))), (q3, .inl (cy 0, 1000, .inl (fun _ => 0))), ((ad5 0), .inr (9, [.ref (ad5 1), .int 0, .int 0, .int 0, .int 0, .ref (ad5 2), .int 0, .int 0, .null, .int 0, .ref q3, .int 0, .int 0, .int 0, .int 0, .int 0, .int 0, .int 0, .int 0, .int 0])), ((ad5 1), .inl (cy 0, 32, .inl (fun _ => 0))), ((ad5 2), .inl (cy 0, 1024, .inl (fun _ => 0))), ((ad7 0), .inr (9, [.ref (ad7 1), .int 0, .int 0, .int 0, .int 0, .ref (ad7 2), .int 0, .int 0, .null, .int 0, .ref q3, .int 0, .int 0, .int 0, .int 0, .int 0, .int 0, .int 0, .int 0, .int 0])), ((ad7 1), .inl (cy 0, 32, .inl (fun _ => 0))), ((ad7 2), .inl (cy 0, 1024, .inl (fun _ => 0))), (q8, .inl (cy 0, 2048, .inl (fun _ => 0))), ((ad10 0), .inr (8, [.int 0, .ref (ad10 1), .ref (ad10 2), .ref (ad10 3), .ref (ad10 4)])), ((ad10 1), .inl (cy 0, 400, .inl (fun _ => 0))), ((ad10 2), .inl (cy 0, 400, .inl (fun _ => 0))), ((ad10 3), .inl (cy 0, 400, .inl (fun _ => 0))), ((ad10 4), .inl (cy 1, 25600, .inl (fun _ => 0)))] _ _ _ _ _
  refine u_put G (ci := 10) (T := TX10) 0 18 [(h0, .inr (10, [.int 0, .int 0, .int 0, .int 0, .int 0, .int 0, .int 0, .int 0, .int 0, .int 0, .int 0, .ref q1, .ref q2, .ref q3, .ref (ad5 0), .ref (ad7 0), .ref q8, .int 0, .ref (ad10 0), .null, .int 0, .int 0, .int 0, .int 0, .null, .int 0, .int 0, .int 0, .int 0, .int 0, .int 0, .int 0, .int 0, .null, .int 0, .int 0])), (q1, .inl (cy 0, 6219, .inl (fun _ => 0))), (q2, .inl (cy 0, 2048, .inl (fun _ => 0))), (q3, .inl (cy 0, 1000, .inl (fun _ => 0))), ((ad5 0), .inr (9, [.ref (ad5 1), .int 0, .int 0, .int 0, .int 0, .ref (ad5 2), .int 0, .int 0, .null, .int 0, .ref q3, .int 0, .int 0, .int 0, .int 0, .int 0, .int 0, .int 0, .int 0, .int 0])), ((ad5 1), .inl (cy 0, 32, .inl (fun _ => 0))), ((ad5 2), .inl (cy 0, 1024, .inl (fun _ => 0))), ((ad7 0), .inr (9, [.ref (ad7 1), .int 0, .int 0, .int 0, .int 0, .ref (ad7 2), .int 0, .int 0, .null, .int 0, .ref q3, .int 0, .int 0, .int 0, .int 0, .int 0, .int 0, .int 0, .int 0, .int 0])), ((ad7 1), .inl (cy 0, 32, .inl (fun _ => 0))), ((ad7 2), .inl (cy 0, 1024, .inl (fun _ => 0))), (q8, .inl (cy 0, 2048, .inl (fun _ => 0))), ((ad10 0), .inr (8, [.int 0, .ref (ad10 1), .ref (ad10 2), .ref (ad10 3), .ref (ad10 4)])), ((ad10 1), .inl (cy 0, 400, .inl (fun _ => 0))), ((ad10 2), .inl (cy 0, 400, .inl (fun _ => 0))), ((ad10 3), .inl (cy 0, 400, .inl (fun _ => 0))), ((ad10 4), .inl (cy 1, 25600, .inl (fun _ => 0)))] dX10_init_78 inX10 tyX10_ok nmX10 rfl rfl (by decide) w4_113 rfl rfl rfl (Nat.le_of_ble_eq_true rfl) rfl ?_
  refine u_aload_n G 0 dX10_init_81 rfl ?_
  refine u_new G (ci := 8) blX8 dX10_init_82 inX8 tyX8_ok w4_63 w4_64 w1_11 rfl blX8_ok (by decide) (by decide) (fun q11 => ?_)
  show U _ _ _ _ _ _ _ _ _ _ _ _ _ _ [(h0, .inr (10, [.int 0, .int 0, .int 0, .int 0, .int 0, .int 0, .int 0, .int 0, .int 0, .int 0, .int 0, .ref q1, .ref q2, .ref q3, .ref (ad5 0), .ref (ad7 0), .ref q8, .int 0, .ref (ad10 0), .null, .int 0, .int 0, .int 0, .int 0, .null, .int 0, .int 0, .int 0, .int 0, .int 0, .int 0, .int 0, .int 0, .null, .int 0, .int 0])), (q1, .inl (cy 0, 6219, .inl (fun _ => 0))), (q2, .inl (cy 0, 2048, .inl (fun _ => 0))), (q3, .inl (cy 0, 1000, .inl (fun _ => 0))), ((ad5 0), .inr (9, [.ref (ad5 1), .int 0, .int 0, .int 0, .int 0, .ref (ad5 2), .int 0, .int 0, .null, .int 0, .ref q3, .int 0, .int 0, .int 0, .int 0, .int 0, .int 0, .int 0, .int 0, .int 0])), ((ad5 1), .inl (cy 0, 32, .inl (fun _ => 0))), ((ad5 2), .inl (cy 0, 1024, .inl (fun _ => 0))), ((ad7 0), .inr (9, [.ref (ad7 1), .int 0, .int 0, .int 0, .int 0, .ref (ad7 2), .int 0, .int 0, .null, .int 0, .ref q3, .int 0, .int 0, .int 0, .int 0, .int 0, .int 0, .int 0, .int 0, .int 0])), ((ad7 1), .inl (cy 0, 32, .inl (fun _ => 0))), ((ad7 2), .inl (cy 0, 1024, .inl (fun _ => 0))), (q8, .inl (cy 0, 2048, .inl (fun _ => 0))), ((ad10 0), .inr (8, [.int 0, .ref (ad10 1), .ref (ad10 2), .ref (ad10 3), .ref (ad10 4)])), ((ad10 1), .inl (cy 0, 400, .inl (fun _ => 0))), ((ad10 2), .inl (cy 0, 400, .inl (fun _ => 0))), ((ad10 3), .inl (cy 0, 400, .inl (fun _ => 0))), ((ad10 4), .inl (cy 1, 25600, .inl (fun _ => 0))), (q11, .inr (8, [.int 0, .null, .null, .null, .null]))] _ _ _ _ _
  refine u_dup G dX10_init_85 rfl ?_
  refine u_callN G (kq := 16) (As := []) (st := [.ref q11, .ref h0]) (c_A_init l D cy q11 ) rfl [0, 1, 2, 3, 4, 5, 6, 7, 8, 9, 10, 11, 12, 13, 14, 15] [(h0, .inr (10, [.int 0, .int 0, .int 0, .int 0, .int 0, .int 0, .int 0, .int 0, .int 0, .int 0, .int 0, .ref q1, .ref q2, .ref q3, .ref (ad5 0), .ref (ad7 0), .ref q8, .int 0, .ref (ad10 0), .null, .int 0, .int 0, .int 0, .int 0, .null, .int 0, .int 0, .int 0, .int 0, .int 0, .int 0, .int 0, .int 0, .null, .int 0, .int 0])), (q1, .inl (cy 0, 6219, .inl (fun _ => 0))), (q2, .inl (cy 0, 2048, .inl (fun _ => 0))), (q3, .inl (cy 0, 1000, .inl (fun _ => 0))), ((ad5 0), .inr (9, [.ref (ad5 1), .int 0, .int 0, .int 0, .int 0, .ref (ad5 2), .int 0, .int 0, .null, .int 0, .ref q3, .int 0, .int 0, .int 0, .int 0, .int 0, .int 0, .int 0, .int 0, .int 0])), ((ad5 1), .inl (cy 0, 32, .inl (fun _ => 0))), ((ad5 2), .inl (cy 0, 1024, .inl (fun _ => 0))), ((ad7 0), .inr (9, [.ref (ad7 1), .int 0, .int 0, .int 0, .int 0, .ref (ad7 2), .int 0, .int 0, .null, .int 0, .ref q3, .int 0, .int 0, .int 0, .int 0, .int 0, .int 0, .int 0, .int 0, .int 0])), ((ad7 1), .inl (cy 0, 32, .inl (fun _ => 0))), ((ad7 2), .inl (cy 0, 1024, .inl (fun _ => 0))), (q8, .inl (cy 0, 2048, .inl (fun _ => 0))), ((ad10 0), .inr (8, [.int 0, .ref (ad10 1), .ref (ad10 2), .ref (ad10 3), .ref (ad10 4)])), ((ad10 1), .inl (cy 0, 400, .inl (fun _ => 0))), ((ad10 2), .inl (cy 0, 400, .inl (fun _ => 0))), ((ad10 3), .inl (cy 0, 400, .inl (fun _ => 0))), ((ad10 4), .inl (cy 1, 25600, .inl (fun _ => 0)))] rfl (by decide) (by decide) (List.mem_of_getElem? (i := 4) rfl) w4_66 w1_11 w4_67 rfl qyX8_init (by decide) rfl (Nat.le_of_ble_eq_true rfl) dX10_init_86 (by decide) (fun ad12 had12 => ?_)
  subst had12
  show U _ _ _ _ _ _ _ _ _ _ _ _ _ _ [(h0, .inr (10, [.int 0, .int 0, .int 0, .int 0, .int 0, .int 0, .int 0, .int 0, .int 0, .int 0, .int 0, .ref q1, .ref q2, .ref q3, .ref (ad5 0), .ref (ad7 0), .ref q8, .int 0, .ref (ad10 0), .null, .int 0, .int 0, .int 0, .int 0, .null, .int 0, .int 0, .int 0, .int 0, .int 0, .int 0, .int 0, .int 0, .null, .int 0, .int 0])), (q1, .inl (cy 0, 6219, .inl (fun _ => 0))), (q2, .inl (cy 0, 2048, .inl (fun _ => 0))), (q3, .inl (cy 0, 1000, .inl (fun _ => 0))), ((ad5 0), .inr (9, [.ref (ad5 1), .int 0, .int 0, .int 0, .int 0, .ref (ad5 2), .int 0, .int 0, .null, .int 0, .ref q3, .int 0, .int 0, .int 0, .int 0, .int 0, .int 0, .int 0, .int 0, .int 0])), ((ad5 1), .inl (cy 0, 32, .inl (fun _ => 0))), ((ad5 2), .inl (cy 0, 1024, .inl (fun _ => 0))), ((ad7 0), .inr (9, [.ref (ad7 1), .int 0, .int 0, .int 0, .int 0, .ref (ad7 2), .int 0, .int 0, .null, .int 0, .ref q3, .int 0, .int 0, .int 0, .int 0, .int 0, .int 0, .int 0, .int 0, .int 0])), ((ad7 1), .inl (cy 0, 32, .inl (fun _ => 0))), ((ad7 2), .inl (cy 0, 1024, .inl (fun _ => 0))), (q8, .inl (cy 0, 2048, .inl (fun _ => 0))), ((ad10 0), .inr (8, [.int 0, .ref (ad10 1), .ref (ad10 2), .ref (ad10 3), .ref (ad10 4)])), ((ad10 1), .inl (cy 0, 400, .inl (fun _ => 0))), ((ad10 2), .inl (cy 0, 400, .inl (fun _ => 0))), ((ad10 3), .inl (cy 0, 400, .inl (fun _ => 0))), ((ad10 4), .inl (cy 1, 25600, .inl (fun _ => 0))), ((ad12 0), .inr (8, [.int 0, .ref (ad12 1), .ref (ad12 2), .ref (ad12 3), .ref (ad12 4)])), ((ad12 1), .inl (cy 0, 400, .inl (fun _ => 0))), ((ad12 2), .inl (cy 0, 400, .inl (fun _ => 0))), ((ad12 3), .inl (cy 0, 400, .inl (fun _ => 0))), ((ad12 4), .inl (cy 1, 25600, .inl (fun _ => 0)))] _ _ _ _ _
  refine u_putF G (ci := 10) (T := TX10) 0 19 [(h0, .inr (10, [.int 0, .int 0, .int 0, .int 0, .int 0, .int 0, .int 0, .int 0, .int 0, .int 0, .int 0, .ref q1, .ref q2, .ref q3, .ref (ad5 0), .ref (ad7 0), .ref q8, .int 0, .ref (ad10 0), .ref (ad12 0), .int 0, .int 0, .int 0, .int 0, .null, .int 0, .int 0, .int 0, .int 0, .int 0, .int 0, .int 0, .int 0, .null, .int 0, .int 0])), (q1, .inl (cy 0, 6219, .inl (fun _ => 0))), (q2, .inl (cy 0, 2048, .inl (fun _ => 0))), (q3, .inl (cy 0, 1000, .inl (fun _ => 0))), ((ad5 0), .inr (9, [.ref (ad5 1), .int 0, .int 0, .int 0, .int 0, .ref (ad5 2), .int 0, .int 0, .null, .int 0, .ref q3, .int 0, .int 0, .int 0, .int 0, .int 0, .int 0, .int 0, .int 0, .int 0])), ((ad5 1), .inl (cy 0, 32, .inl (fun _ => 0))), ((ad5 2), .inl (cy 0, 1024, .inl (fun _ => 0))), ((ad7 0), .inr (9, [.ref (ad7 1), .int 0, .int 0, .int 0, .int 0, .ref (ad7 2), .int 0, .int 0, .null, .int 0, .ref q3, .int 0, .int 0, .int 0, .int 0, .int 0, .int 0, .int 0, .int 0, .int 0])), ((ad7 1), .inl (cy 0, 32, .inl (fun _ => 0))), ((ad7 2), .inl (cy 0, 1024, .inl (fun _ => 0))), (q8, .inl (cy 0, 2048, .inl (fun _ => 0))), ((ad10 0), .inr (8, [.int 0, .ref (ad10 1), .ref (ad10 2), .ref (ad10 3), .ref (ad10 4)])), ((ad10 1), .inl (cy 0, 400, .inl (fun _ => 0))), ((ad10 2), .inl (cy 0, 400, .inl (fun _ => 0))), ((ad10 3), .inl (cy 0, 400, .inl (fun _ => 0))), ((ad10 4), .inl (cy 1, 25600, .inl (fun _ => 0))), ((ad12 0), .inr (8, [.int 0, .ref (ad12 1), .ref (ad12 2), .ref (ad12 3), .ref (ad12 4)])), ((ad12 1), .inl (cy 0, 400, .inl (fun _ => 0))), ((ad12 2), .inl (cy 0, 400, .inl (fun _ => 0))), ((ad12 3), .inl (cy 0, 400, .inl (fun _ => 0))), ((ad12 4), .inl (cy 1, 25600, .inl (fun _ => 0)))] dX10_init_89 inX10 tyX10_ok nmX10 rfl rfl (by decide) w4_114 rfl rfl rfl rfl (Nat.le_of_ble_eq_true rfl) rfl ?_
  refine u_aload_n G 0 dX10_init_92 rfl ?_
  refine u_sipush G (v := (2048 : Int32)) dX10_init_93 (by decide) ?_
  refine u_newa G 2 (ty := .boolean) (N := 2048) dX10_init_96 rfl rfl (fun _ h => h) w4_204 (fun _ => rfl) (by decide) (by decide) (by decide) (by decide) (by decide) (fun q13 => ?_)
  show U _ _ _ _ _ _ _ _ _ _ _ _ _ _ [(h0, .inr (10, [.int 0, .int 0, .int 0, .int 0, .int 0, .int 0, .int 0, .int 0, .int 0, .int 0, .int 0, .ref q1, .ref q2, .ref q3, .ref (ad5 0), .ref (ad7 0), .ref q8, .int 0, .ref (ad10 0), .ref (ad12 0), .int 0, .int 0, .int 0, .int 0, .null, .int 0, .int 0, .int 0, .int 0, .int 0, .int 0, .int 0, .int 0, .null, .int 0, .int 0])), (q1, .inl (cy 0, 6219, .inl (fun _ => 0))), (q2, .inl (cy 0, 2048, .inl (fun _ => 0))), (q3, .inl (cy 0, 1000, .inl (fun _ => 0))), ((ad5 0), .inr (9, [.ref (ad5 1), .int 0, .int 0, .int 0, .int 0, .ref (ad5 2), .int 0, .int 0, .null, .int 0, .ref q3, .int 0, .int 0, .int 0, .int 0, .int 0, .int 0, .int 0, .int 0, .int 0])), ((ad5 1), .inl (cy 0, 32, .inl (fun _ => 0))), ((ad5 2), .inl (cy 0, 1024, .inl (fun _ => 0))), ((ad7 0), .inr (9, [.ref (ad7 1), .int 0, .int 0, .int 0, .int 0, .ref (ad7 2), .int 0, .int 0, .null, .int 0, .ref q3, .int 0, .int 0, .int 0, .int 0, .int 0, .int 0, .int 0, .int 0, .int 0])), ((ad7 1), .inl (cy 0, 32, .inl (fun _ => 0))), ((ad7 2), .inl (cy 0, 1024, .inl (fun _ => 0))), (q8, .inl (cy 0, 2048, .inl (fun _ => 0))), ((ad10 0), .inr (8, [.int 0, .ref (ad10 1), .ref (ad10 2), .ref (ad10 3), .ref (ad10 4)])), ((ad10 1), .inl (cy 0, 400, .inl (fun _ => 0))), ((ad10 2), .inl (cy 0, 400, .inl (fun _ => 0))), ((ad10 3), .inl (cy 0, 400, .inl (fun _ => 0))), ((ad10 4), .inl (cy 1, 25600, .inl (fun _ => 0))), ((ad12 0), .inr (8, [.int 0, .ref (ad12 1), .ref (ad12 2), .ref (ad12 3), .ref (ad12 4)])), ((ad12 1), .inl (cy 0, 400, .inl (fun _ => 0))), ((ad12 2), .inl (cy 0, 400, .inl (fun _ => 0))), ((ad12 3), .inl (cy 0, 400, .inl (fun _ => 0))), ((ad12 4), .inl (cy 1, 25600, .inl (fun _ => 0))), (q13, .inl (cy 2, 2048, .inl (fun _ => 0)))] _ _ _ _ _
  refine u_putF G (ci := 10) (T := TX10) 0 24 [(h0, .inr (10, [.int 0, .int 0, .int 0, .int 0, .int 0, .int 0, .int 0, .int 0, .int 0, .int 0, .int 0, .ref q1, .ref q2, .ref q3, .ref (ad5 0), .ref (ad7 0), .ref q8, .int 0, .ref (ad10 0), .ref (ad12 0), .int 0, .int 0, .int 0, .int 0, .ref q13, .int 0, .int 0, .int 0, .int 0, .int 0, .int 0, .int 0, .int 0, .null, .int 0, .int 0])), (q1, .inl (cy 0, 6219, .inl (fun _ => 0))), (q2, .inl (cy 0, 2048, .inl (fun _ => 0))), (q3, .inl (cy 0, 1000, .inl (fun _ => 0))), ((ad5 0), .inr (9, [.ref (ad5 1), .int 0, .int 0, .int 0, .int 0, .ref (ad5 2), .int 0, .int 0, .null, .int 0, .ref q3, .int 0, .int 0, .int 0, .int 0, .int 0, .int 0, .int 0, .int 0, .int 0])), ((ad5 1), .inl (cy 0, 32, .inl (fun _ => 0))), ((ad5 2), .inl (cy 0, 1024, .inl (fun _ => 0))), ((ad7 0), .inr (9, [.ref (ad7 1), .int 0, .int 0, .int 0, .int 0, .ref (ad7 2), .int 0, .int 0, .null, .int 0, .ref q3, .int 0, .int 0, .int 0, .int 0, .int 0, .int 0, .int 0, .int 0, .int 0])), ((ad7 1), .inl (cy 0, 32, .inl (fun _ => 0))), ((ad7 2), .inl (cy 0, 1024, .inl (fun _ => 0))), (q8, .inl (cy 0, 2048, .inl (fun _ => 0))), ((ad10 0), .inr (8, [.int 0, .ref (ad10 1), .ref (ad10 2), .ref (ad10 3), .ref (ad10 4)])), ((ad10 1), .inl (cy 0, 400, .inl (fun _ => 0))), ((ad10 2), .inl (cy 0, 400, .inl (fun _ => 0))), ((ad10 3), .inl (cy 0, 400, .inl (fun _ => 0))), ((ad10 4), .inl (cy 1, 25600, .inl (fun _ => 0))), ((ad12 0), .inr (8, [.int 0, .ref (ad12 1), .ref (ad12 2), .ref (ad12 3), .ref (ad12 4)])), ((ad12 1), .inl (cy 0, 400, .inl (fun _ => 0))), ((ad12 2), .inl (cy 0, 400, .inl (fun _ => 0))), ((ad12 3), .inl (cy 0, 400, .inl (fun _ => 0))), ((ad12 4), .inl (cy 1, 25600, .inl (fun _ => 0))), (q13, .inl (cy 2, 2048, .inl (fun _ => 0)))] dX10_init_98 inX10 tyX10_ok nmX10 rfl rfl (by decide) w4_119 rfl rfl rfl rfl (Nat.le_of_ble_eq_true rfl) rfl ?_
  refine u_aload_n G 0 dX10_init_101 rfl ?_
  refine u_sipush G (v := (8200 : Int32)) dX10_init_102 (by decide) ?_
  refine u_newa G 1 (ty := .byte) (N := 8200) dX10_init_105 rfl rfl (fun _ h => h) w4_94 (fun _ => rfl) (by decide) (by decide) (by decide) (by decide) (by decide) (fun q14 => ?_)
  show U _ _ _ _ _ _ _ _ _ _ _ _ _ _ [(h0, .inr (10, [.int 0, .int 0, .int 0, .int 0, .int 0, .int 0, .int 0, .int 0, .int 0, .int 0, .int 0, .ref q1, .ref q2, .ref q3, .ref (ad5 0), .ref (ad7 0), .ref q8, .int 0, .ref (ad10 0), .ref (ad12 0), .int 0, .int 0, .int 0, .int 0, .ref q13, .int 0, .int 0, .int 0, .int 0, .int 0, .int 0, .int 0, .int 0, .null, .int 0, .int 0])), (q1, .inl (cy 0, 6219, .inl (fun _ => 0))), (q2, .inl (cy 0, 2048, .inl (fun _ => 0))), (q3, .inl (cy 0, 1000, .inl (fun _ => 0))), ((ad5 0), .inr (9, [.ref (ad5 1), .int 0, .int 0, .int 0, .int 0, .ref (ad5 2), .int 0, .int 0, .null, .int 0, .ref q3, .int 0, .int 0, .int 0, .int 0, .int 0, .int 0, .int 0, .int 0, .int 0])), ((ad5 1), .inl (cy 0, 32, .inl (fun _ => 0))), ((ad5 2), .inl (cy 0, 1024, .inl (fun _ => 0))), ((ad7 0), .inr (9, [.ref (ad7 1), .int 0, .int 0, .int 0, .int 0, .ref (ad7 2), .int 0, .int 0, .null, .int 0, .ref q3, .int 0, .int 0, .int 0, .int 0, .int 0, .int 0, .int 0, .int 0, .int 0])), ((ad7 1), .inl (cy 0, 32, .inl (fun _ => 0))), ((ad7 2), .inl (cy 0, 1024, .inl (fun _ => 0))), (q8, .inl (cy 0, 2048, .inl (fun _ => 0))), ((ad10 0), .inr (8, [.int 0, .ref (ad10 1), .ref (ad10 2), .ref (ad10 3), .ref (ad10 4)])), ((ad10 1), .inl (cy 0, 400, .inl (fun _ => 0))), ((ad10 2), .inl (cy 0, 400, .inl (fun _ => 0))), ((ad10 3), .inl (cy 0, 400, .inl (fun _ => 0))), ((ad10 4), .inl (cy 1, 25600, .inl (fun _ => 0))), ((ad12 0), .inr (8, [.int 0, .ref (ad12 1), .ref (ad12 2), .ref (ad12 3), .ref (ad12 4)])), ((ad12 1), .inl (cy 0, 400, .inl (fun _ => 0))), ((ad12 2), .inl (cy 0, 400, .inl (fun _ => 0))), ((ad12 3), .inl (cy 0, 400, .inl (fun _ => 0))), ((ad12 4), .inl (cy 1, 25600, .inl (fun _ => 0))), (q13, .inl (cy 2, 2048, .inl (fun _ => 0))), (q14, .inl (cy 1, 8200, .inl (fun _ => 0)))] _ _ _ _ _
  refine u_putF G (ci := 10) (T := TX10) 0 33 [(h0, .inr (10, [.int 0, .int 0, .int 0, .int 0, .int 0, .int 0, .int 0, .int 0, .int 0, .int 0, .int 0, .ref q1, .ref q2, .ref q3, .ref (ad5 0), .ref (ad7 0), .ref q8, .int 0, .ref (ad10 0), .ref (ad12 0), .int 0, .int 0, .int 0, .int 0, .ref q13, .int 0, .int 0, .int 0, .int 0, .int 0, .int 0, .int 0, .int 0, .ref q14, .int 0, .int 0])), (q1, .inl (cy 0, 6219, .inl (fun _ => 0))), (q2, .inl (cy 0, 2048, .inl (fun _ => 0))), (q3, .inl (cy 0, 1000, .inl (fun _ => 0))), ((ad5 0), .inr (9, [.ref (ad5 1), .int 0, .int 0, .int 0, .int 0, .ref (ad5 2), .int 0, .int 0, .null, .int 0, .ref q3, .int 0, .int 0, .int 0, .int 0, .int 0, .int 0, .int 0, .int 0, .int 0])), ((ad5 1), .inl (cy 0, 32, .inl (fun _ => 0))), ((ad5 2), .inl (cy 0, 1024, .inl (fun _ => 0))), ((ad7 0), .inr (9, [.ref (ad7 1), .int 0, .int 0, .int 0, .int 0, .ref (ad7 2), .int 0, .int 0, .null, .int 0, .ref q3, .int 0, .int 0, .int 0, .int 0, .int 0, .int 0, .int 0, .int 0, .int 0])), ((ad7 1), .inl (cy 0, 32, .inl (fun _ => 0))), ((ad7 2), .inl (cy 0, 1024, .inl (fun _ => 0))), (q8, .inl (cy 0, 2048, .inl (fun _ => 0))), ((ad10 0), .inr (8, [.int 0, .ref (ad10 1), .ref (ad10 2), .ref (ad10 3), .ref (ad10 4)])), ((ad10 1), .inl (cy 0, 400, .inl (fun _ => 0))), ((ad10 2), .inl (cy 0, 400, .inl (fun _ => 0))), ((ad10 3), .inl (cy 0, 400, .inl (fun _ => 0))), ((ad10 4), .inl (cy 1, 25600, .inl (fun _ => 0))), ((ad12 0), .inr (8, [.int 0, .ref (ad12 1), .ref (ad12 2), .ref (ad12 3), .ref (ad12 4)])), ((ad12 1), .inl (cy 0, 400, .inl (fun _ => 0))), ((ad12 2), .inl (cy 0, 400, .inl (fun _ => 0))), ((ad12 3), .inl (cy 0, 400, .inl (fun _ => 0))), ((ad12 4), .inl (cy 1, 25600, .inl (fun _ => 0))), (q13, .inl (cy 2, 2048, .inl (fun _ => 0))), (q14, .inl (cy 1, 8200, .inl (fun _ => 0)))] dX10_init_107 inX10 tyX10_ok nmX10 rfl rfl (by decide) w4_128 rfl rfl rfl rfl (Nat.le_of_ble_eq_true rfl) rfl ?_
  exact u_vret (sz := 0) G (fun k => ([h0, q1, q2, q3, (ad5 0), (ad5 1), (ad5 2), (ad7 0), (ad7 1), (ad7 2), q8, (ad10 0), (ad10 1), (ad10 2), (ad10 3), (ad10 4), (ad12 0), (ad12 1), (ad12 2), (ad12 3), (ad12 4), q13, q14] : List Nat).getD k 0) dX10_init_110 rfl [0, 1, 2, 3, 4, 5, 6, 7, 8, 9, 10, 11, 12, 13, 14, 15, 16, 17, 18, 19, 20, 21, 22] (by decide) rfl rfl
end
section
/-! the law: its two objects are made (rows as those of the constructors, for a method that is none) -/
def uG0 (p : Program) (s : State) (args : Array Value) (m : MethodId) (c : Code) (D : va_G) (cy : Nat → ClassId) (A : Nat → Prop) (own : String) (cc : ByteArray) (nL : Nat) : Prop :=
  p.tables.exec = Jvm.exec ∧ c.code = cc ∧ c.maxLocals = nL ∧ s.vm.findClass own = some m.cls ∧ (∀ w ∈ tw, w.before args s = true) ∧ kK D cy s ∧ (∀ q, s.heap.size ≤ q → A q)
section LROWS
variable {p : Program} {l : Launch} {e : Env} {R : Room} {s : State} {m : MethodId} {args : Array Value} {below : List Frame} {meth : Method} {c : Code} {D : va_G} {cy : Nat → ClassId} {A : Nat → Prop} {own : String} {cc : ByteArray} {nL : Nat} {Q : State → Prop} {ws : va_W} {cells slots pc : Nat} {lv : List (Nat × Value)} {st : List Value}
theorem l_iconst (G : uG0 p s args m c D cy A own cc nL) {n : Int} {v : Int32} (hd : decode cc pc = .ok (.iconst n, 1)) (hv : Int32.ofInt n = v) (k : U p l e R s m args below meth c D A nL Q ws cells slots (pc + 1) lv (.int v :: st)) : U p l e R s m args below meth c D A nL Q ws cells slots pc lv st := fun H locs ls hP hD hS hl => lv_iconst G.1 G.2.1 hd hv (k H locs ls hP hD hS hl)
theorem l_dup (G : uG0 p s args m c D cy A own cc nL) {a : Value} (hd : decode cc pc = .ok (.dup, 1)) (ha : a.category = 1) (k : U p l e R s m args below meth c D A nL Q ws cells slots (pc + 1) lv (a :: a :: st)) : U p l e R s m args below meth c D A nL Q ws cells slots pc lv (a :: st) := fun H locs ls hP hD hS hl => lv_dup G.1 G.2.1 hd ha (k H locs ls hP hD hS hl)
theorem l_new (G : uG0 p s args m c D cy A own cc nL) {C : String} {T : u_T} {N ci i : Nat} {ty : Nat → FieldType} (fs : List Value) (hd : decode cc pc = .ok (.new i, 3)) (hin : ∀ w ∈ u_ws C T N, w ∈ tw) (hty : ∀ k, k < N → parseFieldDescriptor (T k).2.2.1 = some (ty k)) (w1 : Cond.classLink own i C ∈ tw) (w2 : Cond.instantiable C N ∈ tw) (w3 : Cond.initialized C ∈ tw) (hc : cls[ci]? = some (C, T, N)) (hfs : ∀ j, j < N → defaultValue (ty j) = vp_V fs j) (hcc : cells + 1 ≤ R.cells) (hss : slots + N ≤ R.slots)
    (k : ∀ q : Nat, U p l e R s m args below meth c D A nL Q (ws ++ [(q, .inr (ci, fs))]) (cells + 1) (slots + N) (pc + 3) lv (.ref q :: st)) : U p l e R s m args below meth c D A nL Q ws cells slots pc lv st := by
  intro H locs ls hP hD hS hl
  exact va_new G.1 G.2.1 G.2.2.2.2.1 hin ty hty G.2.2.2.1 (G.2.2.2.2.1 _ w1) (G.2.2.2.2.1 _ w2) (G.2.2.2.2.1 _ w3) G.2.2.2.2.2.1.1 hP hD hS G.2.2.2.2.2.2 hc hfs hcc hss hd (fun q H1 hP1 hD1 hS1 => k q H1 locs ls hP1 hD1 hS1 hl)
theorem l_back {y : MethodName} {cc' : ByteArray} {n' : Nat} {rm : Room} {q kq : Nat} {e0 : va_E} {As : List Value} {post : (Nat → Nat) → va_W} {H : Heap} {locs : List Loc} {ls : Array Slot} {a : Array Value} {st0 : List Value} (G : uG0 p s args m c D cy A own cc nL) (hr : va_Run p l e R s m args below meth c H locs cells slots rm.cells rm.slots (F0 m pc ls st0) st (va_Qv (fun ad : Nat → Nat => ad 0 = q) (fun ad t => va_P D cls (post ad) t.heap ∧ va_D (va_A [(q, e0)] H.size) (post ad)) (va_A [(q, e0)] H.size) a) (va_A [(q, e0)] H.size)) (hP : va_P D cls ws H) (hD : va_D A ws) (hS : va_S A s.heap H locs) (hl : lv_has ls nL lv) (hq : [kq].map (fun i => ws[i]?) = [(q, e0)].map some) (isR : List Nat) (wr : va_W) (hR : isR.map (fun i => ws[i]?) = wr.map some) (hn : va_nd isR = true) (hdis : ∀ i ∈ isR, i ∉ [kq])
    (kk : ∀ ad : Nat → Nat, ad 0 = q → U p l e R s m args below meth c D A nL Q (wr ++ post ad) (cells + rm.cells) (slots + rm.slots) (pc + 3) lv st) : W p l e R s m args below meth c H locs cells slots Q (F0 m pc ls st0) := by
  have hFc := va_free (wc := [(q, e0)]) hD hS G.2.2.2.2.2.2 [kq] hq
  refine va_callv hr hS (fun x _ h => hFc x h) hFc (fun u t H1 locs1 ht hvm hw hB hz1 hk1 hS1 => ?_)
  obtain ⟨hP1, hD1⟩ := hB
  rw [ht] at hP1
  obtain ⟨hP2, hD2⟩ := va_join (wr := wr) (w1 := post u) hP hD [kq] isR hq hR hn hdis hk1 hFc hP1 hD1
  exact kk u hw H1 locs1 ls hP2 hD2 hS1 hl
theorem l_callI {y : MethodName} {cc' : ByteArray} {n' i : Nat} {rm : Room} {q kq : Nat} {e0 : va_E} {As st0 : List Value} {post : (Nat → Nat) → va_W} (G : uG0 p s args m c D cy A own cc nL) (hC : ConI l D cy y cc' n' rm q e0 As post) (hq : [kq].map (fun i => ws[i]?) = [(q, e0)].map some) (isR : List Nat) (wr : va_W) (hR : isR.map (fun i => ws[i]?) = wr.map some) (hn : va_nd isR = true) (hdis : ∀ i ∈ isR, i ∉ [kq]) (w1 : Cond.methodLink own i y ∈ tw) (w2 : Cond.instanceMethod y ∈ tw) (w4 : Cond.initialized y.cls ∈ tw) (w5 : Cond.code y cc' n' none ∈ tw) (hy1 : y.name = "<init>")
    (hy : y.cls ≠ "java/lang/invoke/MethodHandle" ∧ y.cls ≠ "java/lang/invoke/VarHandle" ∧ (parseMethodDescriptor y.desc).map (fun d => d.parameters.length) = some As.length) (hRm : rm.frames + 1 ≤ R.frames ∧ 8 + (n' + 11) + rm.locals ≤ R.locals) (hst : st0 = As.reverse ++ .ref q :: st) (hrm : (st.map fun v => v.category).sum ≤ 8) (hd : decode cc pc = .ok (.invokespecial i, 3)) (hcs : cells + rm.cells ≤ R.cells ∧ slots + rm.slots ≤ R.slots)
    (kk : ∀ ad : Nat → Nat, ad 0 = q → U p l e R s m args below meth c D A nL Q (wr ++ post ad) (cells + rm.cells) (slots + rm.slots) (pc + 3) lv st) : U p l e R s m args below meth c D A nL Q ws cells slots pc lv st0 := by
  intro H locs ls hP hD hS hl
  obtain ⟨g1, g2, g3, g4, g5, g6, g7⟩ := id G
  have hPc : va_P D cls [(q, e0)] H := hP.sub [kq] (by have h := hq; simp only [List.map_cons, List.map_nil, List.cons.injEq, and_true] at h; simp [h])
  have cb : CallB R s args own i y cc' n' none (uw y cc' n' none) rm rm.cells rm.slots As.length := callB_of As.length g5 (lw_goodIn w5) rfl rfl rfl (g5 _ w4) (g5 _ w1) hy hRm
  have hp : PreS s H (va_Pc (.ref q :: As) (fun U => U.heap.size = H.size ∧ va_P D cls [(q, e0)] U.heap ∧ kK D cy U)) (.ref q :: As) := ⟨cI_blind _ _ _ _ _, fun U hU hW => ⟨rfl, by rw [hU], by rw [hU]; exact hPc, sh_K.warm hW g6⟩⟩
  exact l_back (kq := kq) G (va_runI (As := As) (rest := st) ⟨g1, g2, g3, g4, g5⟩ (hC H.size) ⟨cb, hy1, g5 _ w2⟩ hp rfl rfl hl.1 hst (lv_room hrm) hd hcs) hP hD hS hl hq isR wr hR hn hdis kk (cc' := cc') (y := y) (n' := n') (As := As)
theorem l_astore_n (G : uG0 p s args m c D cy A own cc nL) {i : Fin 4} {x : Nat} (lv' : List (Nat × Value)) (hd : decode cc pc = .ok (.astore_n i, 1)) (hn : (i : Nat) < nL) (he : ((i : Nat), Value.ref x) :: lv.filter (fun q => !(q.1 == (i : Nat)) && !(q.1 + 1 == (i : Nat) && q.2.category == 2)) = lv') (k : U p l e R s m args below meth c D A nL Q ws cells slots (pc + 1) lv' st) : U p l e R s m args below meth c D A nL Q ws cells slots pc lv (.ref x :: st) := fun H locs ls hP hD hS hl => lv_astore_n G.1 G.2.1 hd rfl hl hn he (fun ls' hl' => k H locs ls' hP hD hS hl')
theorem l_istore_n (G : uG0 p s args m c D cy A own cc nL) {i : Fin 4} {x : Int32} (lv' : List (Nat × Value)) (hd : decode cc pc = .ok (.istore_n i, 1)) (hn : (i : Nat) < nL) (he : ((i : Nat), Value.int x) :: lv.filter (fun q => !(q.1 == (i : Nat)) && !(q.1 + 1 == (i : Nat) && q.2.category == 2)) = lv') (k : U p l e R s m args below meth c D A nL Q ws cells slots (pc + 1) lv' st) : U p l e R s m args below meth c D A nL Q ws cells slots pc lv (.int x :: st) := fun H locs ls hP hD hS hl => lv_istore_n G.1 G.2.1 hd rfl hl hn he (fun ls' hl' => k H locs ls' hP hD hS hl')
end LROWS
end
section
/-! the law: behind its two constructors -/
def pS (cy : Nat → ClassId) (ad : Nat → Nat) : va_W := [((ad 0), .inr (7, [.ref (ad 4), .ref (ad 1), .ref (ad 7), .ref (ad 20)])), ((ad 1), .inr (4, [.ref (ad 2), .ref (ad 3), .int 0, .int 0, .int 0, .int 0, .int 0, .int 0, .int 0])), ((ad 2), .inl (cy 0, 2048, .inl (fun _ => 0))), ((ad 3), .inl (cy 0, 1000, .inl (fun _ => 0))), ((ad 4), .inr (6, [.ref (ad 5), .int 0, .int 0])), ((ad 5), .inr (0, [.ref (ad 6)])), ((ad 6), .inl (cy 0, 2050, .inl (fun _ => 0))), ((ad 7), .inr (2, [.ref (ad 1), .ref (ad 16), .ref (ad 8), .ref (ad 9), .ref (ad 10), .ref (ad 17), .int 0, .int 0, .int 0, .int 0, .int 0, .int 0, .int 0, .int 0, .int 0])), ((ad 8), .inl (cy 0, 2048, .inl (fun _ => 0))), ((ad 9), .inl (cy 0, 7, .inl (fun _ => 0))), ((ad 10), .inr (5, [.ref (ad 11), .ref (ad 12), .ref (ad 13), .ref (ad 14), .int 0, .int 0])), ((ad 11), .inl (cy 0, 400, .inl (fun _ => 0))), ((ad 12), .inl (cy 0, 400, .inl (fun _ => 0))), ((ad 13), .inl (cy 0, 400, .inl (fun _ => 0))), ((ad 14), .inr (0, [.ref (ad 15)])), ((ad 15), .inl (cy 0, 6400, .inl (fun _ => 0))), ((ad 16), .inl (cy 0, 6219, .inl (fun _ => 0))), ((ad 17), .inr (1, [.ref (ad 1), .ref (ad 18), .ref (ad 19), .ref (ad 16), .int 0, .int 0, .int 0, .int 0, .int 0, .int 0])), ((ad 18), .inl (cy 0, 36, .inl (fun _ => 0))), ((ad 19), .inl (cy 0, 1024, .inl (fun _ => 0))), ((ad 20), .inr (3, [.ref (ad 1), .ref (ad 27), .ref (ad 28), .ref (ad 21), .int 0, .int 0])), ((ad 21), .inr (5, [.ref (ad 22), .ref (ad 23), .ref (ad 24), .ref (ad 25), .int 0, .int 0])), ((ad 22), .inl (cy 0, 400, .inl (fun _ => 0))), ((ad 23), .inl (cy 0, 400, .inl (fun _ => 0))), ((ad 24), .inl (cy 0, 400, .inl (fun _ => 0))), ((ad 25), .inr (0, [.ref (ad 26)])), ((ad 26), .inl (cy 0, 6400, .inl (fun _ => 0))), ((ad 27), .inl (cy 0, 2048, .inl (fun _ => 0))), ((ad 28), .inr (1, [.ref (ad 1), .ref (ad 29), .ref (ad 30), .ref (ad 27), .int 0, .int 0, .int 0, .int 0, .int 0, .int 0])), ((ad 29), .inl (cy 0, 36, .inl (fun _ => 0))), ((ad 30), .inl (cy 0, 1024, .inl (fun _ => 0)))]
def pM (cy : Nat → ClassId) (ad : Nat → Nat) : va_W := [((ad 0), .inr (10, [.int 0, .int 0, .int 0, .int 0, .int 0, .int 0, .int 0, .int 0, .int 0, .int 0, .int 0, .ref (ad 1), .ref (ad 2), .ref (ad 3), .ref (ad 4), .ref (ad 7), .ref (ad 10), .int 0, .ref (ad 11), .ref (ad 16), .int 0, .int 0, .int 0, .int 0, .ref (ad 21), .int 0, .int 0, .int 0, .int 0, .int 0, .int 0, .int 0, .int 0, .ref (ad 22), .int 0, .int 0])), ((ad 1), .inl (cy 0, 6219, .inl (fun _ => 0))), ((ad 2), .inl (cy 0, 2048, .inl (fun _ => 0))), ((ad 3), .inl (cy 0, 1000, .inl (fun _ => 0))), ((ad 4), .inr (9, [.ref (ad 5), .int 0, .int 0, .int 0, .int 0, .ref (ad 6), .int 0, .int 0, .null, .int 0, .ref (ad 3), .int 0, .int 0, .int 0, .int 0, .int 0, .int 0, .int 0, .int 0, .int 0])), ((ad 5), .inl (cy 0, 32, .inl (fun _ => 0))), ((ad 6), .inl (cy 0, 1024, .inl (fun _ => 0))), ((ad 7), .inr (9, [.ref (ad 8), .int 0, .int 0, .int 0, .int 0, .ref (ad 9), .int 0, .int 0, .null, .int 0, .ref (ad 3), .int 0, .int 0, .int 0, .int 0, .int 0, .int 0, .int 0, .int 0, .int 0])), ((ad 8), .inl (cy 0, 32, .inl (fun _ => 0))), ((ad 9), .inl (cy 0, 1024, .inl (fun _ => 0))), ((ad 10), .inl (cy 0, 2048, .inl (fun _ => 0))), ((ad 11), .inr (8, [.int 0, .ref (ad 12), .ref (ad 13), .ref (ad 14), .ref (ad 15)])), ((ad 12), .inl (cy 0, 400, .inl (fun _ => 0))), ((ad 13), .inl (cy 0, 400, .inl (fun _ => 0))), ((ad 14), .inl (cy 0, 400, .inl (fun _ => 0))), ((ad 15), .inl (cy 1, 25600, .inl (fun _ => 0))), ((ad 16), .inr (8, [.int 0, .ref (ad 17), .ref (ad 18), .ref (ad 19), .ref (ad 20)])), ((ad 17), .inl (cy 0, 400, .inl (fun _ => 0))), ((ad 18), .inl (cy 0, 400, .inl (fun _ => 0))), ((ad 19), .inl (cy 0, 400, .inl (fun _ => 0))), ((ad 20), .inl (cy 1, 25600, .inl (fun _ => 0))), ((ad 21), .inl (cy 2, 2048, .inl (fun _ => 0))), ((ad 22), .inl (cy 1, 8200, .inl (fun _ => 0)))]
set_option linter.unusedVariables false in
set_option maxHeartbeats 4000000 in
set_option maxRecDepth 100000 in
theorem law_made {p : Program} {l : Launch} {e : Env} {R : Room} {s : State} {m : MethodId} {args : Array Value} {below : List Frame} {meth : Method} {c : Code} {D : va_G} {cy : Nat → ClassId} {A : Nat → Prop} {Q : State → Prop} {b : Nat} (h1 : 54 ≤ R.cells) (h2 : 110173 ≤ R.slots) (h3 : 6 ≤ R.frames) (h4 : 200 ≤ R.locals) (G : uG0 p s args m c D cy A "SensorNodeLaw" cL_law 4)
    (k : ∀ ad1 ad2 : Nat → Nat, U p l e R s m args below meth c D A 4 Q (pS cy ad1 ++ pM cy ad2) 54 110173 18 [(3, .int 0), (2, .ref (ad2 0)), (1, .ref (ad1 0)), (0, .ref b)] []) : U p l e R s m args below meth c D A 4 Q [] 0 0 0 [(0, .ref b)] [] := by
  refine l_new G (ci := 7) blX7 dL_law_0 inX7 tyX7_ok w1_12 w1_13 w1_1 rfl blX7_ok (by omega) (by omega) (fun q1 => ?_)
  show U _ _ _ _ _ _ _ _ _ _ _ _ _ _ [(q1, .inr (7, blX7))] _ _ _ _ _
  refine l_dup G dL_law_3 rfl ?_
  refine l_callI G (kq := 0) (As := []) (st := [.ref q1]) (post := pS cy) (c_S_init l D cy q1) rfl [] [] rfl (by decide) (by decide) w1_14 w1_15 w1_1 w1_16 rfl qyX7_init ⟨by simp only [rmi]; omega, by simp only [rmi]; omega⟩ rfl (Nat.le_of_ble_eq_true rfl) dL_law_4 ⟨by simp only [rmi]; omega, by simp only [rmi]; omega⟩ (fun ad1 ha1 => ?_)
  subst ha1
  show U _ _ _ _ _ _ _ _ _ _ _ _ _ _ (pS cy ad1) _ _ _ _ _
  refine l_astore_n G [(1, .ref (ad1 0)), (0, .ref b)] dL_law_7 (by decide) rfl ?_
  refine l_new G (ci := 10) blX10 dL_law_8 inX10 tyX10_ok w3_216 w3_217 w1_9 rfl blX10_ok (by simp only [rmi]; omega) (by simp only [rmi]; omega) (fun q2 => ?_)
  refine l_dup G dL_law_11 rfl ?_
  refine l_callI G (kq := 31) (As := []) (st := [.ref q2]) (post := pM cy) (c_M_init l D cy q2) rfl (List.range 31) (pS cy ad1) rfl (by decide) (by decide) w3_218 w3_219 w1_9 w3_220 rfl qyX10_init ⟨by simp only [rmi]; omega, by simp only [rmi]; omega⟩ rfl (Nat.le_of_ble_eq_true rfl) dL_law_12 ⟨by simp only [rmi]; omega, by simp only [rmi]; omega⟩ (fun ad2 ha2 => ?_)
  subst ha2
  refine l_astore_n G [(2, .ref (ad2 0)), (1, .ref (ad1 0)), (0, .ref b)] dL_law_15 (by decide) rfl ?_
  refine l_iconst G (v := (0 : Int32)) dL_law_16 (by decide) ?_
  refine l_istore_n G [(3, .int 0), (2, .ref (ad2 0)), (1, .ref (ad1 0)), (0, .ref b)] dL_law_17 (by decide) rfl ?_
  exact k ad1 ad2
end
section
/-! what the tables say at the law's start -/
theorem tl1 {w : Cond} (i : Nat) (hi : tables_1_1[i]? = some w) : w ∈ lw_tbl := by
  have h := List.mem_of_getElem? hi
  exact List.mem_append_right _ (List.mem_append_left _ h)
theorem tl2 {w : Cond} (i : Nat) (hi : tables_1_2[i]? = some w) : w ∈ lw_tbl := by
  have h := List.mem_of_getElem? hi
  exact List.mem_append_right _ (List.mem_append_right _ (List.mem_append_left _ h))
theorem tl3 {w : Cond} (i : Nat) (hi : tables_1_3[i]? = some w) : w ∈ lw_tbl := by
  have h := List.mem_of_getElem? hi
  exact List.mem_append_right _ (List.mem_append_right _ (List.mem_append_right _ (List.mem_append_left _ h)))
theorem tl4 {w : Cond} (i : Nat) (hi : tables_1_4[i]? = some w) : w ∈ lw_tbl := by
  have h := List.mem_of_getElem? hi
  exact List.mem_append_right _ (List.mem_append_right _ (List.mem_append_right _ (List.mem_append_right _ (List.mem_append_left _ h))))
theorem tl5 {w : Cond} (i : Nat) (hi : tables_1_5[i]? = some w) : w ∈ lw_tbl := by
  have h := List.mem_of_getElem? hi
  exact List.mem_append_right _ (List.mem_append_right _ (List.mem_append_right _ (List.mem_append_right _ (List.mem_append_right _ (h)))))
set_option maxHeartbeats 4000000 in
set_option maxRecDepth 100000 in
theorem law_kK {s : State} {args : Array Value} (hts : ∀ w ∈ lw_tbl, w.before args s = true) : ∃ (D : va_G) (cy : Nat → ClassId), kK D cy s := by
  have htw : ∀ w ∈ tw, w.before args s = true := fun w h => hts w (List.mem_filter.mp h).1
  obtain ⟨c0, i0, h0⟩ := u_known (C := RX0) (T := TX0) (N := 1) htw inX0 (htw _ w1_70)
  obtain ⟨c1, i1, h1⟩ := u_known (C := RX1) (T := TX1) (N := 10) htw inX1 (htw _ w1_123)
  obtain ⟨c2, i2, h2⟩ := u_known (C := RX2) (T := TX2) (N := 15) htw inX2 (htw _ w1_90)
  obtain ⟨c3, i3, h3⟩ := u_known (C := RX3) (T := TX3) (N := 6) htw inX3 (htw _ w1_206)
  obtain ⟨c4, i4, h4⟩ := u_known (C := RX4) (T := TX4) (N := 9) htw inX4 (htw _ w1_21)
  obtain ⟨c5, i5, h5⟩ := u_known (C := RX5) (T := TX5) (N := 6) htw inX5 (htw _ w1_96)
  obtain ⟨c6, i6, h6⟩ := u_known (C := RX6) (T := TX6) (N := 3) htw inX6 (htw _ w1_64)
  obtain ⟨c7, i7, h7⟩ := u_known (C := RX7) (T := TX7) (N := 4) htw inX7 (htw _ w1_13)
  obtain ⟨c8, i8, h8⟩ := u_known (C := RX8) (T := TX8) (N := 5) htw inX8 (htw _ w4_64)
  obtain ⟨c9, i9, h9⟩ := u_known (C := RX9) (T := TX9) (N := 20) htw inX9 (htw _ w3_223)
  obtain ⟨c10, i10, h10⟩ := u_known (C := RX10) (T := TX10) (N := 36) htw inX10 (htw _ w3_217)
  obtain ⟨aI, kI, mI, fI, gI, dI⟩ := Cond.arrayClass_spec (htw _ w1_62)
  obtain ⟨aB, kB, mB, fB, gB, dB⟩ := Cond.arrayClass_spec (htw _ w4_94)
  obtain ⟨aZ, kZ, mZ, fZ, gZ, dZ⟩ := Cond.arrayClass_spec (htw _ w4_204)
  refine ⟨(fun k => [c0, c1, c2, c3, c4, c5, c6, c7, c8, c9, c10].getD k c0, fun k => [i0, i1, i2, i3, i4, i5, i6, i7, i8, i9, i10].getD k i0), fun k => [aI, aB, aZ].getD k aI, ⟨?_, ?_⟩, ?_, ?_⟩
  · intro c q hq
    match c, hq with
    | 0, hq => cases hq; exact h0
    | 1, hq => cases hq; exact h1
    | 2, hq => cases hq; exact h2
    | 3, hq => cases hq; exact h3
    | 4, hq => cases hq; exact h4
    | 5, hq => cases hq; exact h5
    | 6, hq => cases hq; exact h6
    | 7, hq => cases hq; exact h7
    | 8, hq => cases hq; exact h8
    | 9, hq => cases hq; exact h9
    | 10, hq => cases hq; exact h10
    | k + 11, hq => simp [cls] at hq
  · intro k q hq
    match k, hq with
    | 0, hq => cases hq; exact ⟨fun n z => ⟨fun k h => (by cases h), kI, gI, mI, dI⟩, fI⟩
    | 1, hq => cases hq; exact ⟨fun n z => ⟨fun k h => (by cases h), kB, gB, mB, dB⟩, fB⟩
    | 2, hq => cases hq; exact ⟨fun n z => ⟨fun k h => (by cases h), kZ, gZ, mZ, dZ⟩, fZ⟩
    | k + 3, hq => simp [tys3] at hq
  · exact List.forall_mem_cons.mpr ⟨va_Nw.of rfl (hts _ (tl1 30 rfl)), List.forall_mem_cons.mpr ⟨va_Nw.of rfl (hts _ (tl1 32 rfl)), List.forall_mem_cons.mpr ⟨va_Nw.of rfl (hts _ (tl1 33 rfl)), List.forall_mem_cons.mpr ⟨va_Nw.of rfl (hts _ (tl1 35 rfl)), List.forall_mem_cons.mpr ⟨va_Nw.of rfl (hts _ (tl1 36 rfl)), List.forall_mem_cons.mpr ⟨va_Nw.of rfl (hts _ (tl1 39 rfl)), List.forall_mem_cons.mpr ⟨va_Nw.of rfl (hts _ (tl1 40 rfl)), List.forall_mem_cons.mpr ⟨va_Nw.of rfl (hts _ (tl1 42 rfl)), fun _ h => absurd h List.not_mem_nil⟩⟩⟩⟩⟩⟩⟩⟩
  · exact List.forall_mem_cons.mpr ⟨va_Nw.of rfl (hts _ (tl1 22 rfl)), List.forall_mem_cons.mpr ⟨va_Nw.of rfl (hts _ (tl1 65 rfl)), List.forall_mem_cons.mpr ⟨va_Nw.of rfl (hts _ (tl1 97 rfl)), List.forall_mem_cons.mpr ⟨va_Nw.of rfl (hts _ (tl1 212 rfl)), List.forall_mem_cons.mpr ⟨va_Nw.of rfl (hts _ (tl4 65 rfl)), fun _ h => absurd h List.not_mem_nil⟩⟩⟩⟩⟩
end
section
/-! THE STATEMENT IS FALSE: at a start that has room for what the two constructors make, with the empty script, the law ends with cells of more than 95323 slots -/
theorem set_sum : ∀ (l : List Nat) (j n : Nat), l[j]? = some n → l.sum = n + (l.set j 0).sum
  | [], j, n, h => by simp at h
  | a :: l, 0, n, h => by simp at h; subst h; simp
  | a :: l, j + 1, n, h => by
    have h1 : l[j]? = some n := by simpa using h
    have h2 := set_sum l j n h1
    simp only [List.set_cons_succ, List.sum_cons]
    omega
theorem pick_le : ∀ (js : List (Nat × Nat)) (l : List Nat), (js.map (·.1)).Nodup → (∀ q ∈ js, l[q.1]? = some q.2) → (js.map (·.2)).sum ≤ l.sum
  | [], l, _, _ => by simp
  | q :: js, l, hn, h => by
    have h1 := set_sum l q.1 q.2 (h q List.mem_cons_self)
    simp only [List.map_cons, List.nodup_cons] at hn
    have h2 := pick_le js (l.set q.1 0) hn.2 (fun r hr => by
      rw [List.getElem?_set_ne (fun z => hn.1 (List.mem_map.mpr ⟨r, hr, z.symm⟩))]
      exact h r (List.mem_cons_of_mem _ hr))
    simp only [List.map_cons, List.sum_cons]
    omega
/-- arrays of a world that lies behind z: their lengths together are no more than the slots behind z -/
theorem world_le {D : va_G} {ws : va_W} {H : Heap} {z : Nat} (hP : va_P D cls ws H) (hD : va_D (fun q => z ≤ q) ws) (ks : List (Nat × Nat)) (hk : (ks.map (·.1)).Nodup) (ha : ∀ q ∈ ks, ∃ (a : Nat) (cA : ClassId) (f : Nat → Int32), ws[q.1]? = some (a, .inl (cA, q.2, .inl f))) : (ks.map (·.2)).sum ≤ ((H.toList.drop z).map (·.slots.size)).sum := by
  have hx : ∀ q ∈ ks, ∃ a, z ≤ a ∧ (∃ e, ws[q.1]? = some (a, e)) ∧ ((H.toList.drop z).map (·.slots.size))[a - z]? = some q.2 := by
    intro q hq
    obtain ⟨a, cA, f, hw⟩ := ha q hq
    have h1 : H[a]? = some (vp_cell cA (q.2, .inl f)) := hP q.1 _ hw
    have h2 : z ≤ a := hD.2 q.1 _ hw
    refine ⟨a, h2, ⟨_, hw⟩, ?_⟩
    rw [List.getElem?_map, List.getElem?_drop, show z + (a - z) = a by omega, Array.getElem?_toList, h1]
    simp [vp_cell_i, arrV_size]
  have key : ∀ ks' : List (Nat × Nat), (∀ q ∈ ks', q ∈ ks) → (ks'.map (·.1)).Nodup → ∃ js : List (Nat × Nat), js.map (·.2) = ks'.map (·.2) ∧ (js.map (·.1)).Nodup ∧ (∀ r ∈ js, ((H.toList.drop z).map (·.slots.size))[r.1]? = some r.2) ∧ ∀ r ∈ js, ∃ q ∈ ks', ∃ e, ws[q.1]? = some (r.1 + z, e) := by
    intro ks'
    induction ks' with
    | nil => intro _ _; exact ⟨[], rfl, List.nodup_nil, fun _ h => absurd h List.not_mem_nil, fun _ h => absurd h List.not_mem_nil⟩
    | cons q ks' ih =>
      intro hs hn
      simp only [List.map_cons, List.nodup_cons] at hn
      obtain ⟨js, e1, e2, e3, e4⟩ := ih (fun r hr => hs r (List.mem_cons_of_mem _ hr)) hn.2
      obtain ⟨a, h1, ⟨e, h2⟩, h3⟩ := hx q (hs q List.mem_cons_self)
      refine ⟨(a - z, q.2) :: js, by simp [e1], ?_, ?_, ?_⟩
      · simp only [List.map_cons, List.nodup_cons]
        refine ⟨fun hm => ?_, e2⟩
        obtain ⟨r, hr, hre⟩ := List.mem_map.mp hm
        obtain ⟨q', hq', e', hw'⟩ := e4 r hr
        have hi := hD.1 q.1 q'.1 _ _ h2 hw' (by show a = r.1 + z; omega)
        exact hn.1 (List.mem_map.mpr ⟨q', hq', hi.symm⟩)
      · intro r hr
        rcases List.mem_cons.mp hr with rfl | hr
        · exact h3
        · exact e3 r hr
      · intro r hr
        rcases List.mem_cons.mp hr with rfl | hr
        · exact ⟨q, List.mem_cons_self, e, by rw [h2]; congr 2; omega⟩
        · obtain ⟨q', hq', h⟩ := e4 r hr
          exact ⟨q', List.mem_cons_of_mem _ hq', h⟩
  obtain ⟨js, e1, e2, e3, -⟩ := key ks (fun _ h => h) hk
  rw [← e1]
  exact pick_le js _ e2 e3
def room_w : Room := { frames := 10, cells := 54, slots := 110173, locals := 366 }
def rf_Q (_ : Array Value) (s : State) (o : Outcome) (t : State) : Prop := o = .returned (some (.int 1)) ∧ 95323 < ((t.heap.toList.drop s.heap.size).map (·.slots.size)).sum
def rf_P (b : Addr) (args : Array Value) (s : State) : Prop := args = #[.ref b] ∧ s.IntsAt b []
set_option maxHeartbeats 4000000 in
set_option maxRecDepth 100000 in
theorem made_sum {D : va_G} {cy : Nat → ClassId} {ad1 ad2 : Nat → Nat} {H : Heap} {z : Nat} (hP : va_P D cls (pS cy ad1 ++ pM cy ad2) H) (hD : va_D (fun q => z ≤ q) (pS cy ad1 ++ pM cy ad2)) : 95323 < ((H.toList.drop z).map (·.slots.size)).sum := by
  have h := world_le hP hD [(2, 2048), (6, 2050), (8, 2048), (15, 6400), (16, 6219), (26, 6400), (27, 2048), (32, 6219), (33, 2048), (41, 2048), (46, 25600), (51, 25600), (52, 2048), (53, 8200)] (by decide) (fun q hq => by
    simp only [List.mem_cons, List.not_mem_nil, or_false] at hq
    rcases hq with rfl | rfl | rfl | rfl | rfl | rfl | rfl | rfl | rfl | rfl | rfl | rfl | rfl | rfl <;> exact ⟨_, _, _, rfl⟩)
  exact Nat.lt_of_lt_of_le (by decide) h
set_option maxHeartbeats 4000000 in
set_option maxRecDepth 100000 in
theorem rf_walk (l : Launch) (b : Addr) : MetFree l x (headSpec (Jvm.Cond.code x code maxLocals ret :: tables_1) room_w) (rf_P b) (fun _ _ _ _ _ => True) rf_Q := by
  refine MetFree.of_bodyS (code := code) (maxLocals := maxLocals) (ret := ret) (by decide) ?_ ?_
  · intro args s m h hn
    obtain ⟨meth, c, h1, h2, h3, h4, h5, h6, -, -⟩ := Cond.code_spec hn (atoms_spec (ws := Jvm.Cond.code x code maxLocals ret :: tables_1) h _ List.mem_cons_self)
    exact ⟨meth, c, h1, h2, h3, h4, h5, h6⟩
  · intro p e s m args below meth c s₁ B hml0 hP _
    obtain ⟨rfl, hx⟩ := hP
    obtain ⟨scr, harrAt, hlist, hof, hsmall⟩ := hx
    obtain ⟨hcb, hkn, -, -⟩ := State.arrayAt?_spec harrAt
    have hown : s.vm.findClass "SensorNodeLaw" = some m.cls := findClass_of_methodNamed B.named
    have hts0 : ∀ c ∈ (Jvm.Cond.code x code maxLocals ret :: tables_1), c.before #[Value.ref b] s = true := atoms_spec (ws := Jvm.Cond.code x code maxLocals ret :: tables_1) B.pre
    have hts : ∀ w ∈ lw_tbl, w.before #[Value.ref b] s = true := k2_hts_sels lw_privs (fun w hw => hts0 w (List.mem_cons_of_mem _ hw)) lw_privs_ok
    have hml : c.maxLocals = 4 := B.maxLocals_eq (hts0 _ List.mem_cons_self)
    have X₀ : Stand p l e room_w s m #[Value.ref b] below meth c s₁ [] 0 0 := Stand.of_body B
    have hh0 : s₁.heap = s.heap := by rw [B.state]; rfl
    have hsz : scr.slots.size = 0 := by rw [← Array.length_toList, hlist]; rfl
    have hbl : b < s.heap.size := (Array.getElem?_eq_some_iff.mp hcb).1
    have hX : va_X b 0 (fun _ => 0) s s.heap := ⟨scr, hcb, hof, hkn, hsz, fun j hj => absurd hj (Nat.not_lt_zero j)⟩
    obtain ⟨D, cy, hK⟩ := law_kK hts
    have hr := B.returns
    have hlocks := B.notSynchronized
    have hxc := B.exec
    have hbc := B.bytes
    have G : uG0 p s #[Value.ref b] m c D cy (fun q => s.heap.size ≤ q) "SensorNodeLaw" cL_law 4 := ⟨B.exec, B.bytes, hml, hown, fun w h => hts w (List.mem_filter.mp h).1, hK, fun _ h => h⟩
    have K : W p l e room_w s m #[Value.ref b] below meth c s.heap [] 0 0 (fun t => ∃ o, t.status = .running ∧ Ended t below o ∧ rf_Q #[Value.ref b] s o t) (entryFrame m ([Value.ref b] : List Value).toArray 4) := by
      have hl := lv_entry ([.ref b] : List Value) (n := 4) (Nat.le_of_ble_eq_true rfl)
      rw [lg_entry_eq]
      refine law_made (b := b) (R := room_w) (by decide) (by decide) (by decide) (by decide) G (fun ad1 ad2 => ?_) s.heap [] _ (fun k q h => by simp at h) ⟨fun i j p q h => by simp at h, fun k q h => by simp at h⟩ va_S.rf hl
      intro H locs ls hP hD hS hl
      refine lv_iload_n hxc hbc dL_law_18 rfl (lv_at hl 0 rfl) ?_
      refine lv_aload_n hxc hbc dL_law_19 rfl (lv_at hl 3 rfl) ?_
      refine va_slen hxc hbc hX hbl (Nat.not_le.mpr hbl) hS dL_law_20 ?_
      refine lv_bipush (v := 6) hxc hbc dL_law_21 (by decide) ?_
      refine lv_isub hxc hbc dL_law_23 ?_
      refine lv_icmp_gt (tgt := 698) hxc hbc dL_law_24 (by decide) (fun _ => ?_) (fun h => absurd (by decide) h)
      refine lv_iconst (v := 1) hxc hbc dL_law_698 (by decide) ?_
      intro T hT X
      obtain ⟨fs, hret, hrun, hended, hW, hframe⟩ := X.leave (v := some (.int 1)) (hlocks := hlocks) (fun h => by rw [hr] at h; cases h)
      have hmeth' : T.vm.method? m = some meth := X.method'
      refine ⟨T.setFrames fs, ?_, .returned (some (.int 1)), hrun, hended, rfl, ?_⟩
      · jvm_step X.here [X.here.top, hxc, hbc, dL_law_699, hmeth', hr, ret, narrow_b1]
        (try refine ⟨rfl, ?_⟩); (try refine ⟨rfl, ?_⟩)
        first | (intro acts; rw [hret _ acts rfl rfl rfl]) | rw [hret _ _ rfl rfl rfl]
        exact Steps.refl _
      · show 95323 < ((T.heap.toList.drop s.heap.size).map (·.slots.size)).sum
        rw [hT]
        exact made_sum hP hD
    obtain ⟨t, a1, o, b1, b2, b3⟩ := K s₁ hh0 X₀
    exact ⟨t, o, a1, b1, b2, b3⟩
/-- A REFUTATION: let any start meet the claim's premises, with room for 110173 slots (the claim asks for 95323) and the empty script: then Claimed_1_1 is false -/
theorem whole_refuted {l : Launch} {p : Program} {e : Env} {s : State} {m : MethodId} {args : Array Value} {below : List Frame} {b : Addr} (h0 : l.flags = flags0) (hA : AtStart classFile x code maxLocals ret World_1 tables_1 room_1 Calls_1 rest_1 Pre_1 l p e s m args below) (hroom : (headSpec (Cond.code x code maxLocals ret :: tables_1) room_w).applies x e.platform s = true) (hb : rf_P b args s) : ¬ Claimed_1_1 := by
  intro hC
  obtain ⟨a1, a2, a3, -, a5, a6, a7, a8, a9, a10, a11, a12, a13⟩ := hA
  obtain ⟨n, o, w1, -, e1, -, f1⟩ := hC l h0 a1 a2 p e a3 a5 a6 s m args below a7 a8 a9 a10 ⟨a11, a12, a13⟩
  obtain ⟨n', o', w2, -, e2, -, f2⟩ := rf_walk l b p e a3 a5 a6 s m args below a7 ((Spec.applies_iff_loose a7).mp hroom).1 hb trivial
  obtain ⟨hn, -⟩ := the_end_unique (f := fun k => stepsAlone p.tables e k s) w1 e1 w2 e2
  subst hn
  have h3 : ((({ stepsAlone p.tables e n s with vm := s.vm } : State).heap.toList.drop s.heap.size).map (·.slots.size)).sum ≤ 95323 := f1.2.2.2.2.2.2.1
  exact absurd h3 (Nat.not_le.mpr f2)
end
section
/-! the refutation without a premise: the witness' own start, with the empty script -/
noncomputable abbrev st0 : State := start1.aboutOf #[]
theorem st0_tabs : (Cond.code x code maxLocals ret :: tables_1).all (fun c => c.onTables || (decide (c = .arrayClass .int) || (decide (c = .arrayClass .byte) || decide (c = .arrayClass .boolean)))) = true := by decide +kernel
theorem st0_words : ∀ c ∈ (Cond.code x code maxLocals ret :: tables_1), c.before start1.args0 st0 = true := by
  intro c hc
  have h := List.all_eq_true.mp st0_tabs c hc
  rcases Bool.or_eq_true_iff.mp h with h | h
  · exact va_tabs h (rfl : start1.about.vm = st0.vm) (start1.words c hc)
  rcases Bool.or_eq_true_iff.mp h with h | h
  · rw [of_decide_eq_true h]; decide +kernel
  rcases Bool.or_eq_true_iff.mp h with h | h
  · rw [of_decide_eq_true h]; decide +kernel
  · rw [of_decide_eq_true h]; decide +kernel
theorem st0_applies (r : Room) (h1 : st0.frames.length + r.frames ≤ launch0.maxFrames) (hR : st0.hasRoom start1.e0.platform r = true) : (headSpec (Cond.code x code maxLocals ret :: tables_1) r).applies x start1.e0.platform st0 = true :=
  (Spec.applies_iff rfl).mpr ⟨rfl, rfl, rfl, by decide +kernel, by decide +kernel, by decide +kernel, hR, atoms_intro st0_words⟩
theorem st0_start : AtStart classFile x code maxLocals ret World_1 tables_1 room_1 Calls_1 rest_1 Pre_1 launch0 start1.p0 start1.e0 st0 ⟨0, 0⟩ start1.args0 Lib.HandBits.below0 :=
  ⟨lists_1, trivial, launch0.admits_env _ _ _, launch0.least_env, fairChoices_fair.cas, fairChoices_fair.clock, rfl, by decide +kernel, by decide +kernel,
    st0_applies room_1 (by decide +kernel) (launch0.hasRoom_least _ room_1 (by decide +kernel) (by decide +kernel) (by decide +kernel) (by decide +kernel) (by decide +kernel) (by decide +kernel)),
    trivial, (show rest_1_c.before start1.args0 st0 = true by decide +kernel), (show (Cond.and given_1 narrow_1).before start1.args0 st0 = true by decide +kernel)⟩
theorem st0_ints : rf_P 0 start1.args0 st0 := ⟨rfl, { cls := 14, slots := #[], vm := .none }, rfl, rfl, ⟨fun k h => (by cases h), _, rfl, _, rfl⟩, by decide⟩
/-- THE CLAIM IS FALSE AS IT IS STATED -/
theorem whole_is_false : ¬ Claimed_1_1 := whole_refuted (l := launch0) rfl st0_start (st0_applies room_w (by decide +kernel) (launch0.hasRoom_least _ room_w (by decide +kernel) (by decide +kernel) (by decide +kernel) (by decide +kernel) (by decide +kernel) (by decide +kernel))) st0_ints
theorem whole_is_false2 (h : Claimed_1_1 ∧ Claimed_1_2) : False := whole_is_false h.1
set_option maxHeartbeats 4000000 in
set_option maxRecDepth 100000 in
/-- the same in the statement's own words for a claim that falls: a start, a run to its end, and the end isn't as the claim says -/
theorem whole_falls : RefutedClaimed_1_1 ∧ RefutedClaimed_1_2 := by
  have hA := st0_start
  obtain ⟨a1, a2, a3, -, a5, a6, a7, a8, a9, a10, a11, a12, a13⟩ := hA
  obtain ⟨n, o, w, r, e, -, f⟩ := rf_walk launch0 0 start1.p0 start1.e0 a3 a5 a6 st0 ⟨0, 0⟩ start1.args0 Lib.HandBits.below0 a7 ((Spec.applies_iff_loose a7).mp (st0_applies room_w (by decide +kernel) (launch0.hasRoom_least _ room_w (by decide +kernel) (by decide +kernel) (by decide +kernel) (by decide +kernel) (by decide +kernel) (by decide +kernel)))).1 st0_ints trivial
  refine ⟨⟨launch0, start1.p0, start1.e0, st0, ⟨0, 0⟩, start1.args0, Lib.HandBits.below0, rfl, st0_start, n, o, w, r, e, fun h => ?_⟩, ⟨launch0, start1.p0, start1.e0, st0, ⟨0, 0⟩, start1.args0, Lib.HandBits.below0, rfl, st0_start, n, o, w, r, e, fun h => ?_⟩⟩
  · have h3 : ((({ stepsAlone start1.p0.tables start1.e0 n st0 with vm := st0.vm } : State).heap.toList.drop st0.heap.size).map (·.slots.size)).sum ≤ 95323 := h.2.2.2.2.2.2.2.1
    exact absurd h3 (Nat.not_le.mpr f)
  · have h3 : ((({ stepsAlone start1.p0.tables start1.e0 n st0 with vm := st0.vm } : State).heap.toList.drop st0.heap.size).map (·.slots.size)).sum ≤ 95323 := h.2.2.2.2.2.2.2.1
    exact absurd h3 (Nat.not_le.mpr f)
end

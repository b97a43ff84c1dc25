section
-- ===== PART A: goes FIRST, ahead of the names: the tables' words, and 'selects' of the private methods out of them =====
/-- a private method of a class that the tables say can be made, by its rows of tables_1 -/
def lw_okq (q : MethodName × Nat) : Prop := (q.1.cls ≠ "java/lang/invoke/MethodHandle" ∧ q.1.cls ≠ "java/lang/invoke/VarHandle") ∧ Cond.instantiable q.1.cls q.2 ∈ tables_1 ∧ Cond.privateMethod q.1 ∈ tables_1 ∧ Cond.instanceMethod q.1 ∈ tables_1
theorem lw_p0 : lw_okq (⟨"SensorNode$Node", "generation", "()I"⟩, 15) := ⟨⟨by decide +kernel, by decide +kernel⟩, List.mem_of_getElem? (i := 90) (by decide +kernel), List.mem_of_getElem? (i := 346) (by decide +kernel), List.mem_of_getElem? (i := 347) (by decide +kernel)⟩
theorem lw_p1 : lw_okq (⟨"SensorNode$Node", "bufferStart", "(I)I"⟩, 15) := ⟨⟨by decide +kernel, by decide +kernel⟩, List.mem_of_getElem? (i := 90) (by decide +kernel), List.mem_of_getElem? (i := 351) (by decide +kernel), List.mem_of_getElem? (i := 352) (by decide +kernel)⟩
theorem lw_p2 : lw_okq (⟨"SensorNode$Node", "meetLog", "()V"⟩, 15) := ⟨⟨by decide +kernel, by decide +kernel⟩, List.mem_of_getElem? (i := 90) (by decide +kernel), List.mem_of_getElem? (i := 363) (by decide +kernel), List.mem_of_getElem? (i := 364) (by decide +kernel)⟩
theorem lw_p3 : lw_okq (⟨"SensorNode$Node", "entriesThatCount", "()I"⟩, 15) := ⟨⟨by decide +kernel, by decide +kernel⟩, List.mem_of_getElem? (i := 90) (by decide +kernel), List.mem_of_getElem? (i := 367) (by decide +kernel), List.mem_of_getElem? (i := 368) (by decide +kernel)⟩
theorem lw_p4 : lw_okq (⟨"SensorNode$Node", "hasPower", "()Z"⟩, 15) := ⟨⟨by decide +kernel, by decide +kernel⟩, List.mem_of_getElem? (i := 90) (by decide +kernel), List.mem_of_getElem? (i := 379) (by decide +kernel), List.mem_of_getElem? (i := 380) (by decide +kernel)⟩
theorem lw_p5 : lw_okq (⟨"SensorNode$Node", "choose", "()V"⟩, 15) := ⟨⟨by decide +kernel, by decide +kernel⟩, List.mem_of_getElem? (i := 90) (by decide +kernel), List.mem_of_getElem? (i := 391) (by decide +kernel), List.mem_of_getElem? (i := 392) (by decide +kernel)⟩
theorem lw_p6 : lw_okq (⟨"SensorNode$Guest", "trapOfPlace", "(II)I"⟩, 10) := ⟨⟨by decide +kernel, by decide +kernel⟩, List.mem_of_getElem? (i := 123) (by decide +kernel), List.mem_of_getElem? (i := 399) (by decide +kernel), List.mem_of_getElem? (i := 400) (by decide +kernel)⟩
theorem lw_p7 : lw_okq (⟨"SensorNode$Guest", "wordAt", "(I)I"⟩, 10) := ⟨⟨by decide +kernel, by decide +kernel⟩, List.mem_of_getElem? (i := 123) (by decide +kernel), List.mem_of_getElem? (i := 408) (by decide +kernel), List.mem_of_getElem? (i := 409) (by decide +kernel)⟩
theorem lw_p8 : lw_okq (⟨"SensorNode$Guest", "give", "(I)I"⟩, 10) := ⟨⟨by decide +kernel, by decide +kernel⟩, List.mem_of_getElem? (i := 123) (by decide +kernel), List.mem_of_getElem? (i := 416) (by decide +kernel), List.mem_of_getElem? (i := 417) (by decide +kernel)⟩
theorem lw_p9 : lw_okq (⟨"SensorNode$Guest", "jump", "(II)I"⟩, 10) := ⟨⟨by decide +kernel, by decide +kernel⟩, List.mem_of_getElem? (i := 123) (by decide +kernel), List.mem_of_getElem? (i := 424) (by decide +kernel), List.mem_of_getElem? (i := 425) (by decide +kernel)⟩
theorem lw_p10 : lw_okq (⟨"SensorNode$Guest", "branch", "(IIII)I"⟩, 10) := ⟨⟨by decide +kernel, by decide +kernel⟩, List.mem_of_getElem? (i := 123) (by decide +kernel), List.mem_of_getElem? (i := 431) (by decide +kernel), List.mem_of_getElem? (i := 432) (by decide +kernel)⟩
theorem lw_p11 : lw_okq (⟨"SensorNode$Guest", "load", "(II)I"⟩, 10) := ⟨⟨by decide +kernel, by decide +kernel⟩, List.mem_of_getElem? (i := 123) (by decide +kernel), List.mem_of_getElem? (i := 439) (by decide +kernel), List.mem_of_getElem? (i := 440) (by decide +kernel)⟩
theorem lw_p12 : lw_okq (⟨"SensorNode$Guest", "storeAt", "(III)I"⟩, 10) := ⟨⟨by decide +kernel, by decide +kernel⟩, List.mem_of_getElem? (i := 123) (by decide +kernel), List.mem_of_getElem? (i := 444) (by decide +kernel), List.mem_of_getElem? (i := 445) (by decide +kernel)⟩
theorem lw_p13 : lw_okq (⟨"SensorNode$Guest", "withNumber", "(IIII)I"⟩, 10) := ⟨⟨by decide +kernel, by decide +kernel⟩, List.mem_of_getElem? (i := 123) (by decide +kernel), List.mem_of_getElem? (i := 448) (by decide +kernel), List.mem_of_getElem? (i := 449) (by decide +kernel)⟩
theorem lw_p14 : lw_okq (⟨"SensorNode$Guest", "withRegister", "(IIII)I"⟩, 10) := ⟨⟨by decide +kernel, by decide +kernel⟩, List.mem_of_getElem? (i := 123) (by decide +kernel), List.mem_of_getElem? (i := 455) (by decide +kernel), List.mem_of_getElem? (i := 456) (by decide +kernel)⟩
theorem lw_p15 : lw_okq (⟨"SensorNode$Guest", "call", "()I"⟩, 10) := ⟨⟨by decide +kernel, by decide +kernel⟩, List.mem_of_getElem? (i := 123) (by decide +kernel), List.mem_of_getElem? (i := 459) (by decide +kernel), List.mem_of_getElem? (i := 460) (by decide +kernel)⟩
def lw_privs_1 : List (MethodName × Nat) := [(⟨"SensorNode$Node", "generation", "()I"⟩, 15), (⟨"SensorNode$Node", "bufferStart", "(I)I"⟩, 15), (⟨"SensorNode$Node", "meetLog", "()V"⟩, 15), (⟨"SensorNode$Node", "entriesThatCount", "()I"⟩, 15), (⟨"SensorNode$Node", "hasPower", "()Z"⟩, 15), (⟨"SensorNode$Node", "choose", "()V"⟩, 15), (⟨"SensorNode$Guest", "trapOfPlace", "(II)I"⟩, 10), (⟨"SensorNode$Guest", "wordAt", "(I)I"⟩, 10), (⟨"SensorNode$Guest", "give", "(I)I"⟩, 10), (⟨"SensorNode$Guest", "jump", "(II)I"⟩, 10), (⟨"SensorNode$Guest", "branch", "(IIII)I"⟩, 10), (⟨"SensorNode$Guest", "load", "(II)I"⟩, 10), (⟨"SensorNode$Guest", "storeAt", "(III)I"⟩, 10), (⟨"SensorNode$Guest", "withNumber", "(IIII)I"⟩, 10), (⟨"SensorNode$Guest", "withRegister", "(IIII)I"⟩, 10), (⟨"SensorNode$Guest", "call", "()I"⟩, 10)]
theorem lw_r1 : ∀ q ∈ lw_privs_1, lw_okq q := List.forall_mem_cons.mpr ⟨lw_p0, List.forall_mem_cons.mpr ⟨lw_p1, List.forall_mem_cons.mpr ⟨lw_p2, List.forall_mem_cons.mpr ⟨lw_p3, List.forall_mem_cons.mpr ⟨lw_p4, List.forall_mem_cons.mpr ⟨lw_p5, List.forall_mem_cons.mpr ⟨lw_p6, List.forall_mem_cons.mpr ⟨lw_p7, List.forall_mem_cons.mpr ⟨lw_p8, List.forall_mem_cons.mpr ⟨lw_p9, List.forall_mem_cons.mpr ⟨lw_p10, List.forall_mem_cons.mpr ⟨lw_p11, List.forall_mem_cons.mpr ⟨lw_p12, List.forall_mem_cons.mpr ⟨lw_p13, List.forall_mem_cons.mpr ⟨lw_p14, List.forall_mem_cons.mpr ⟨lw_p15, fun _ h => absurd h List.not_mem_nil⟩⟩⟩⟩⟩⟩⟩⟩⟩⟩⟩⟩⟩⟩⟩⟩
theorem lw_p16 : lw_okq (⟨"SensorNode$Guest", "callToSend", "()I"⟩, 10) := ⟨⟨by decide +kernel, by decide +kernel⟩, List.mem_of_getElem? (i := 123) (by decide +kernel), List.mem_of_getElem? (i := 467) (by decide +kernel), List.mem_of_getElem? (i := 468) (by decide +kernel)⟩
theorem lw_p17 : lw_okq (⟨"SensorNode$Node", "needsCheckpoint", "()Z"⟩, 15) := ⟨⟨by decide +kernel, by decide +kernel⟩, List.mem_of_getElem? (i := 90) (by decide +kernel), List.mem_of_getElem? (i := 471) (by decide +kernel), List.mem_of_getElem? (i := 472) (by decide +kernel)⟩
theorem lw_p18 : lw_okq (⟨"SensorNode$Node", "needsEntry", "()Z"⟩, 15) := ⟨⟨by decide +kernel, by decide +kernel⟩, List.mem_of_getElem? (i := 90) (by decide +kernel), List.mem_of_getElem? (i := 479) (by decide +kernel), List.mem_of_getElem? (i := 480) (by decide +kernel)⟩
theorem lw_p19 : lw_okq (⟨"SensorNode$Node", "boot", "()V"⟩, 15) := ⟨⟨by decide +kernel, by decide +kernel⟩, List.mem_of_getElem? (i := 90) (by decide +kernel), List.mem_of_getElem? (i := 487) (by decide +kernel), List.mem_of_getElem? (i := 488) (by decide +kernel)⟩
theorem lw_p20 : lw_okq (⟨"SensorNode$Node", "write", "(II)V"⟩, 15) := ⟨⟨by decide +kernel, by decide +kernel⟩, List.mem_of_getElem? (i := 90) (by decide +kernel), List.mem_of_getElem? (i := 491) (by decide +kernel), List.mem_of_getElem? (i := 492) (by decide +kernel)⟩
theorem lw_p21 : lw_okq (⟨"SensorNode$Node", "checkpoint", "()V"⟩, 15) := ⟨⟨by decide +kernel, by decide +kernel⟩, List.mem_of_getElem? (i := 90) (by decide +kernel), List.mem_of_getElem? (i := 495) (by decide +kernel), List.mem_of_getElem? (i := 496) (by decide +kernel)⟩
theorem lw_p22 : lw_okq (⟨"SensorNode$Node", "instruct", "()V"⟩, 15) := ⟨⟨by decide +kernel, by decide +kernel⟩, List.mem_of_getElem? (i := 90) (by decide +kernel), List.mem_of_getElem? (i := 507) (by decide +kernel), List.mem_of_getElem? (i := 508) (by decide +kernel)⟩
theorem lw_p23 : lw_okq (⟨"SensorNode$Node", "log", "(I)V"⟩, 15) := ⟨⟨by decide +kernel, by decide +kernel⟩, List.mem_of_getElem? (i := 90) (by decide +kernel), List.mem_of_getElem? (i := 529) (by decide +kernel), List.mem_of_getElem? (i := 530) (by decide +kernel)⟩
theorem lw_p24 : lw_okq (⟨"SensorNode$Node", "finish", "()V"⟩, 15) := ⟨⟨by decide +kernel, by decide +kernel⟩, List.mem_of_getElem? (i := 90) (by decide +kernel), List.mem_of_getElem? (i := 533) (by decide +kernel), List.mem_of_getElem? (i := 534) (by decide +kernel)⟩
theorem lw_p25 : lw_okq (⟨"SensorNode$Guest", "putWord", "(II)V"⟩, 10) := ⟨⟨by decide +kernel, by decide +kernel⟩, List.mem_of_getElem? (i := 123) (by decide +kernel), List.mem_of_getElem? (i := 545) (by decide +kernel), List.mem_of_getElem? (i := 546) (by decide +kernel)⟩
theorem lw_p26 : lw_okq (⟨"SensorNode$Radio", "keeps", "(I)Z"⟩, 6) := ⟨⟨by decide +kernel, by decide +kernel⟩, List.mem_of_getElem? (i := 96) (by decide +kernel), List.mem_of_getElem? (i := 608) (by decide +kernel), List.mem_of_getElem? (i := 609) (by decide +kernel)⟩
theorem lw_p27 : lw_okq (⟨"SensorNode$PlainMachine", "begin", "()V"⟩, 6) := ⟨⟨by decide +kernel, by decide +kernel⟩, List.mem_of_getElem? (i := 206) (by decide +kernel), List.mem_of_getElem? (i := 646) (by decide +kernel), List.mem_of_getElem? (i := 647) (by decide +kernel)⟩
theorem lw_p28 : lw_okq (⟨"SensorNodeModel", "four", "(I)V"⟩, 36) := ⟨⟨by decide +kernel, by decide +kernel⟩, List.mem_of_getElem? (i := 697) (by decide +kernel), List.mem_of_getElem? (i := 931) (by decide +kernel), List.mem_of_getElem? (i := 932) (by decide +kernel)⟩
theorem lw_p29 : lw_okq (⟨"SensorNodeModel", "generation", "()I"⟩, 36) := ⟨⟨by decide +kernel, by decide +kernel⟩, List.mem_of_getElem? (i := 697) (by decide +kernel), List.mem_of_getElem? (i := 951) (by decide +kernel), List.mem_of_getElem? (i := 952) (by decide +kernel)⟩
theorem lw_p30 : lw_okq (⟨"SensorNodeModel", "bufferAt", "(I)I"⟩, 36) := ⟨⟨by decide +kernel, by decide +kernel⟩, List.mem_of_getElem? (i := 697) (by decide +kernel), List.mem_of_getElem? (i := 955) (by decide +kernel), List.mem_of_getElem? (i := 956) (by decide +kernel)⟩
theorem lw_p31 : lw_okq (⟨"SensorNodeModel", "forgetEntries", "()V"⟩, 36) := ⟨⟨by decide +kernel, by decide +kernel⟩, List.mem_of_getElem? (i := 697) (by decide +kernel), List.mem_of_getElem? (i := 959) (by decide +kernel), List.mem_of_getElem? (i := 960) (by decide +kernel)⟩
def lw_privs_2 : List (MethodName × Nat) := [(⟨"SensorNode$Guest", "callToSend", "()I"⟩, 10), (⟨"SensorNode$Node", "needsCheckpoint", "()Z"⟩, 15), (⟨"SensorNode$Node", "needsEntry", "()Z"⟩, 15), (⟨"SensorNode$Node", "boot", "()V"⟩, 15), (⟨"SensorNode$Node", "write", "(II)V"⟩, 15), (⟨"SensorNode$Node", "checkpoint", "()V"⟩, 15), (⟨"SensorNode$Node", "instruct", "()V"⟩, 15), (⟨"SensorNode$Node", "log", "(I)V"⟩, 15), (⟨"SensorNode$Node", "finish", "()V"⟩, 15), (⟨"SensorNode$Guest", "putWord", "(II)V"⟩, 10), (⟨"SensorNode$Radio", "keeps", "(I)Z"⟩, 6), (⟨"SensorNode$PlainMachine", "begin", "()V"⟩, 6), (⟨"SensorNodeModel", "four", "(I)V"⟩, 36), (⟨"SensorNodeModel", "generation", "()I"⟩, 36), (⟨"SensorNodeModel", "bufferAt", "(I)I"⟩, 36), (⟨"SensorNodeModel", "forgetEntries", "()V"⟩, 36)]
theorem lw_r2 : ∀ q ∈ lw_privs_2, lw_okq q := List.forall_mem_cons.mpr ⟨lw_p16, List.forall_mem_cons.mpr ⟨lw_p17, List.forall_mem_cons.mpr ⟨lw_p18, List.forall_mem_cons.mpr ⟨lw_p19, List.forall_mem_cons.mpr ⟨lw_p20, List.forall_mem_cons.mpr ⟨lw_p21, List.forall_mem_cons.mpr ⟨lw_p22, List.forall_mem_cons.mpr ⟨lw_p23, List.forall_mem_cons.mpr ⟨lw_p24, List.forall_mem_cons.mpr ⟨lw_p25, List.forall_mem_cons.mpr ⟨lw_p26, List.forall_mem_cons.mpr ⟨lw_p27, List.forall_mem_cons.mpr ⟨lw_p28, List.forall_mem_cons.mpr ⟨lw_p29, List.forall_mem_cons.mpr ⟨lw_p30, List.forall_mem_cons.mpr ⟨lw_p31, fun _ h => absurd h List.not_mem_nil⟩⟩⟩⟩⟩⟩⟩⟩⟩⟩⟩⟩⟩⟩⟩⟩
theorem lw_p32 : lw_okq (⟨"SensorNodeModel", "counting", "()I"⟩, 36) := ⟨⟨by decide +kernel, by decide +kernel⟩, List.mem_of_getElem? (i := 697) (by decide +kernel), List.mem_of_getElem? (i := 964) (by decide +kernel), List.mem_of_getElem? (i := 965) (by decide +kernel)⟩
theorem lw_p33 : lw_okq (⟨"SensorNodeModel", "act", "()V"⟩, 36) := ⟨⟨by decide +kernel, by decide +kernel⟩, List.mem_of_getElem? (i := 697) (by decide +kernel), List.mem_of_getElem? (i := 976) (by decide +kernel), List.mem_of_getElem? (i := 977) (by decide +kernel)⟩
theorem lw_p34 : lw_okq (⟨"SensorNodeModel", "boot", "()V"⟩, 36) := ⟨⟨by decide +kernel, by decide +kernel⟩, List.mem_of_getElem? (i := 697) (by decide +kernel), List.mem_of_getElem? (i := 980) (by decide +kernel), List.mem_of_getElem? (i := 981) (by decide +kernel)⟩
theorem lw_p35 : lw_okq (⟨"SensorNodeModel", "write", "(II)V"⟩, 36) := ⟨⟨by decide +kernel, by decide +kernel⟩, List.mem_of_getElem? (i := 697) (by decide +kernel), List.mem_of_getElem? (i := 984) (by decide +kernel), List.mem_of_getElem? (i := 985) (by decide +kernel)⟩
theorem lw_p36 : lw_okq (⟨"SensorNodeModel", "check", "()V"⟩, 36) := ⟨⟨by decide +kernel, by decide +kernel⟩, List.mem_of_getElem? (i := 697) (by decide +kernel), List.mem_of_getElem? (i := 988) (by decide +kernel), List.mem_of_getElem? (i := 989) (by decide +kernel)⟩
theorem lw_p37 : lw_okq (⟨"SensorNodeModel", "checkWord", "(I)I"⟩, 36) := ⟨⟨by decide +kernel, by decide +kernel⟩, List.mem_of_getElem? (i := 697) (by decide +kernel), List.mem_of_getElem? (i := 992) (by decide +kernel), List.mem_of_getElem? (i := 993) (by decide +kernel)⟩
theorem lw_p38 : lw_okq (⟨"SensorNodeModel", "log", "()V"⟩, 36) := ⟨⟨by decide +kernel, by decide +kernel⟩, List.mem_of_getElem? (i := 697) (by decide +kernel), List.mem_of_getElem? (i := 996) (by decide +kernel), List.mem_of_getElem? (i := 997) (by decide +kernel)⟩
theorem lw_p39 : lw_okq (⟨"SensorNodeModel", "perform", "()V"⟩, 36) := ⟨⟨by decide +kernel, by decide +kernel⟩, List.mem_of_getElem? (i := 697) (by decide +kernel), List.mem_of_getElem? (i := 1000) (by decide +kernel), List.mem_of_getElem? (i := 1001) (by decide +kernel)⟩
theorem lw_p40 : lw_okq (⟨"SensorNodeModel$Guest", "isRam", "(I)Z"⟩, 20) := ⟨⟨by decide +kernel, by decide +kernel⟩, List.mem_of_getElem? (i := 703) (by decide +kernel), List.mem_of_getElem? (i := 1012) (by decide +kernel), List.mem_of_getElem? (i := 1013) (by decide +kernel)⟩
theorem lw_p41 : lw_okq (⟨"SensorNodeModel", "send", "()V"⟩, 36) := ⟨⟨by decide +kernel, by decide +kernel⟩, List.mem_of_getElem? (i := 697) (by decide +kernel), List.mem_of_getElem? (i := 1021) (by decide +kernel), List.mem_of_getElem? (i := 1022) (by decide +kernel)⟩
theorem lw_p42 : lw_okq (⟨"SensorNodeModel", "decide", "()V"⟩, 36) := ⟨⟨by decide +kernel, by decide +kernel⟩, List.mem_of_getElem? (i := 697) (by decide +kernel), List.mem_of_getElem? (i := 1033) (by decide +kernel), List.mem_of_getElem? (i := 1034) (by decide +kernel)⟩
theorem lw_p43 : lw_okq (⟨"SensorNodeModel$Guest", "decode", "(I)V"⟩, 20) := ⟨⟨by decide +kernel, by decide +kernel⟩, List.mem_of_getElem? (i := 703) (by decide +kernel), List.mem_of_getElem? (i := 1046) (by decide +kernel), List.mem_of_getElem? (i := 1047) (by decide +kernel)⟩
theorem lw_p44 : lw_okq (⟨"SensorNodeModel$Guest", "gives", "(I)V"⟩, 20) := ⟨⟨by decide +kernel, by decide +kernel⟩, List.mem_of_getElem? (i := 703) (by decide +kernel), List.mem_of_getElem? (i := 1050) (by decide +kernel), List.mem_of_getElem? (i := 1051) (by decide +kernel)⟩
theorem lw_p45 : lw_okq (⟨"SensorNodeModel$Guest", "goes", "(I)V"⟩, 20) := ⟨⟨by decide +kernel, by decide +kernel⟩, List.mem_of_getElem? (i := 703) (by decide +kernel), List.mem_of_getElem? (i := 1055) (by decide +kernel), List.mem_of_getElem? (i := 1056) (by decide +kernel)⟩
theorem lw_p46 : lw_okq (⟨"SensorNodeModel$Guest", "branch", "(IIII)V"⟩, 20) := ⟨⟨by decide +kernel, by decide +kernel⟩, List.mem_of_getElem? (i := 703) (by decide +kernel), List.mem_of_getElem? (i := 1059) (by decide +kernel), List.mem_of_getElem? (i := 1060) (by decide +kernel)⟩
theorem lw_p47 : lw_okq (⟨"SensorNodeModel$Guest", "loads", "(II)V"⟩, 20) := ⟨⟨by decide +kernel, by decide +kernel⟩, List.mem_of_getElem? (i := 703) (by decide +kernel), List.mem_of_getElem? (i := 1066) (by decide +kernel), List.mem_of_getElem? (i := 1067) (by decide +kernel)⟩
def lw_privs_3 : List (MethodName × Nat) := [(⟨"SensorNodeModel", "counting", "()I"⟩, 36), (⟨"SensorNodeModel", "act", "()V"⟩, 36), (⟨"SensorNodeModel", "boot", "()V"⟩, 36), (⟨"SensorNodeModel", "write", "(II)V"⟩, 36), (⟨"SensorNodeModel", "check", "()V"⟩, 36), (⟨"SensorNodeModel", "checkWord", "(I)I"⟩, 36), (⟨"SensorNodeModel", "log", "()V"⟩, 36), (⟨"SensorNodeModel", "perform", "()V"⟩, 36), (⟨"SensorNodeModel$Guest", "isRam", "(I)Z"⟩, 20), (⟨"SensorNodeModel", "send", "()V"⟩, 36), (⟨"SensorNodeModel", "decide", "()V"⟩, 36), (⟨"SensorNodeModel$Guest", "decode", "(I)V"⟩, 20), (⟨"SensorNodeModel$Guest", "gives", "(I)V"⟩, 20), (⟨"SensorNodeModel$Guest", "goes", "(I)V"⟩, 20), (⟨"SensorNodeModel$Guest", "branch", "(IIII)V"⟩, 20), (⟨"SensorNodeModel$Guest", "loads", "(II)V"⟩, 20)]
theorem lw_r3 : ∀ q ∈ lw_privs_3, lw_okq q := List.forall_mem_cons.mpr ⟨lw_p32, List.forall_mem_cons.mpr ⟨lw_p33, List.forall_mem_cons.mpr ⟨lw_p34, List.forall_mem_cons.mpr ⟨lw_p35, List.forall_mem_cons.mpr ⟨lw_p36, List.forall_mem_cons.mpr ⟨lw_p37, List.forall_mem_cons.mpr ⟨lw_p38, List.forall_mem_cons.mpr ⟨lw_p39, List.forall_mem_cons.mpr ⟨lw_p40, List.forall_mem_cons.mpr ⟨lw_p41, List.forall_mem_cons.mpr ⟨lw_p42, List.forall_mem_cons.mpr ⟨lw_p43, List.forall_mem_cons.mpr ⟨lw_p44, List.forall_mem_cons.mpr ⟨lw_p45, List.forall_mem_cons.mpr ⟨lw_p46, List.forall_mem_cons.mpr ⟨lw_p47, fun _ h => absurd h List.not_mem_nil⟩⟩⟩⟩⟩⟩⟩⟩⟩⟩⟩⟩⟩⟩⟩⟩
theorem lw_p48 : lw_okq (⟨"SensorNodeModel$Guest", "reaches", "(II)Z"⟩, 20) := ⟨⟨by decide +kernel, by decide +kernel⟩, List.mem_of_getElem? (i := 703) (by decide +kernel), List.mem_of_getElem? (i := 1070) (by decide +kernel), List.mem_of_getElem? (i := 1071) (by decide +kernel)⟩
theorem lw_p49 : lw_okq (⟨"SensorNodeModel$Guest", "stores", "(III)V"⟩, 20) := ⟨⟨by decide +kernel, by decide +kernel⟩, List.mem_of_getElem? (i := 703) (by decide +kernel), List.mem_of_getElem? (i := 1075) (by decide +kernel), List.mem_of_getElem? (i := 1076) (by decide +kernel)⟩
theorem lw_p50 : lw_okq (⟨"SensorNodeModel$Guest", "calls", "()V"⟩, 20) := ⟨⟨by decide +kernel, by decide +kernel⟩, List.mem_of_getElem? (i := 703) (by decide +kernel), List.mem_of_getElem? (i := 1085) (by decide +kernel), List.mem_of_getElem? (i := 1086) (by decide +kernel)⟩
def lw_privs_4 : List (MethodName × Nat) := [(⟨"SensorNodeModel$Guest", "reaches", "(II)Z"⟩, 20), (⟨"SensorNodeModel$Guest", "stores", "(III)V"⟩, 20), (⟨"SensorNodeModel$Guest", "calls", "()V"⟩, 20)]
theorem lw_r4 : ∀ q ∈ lw_privs_4, lw_okq q := List.forall_mem_cons.mpr ⟨lw_p48, List.forall_mem_cons.mpr ⟨lw_p49, List.forall_mem_cons.mpr ⟨lw_p50, fun _ h => absurd h List.not_mem_nil⟩⟩⟩
def lw_privs : List (MethodName × Nat) := lw_privs_1 ++ (lw_privs_2 ++ (lw_privs_3 ++ (lw_privs_4)))
def lw_tbl : List Cond := k2_sels lw_privs ++ tables_1
theorem lw_privs_ok : ∀ q ∈ lw_privs, lw_okq q := by
  show ∀ q ∈ lw_privs_1 ++ (lw_privs_2 ++ (lw_privs_3 ++ (lw_privs_4))), lw_okq q
  exact List.forall_mem_append.mpr ⟨lw_r1, List.forall_mem_append.mpr ⟨lw_r2, List.forall_mem_append.mpr ⟨lw_r3, lw_r4⟩⟩⟩
end
section
-- names: classes, fields, methods (by the program that the claim brings), words of the tables by their places
def RX0 : String := "SensorNode$Bytes"
def TX0 : u_T := fun k => match k with
  | _ => ("SensorNode$Bytes", "packed", "[I", true)
def tyX0 : Nat → FieldType := fun k => match k with
  | _ => .array .int
abbrev wsX00 : List Cond := u_ws RX0 TX0 1
theorem nmX0 : ∀ a, a < 1 → ∀ b, b < 1 → a ≠ b → (TX0 a).2.1 ≠ (TX0 b).2.1 := by decide +kernel
theorem tyX0_ok : ∀ k, k < 1 → parseFieldDescriptor (TX0 k).2.2.1 = some (tyX0 k) := by decide +kernel
abbrev cX0_init : ByteArray := prog_2_method_1_code
def yX0_init : MethodName := ⟨RX0, "<init>", "(I)V"⟩
abbrev cX0_get : ByteArray := prog_2_method_2_code
def yX0_get : MethodName := ⟨RX0, "get", "(I)I"⟩
abbrev cX0_put : ByteArray := prog_2_method_3_code
def yX0_put : MethodName := ⟨RX0, "put", "(II)V"⟩
def RX1 : String := "SensorNode$Guest"
def TX1 : u_T := fun k => match k with
  | 0 => ("SensorNode$Guest", "plan", "LSensorNode$Plan;", true)
  | 1 => ("SensorNode$Guest", "own", "[I", true)
  | 2 => ("SensorNode$Guest", "memory", "[I", true)
  | 3 => ("SensorNode$Guest", "store", "[I", true)
  | 4 => ("SensorNode$Guest", "storeStart", "I", false)
  | 5 => ("SensorNode$Guest", "kind", "I", false)
  | 6 => ("SensorNode$Guest", "target", "I", false)
  | 7 => ("SensorNode$Guest", "value", "I", false)
  | 8 => ("SensorNode$Guest", "next", "I", false)
  | _ => ("SensorNode$Guest", "address", "I", false)
def tyX1 : Nat → FieldType := fun k => match k with
  | 0 => .object "SensorNode$Plan"
  | 1 => .array .int
  | 2 => .array .int
  | 3 => .array .int
  | 4 => .int
  | 5 => .int
  | 6 => .int
  | 7 => .int
  | 8 => .int
  | _ => .int
abbrev wsX10 : List Cond := u_ws RX1 TX1 10
theorem nmX1 : ∀ a, a < 10 → ∀ b, b < 10 → a ≠ b → (TX1 a).2.1 ≠ (TX1 b).2.1 := by decide +kernel
theorem tyX1_ok : ∀ k, k < 10 → parseFieldDescriptor (TX1 k).2.2.1 = some (tyX1 k) := by decide +kernel
abbrev cX1_init : ByteArray := prog_3_method_1_code
def yX1_init : MethodName := ⟨RX1, "<init>", "(LSensorNode$Plan;[I)V"⟩
abbrev cX1_setStoreStart : ByteArray := prog_3_method_2_code
def yX1_setStoreStart : MethodName := ⟨RX1, "setStoreStart", "(I)V"⟩
abbrev cX1_owned : ByteArray := prog_3_method_3_code
def yX1_owned : MethodName := ⟨RX1, "owned", "(I)I"⟩
abbrev cX1_saved : ByteArray := prog_3_method_4_code
def yX1_saved : MethodName := ⟨RX1, "saved", "(I)I"⟩
abbrev cX1_restore : ByteArray := prog_3_method_5_code
def yX1_restore : MethodName := ⟨RX1, "restore", "(II)V"⟩
abbrev cX1_look : ByteArray := prog_3_method_6_code
def yX1_look : MethodName := ⟨RX1, "look", "()I"⟩
abbrev cX1_jumpOffset : ByteArray := prog_3_method_7_code
def yX1_jumpOffset : MethodName := ⟨RX1, "jumpOffset", "(I)I"⟩
abbrev cX1_branchOffset : ByteArray := prog_3_method_8_code
def yX1_branchOffset : MethodName := ⟨RX1, "branchOffset", "(I)I"⟩
abbrev cX1_below : ByteArray := prog_3_method_9_code
def yX1_below : MethodName := ⟨RX1, "below", "(II)Z"⟩
abbrev cX1_give : ByteArray := prog_3_method_10_code
def yX1_give : MethodName := ⟨RX1, "give", "(I)I"⟩
abbrev cX1_jump : ByteArray := prog_3_method_11_code
def yX1_jump : MethodName := ⟨RX1, "jump", "(II)I"⟩
abbrev cX1_branch : ByteArray := prog_3_method_12_code
def yX1_branch : MethodName := ⟨RX1, "branch", "(IIII)I"⟩
abbrev cX1_load : ByteArray := prog_3_method_13_code
def yX1_load : MethodName := ⟨RX1, "load", "(II)I"⟩
abbrev cX1_storeAt : ByteArray := prog_3_method_14_code
def yX1_storeAt : MethodName := ⟨RX1, "storeAt", "(III)I"⟩
abbrev cX1_trapOfPlace : ByteArray := prog_3_method_15_code
def yX1_trapOfPlace : MethodName := ⟨RX1, "trapOfPlace", "(II)I"⟩
abbrev cX1_withNumber : ByteArray := prog_3_method_16_code
def yX1_withNumber : MethodName := ⟨RX1, "withNumber", "(IIII)I"⟩
abbrev cX1_withRegister : ByteArray := prog_3_method_17_code
def yX1_withRegister : MethodName := ⟨RX1, "withRegister", "(IIII)I"⟩
abbrev cX1_reckon : ByteArray := prog_3_method_18_code
def yX1_reckon : MethodName := ⟨RX1, "reckon", "(III)I"⟩
abbrev cX1_call : ByteArray := prog_3_method_19_code
def yX1_call : MethodName := ⟨RX1, "call", "()I"⟩
abbrev cX1_callToSend : ByteArray := prog_3_method_20_code
def yX1_callToSend : MethodName := ⟨RX1, "callToSend", "()I"⟩
abbrev cX1_finish : ByteArray := prog_3_method_21_code
def yX1_finish : MethodName := ⟨RX1, "finish", "()V"⟩
abbrev cX1_kind : ByteArray := prog_3_method_22_code
def yX1_kind : MethodName := ⟨RX1, "kind", "()I"⟩
abbrev cX1_cellWritten : ByteArray := prog_3_method_23_code
def yX1_cellWritten : MethodName := ⟨RX1, "cellWritten", "()I"⟩
abbrev cX1_sendLength : ByteArray := prog_3_method_24_code
def yX1_sendLength : MethodName := ⟨RX1, "sendLength", "()I"⟩
abbrev cX1_sendPlace : ByteArray := prog_3_method_25_code
def yX1_sendPlace : MethodName := ⟨RX1, "sendPlace", "()I"⟩
abbrev cX1_inRam : ByteArray := prog_3_method_26_code
def yX1_inRam : MethodName := ⟨RX1, "inRam", "(I)Z"⟩
abbrev cX1_holds : ByteArray := prog_3_method_27_code
def yX1_holds : MethodName := ⟨RX1, "holds", "(II)Z"⟩
abbrev cX1_byteAt : ByteArray := prog_3_method_28_code
def yX1_byteAt : MethodName := ⟨RX1, "byteAt", "(I)I"⟩
abbrev cX1_wordAt : ByteArray := prog_3_method_29_code
def yX1_wordAt : MethodName := ⟨RX1, "wordAt", "(I)I"⟩
abbrev cX1_putWord : ByteArray := prog_3_method_30_code
def yX1_putWord : MethodName := ⟨RX1, "putWord", "(II)V"⟩
def RX2 : String := "SensorNode$Node"
def TX2 : u_T := fun k => match k with
  | 0 => ("SensorNode$Node", "plan", "LSensorNode$Plan;", true)
  | 1 => ("SensorNode$Node", "store", "[I", true)
  | 2 => ("SensorNode$Node", "marks", "[I", true)
  | 3 => ("SensorNode$Node", "counts", "[I", true)
  | 4 => ("SensorNode$Node", "radio", "LSensorNode$Radio;", true)
  | 5 => ("SensorNode$Node", "guest", "LSensorNode$Guest;", true)
  | 6 => ("SensorNode$Node", "mark", "I", false)
  | 7 => ("SensorNode$Node", "state", "I", false)
  | 8 => ("SensorNode$Node", "step", "I", false)
  | 9 => ("SensorNode$Node", "since", "I", false)
  | 10 => ("SensorNode$Node", "size", "I", false)
  | 11 => ("SensorNode$Node", "logStart", "I", false)
  | 12 => ("SensorNode$Node", "guestStart", "I", false)
  | 13 => ("SensorNode$Node", "strays", "I", false)
  | _ => ("SensorNode$Node", "hadPower", "Z", false)
def tyX2 : Nat → FieldType := fun k => match k with
  | 0 => .object "SensorNode$Plan"
  | 1 => .array .int
  | 2 => .array .int
  | 3 => .array .int
  | 4 => .object "SensorNode$Radio"
  | 5 => .object "SensorNode$Guest"
  | 6 => .int
  | 7 => .int
  | 8 => .int
  | 9 => .int
  | 10 => .int
  | 11 => .int
  | 12 => .int
  | 13 => .int
  | _ => .boolean
abbrev wsX20 : List Cond := u_ws RX2 TX2 15
theorem nmX2 : ∀ a, a < 15 → ∀ b, b < 15 → a ≠ b → (TX2 a).2.1 ≠ (TX2 b).2.1 := by decide +kernel
theorem tyX2_ok : ∀ k, k < 15 → parseFieldDescriptor (TX2 k).2.2.1 = some (tyX2 k) := by decide +kernel
abbrev cX2_init : ByteArray := prog_4_method_1_code
def yX2_init : MethodName := ⟨RX2, "<init>", "(LSensorNode$Plan;)V"⟩
abbrev cX2_makeNew : ByteArray := prog_4_method_2_code
def yX2_makeNew : MethodName := ⟨RX2, "makeNew", "()V"⟩
abbrev cX2_hadPower : ByteArray := prog_4_method_3_code
def yX2_hadPower : MethodName := ⟨RX2, "hadPower", "()Z"⟩
abbrev cX2_hasPower : ByteArray := prog_4_method_4_code
def yX2_hasPower : MethodName := ⟨RX2, "hasPower", "()Z"⟩
abbrev cX2_givePower : ByteArray := prog_4_method_5_code
def yX2_givePower : MethodName := ⟨RX2, "givePower", "()Z"⟩
abbrev cX2_meetLog : ByteArray := prog_4_method_6_code
def yX2_meetLog : MethodName := ⟨RX2, "meetLog", "()V"⟩
abbrev cX2_cutPower : ByteArray := prog_4_method_7_code
def yX2_cutPower : MethodName := ⟨RX2, "cutPower", "()Z"⟩
abbrev cX2_act : ByteArray := prog_4_method_8_code
def yX2_act : MethodName := ⟨RX2, "act", "(I)I"⟩
abbrev cX2_choose : ByteArray := prog_4_method_9_code
def yX2_choose : MethodName := ⟨RX2, "choose", "()V"⟩
abbrev cX2_needsCheckpoint : ByteArray := prog_4_method_10_code
def yX2_needsCheckpoint : MethodName := ⟨RX2, "needsCheckpoint", "()Z"⟩
abbrev cX2_needsEntry : ByteArray := prog_4_method_11_code
def yX2_needsEntry : MethodName := ⟨RX2, "needsEntry", "()Z"⟩
abbrev cX2_boot : ByteArray := prog_4_method_12_code
def yX2_boot : MethodName := ⟨RX2, "boot", "()V"⟩
abbrev cX2_checkpoint : ByteArray := prog_4_method_13_code
def yX2_checkpoint : MethodName := ⟨RX2, "checkpoint", "()V"⟩
abbrev cX2_instruct : ByteArray := prog_4_method_14_code
def yX2_instruct : MethodName := ⟨RX2, "instruct", "()V"⟩
abbrev cX2_log : ByteArray := prog_4_method_15_code
def yX2_log : MethodName := ⟨RX2, "log", "(I)V"⟩
abbrev cX2_finish : ByteArray := prog_4_method_16_code
def yX2_finish : MethodName := ⟨RX2, "finish", "()V"⟩
abbrev cX2_write : ByteArray := prog_4_method_17_code
def yX2_write : MethodName := ⟨RX2, "write", "(II)V"⟩
abbrev cX2_generation : ByteArray := prog_4_method_18_code
def yX2_generation : MethodName := ⟨RX2, "generation", "()I"⟩
abbrev cX2_entriesThatCount : ByteArray := prog_4_method_19_code
def yX2_entriesThatCount : MethodName := ⟨RX2, "entriesThatCount", "()I"⟩
abbrev cX2_bufferStart : ByteArray := prog_4_method_20_code
def yX2_bufferStart : MethodName := ⟨RX2, "bufferStart", "(I)I"⟩
abbrev cX2_condition : ByteArray := prog_4_method_21_code
def yX2_condition : MethodName := ⟨RX2, "condition", "()I"⟩
abbrev cX2_owned : ByteArray := prog_4_method_22_code
def yX2_owned : MethodName := ⟨RX2, "owned", "(I)I"⟩
abbrev cX2_ramByte : ByteArray := prog_4_method_23_code
def yX2_ramByte : MethodName := ⟨RX2, "ramByte", "(I)I"⟩
abbrev cX2_size : ByteArray := prog_4_method_24_code
def yX2_size : MethodName := ⟨RX2, "size", "()I"⟩
abbrev cX2_stored : ByteArray := prog_4_method_25_code
def yX2_stored : MethodName := ⟨RX2, "stored", "(I)I"⟩
abbrev cX2_radio : ByteArray := prog_4_method_26_code
def yX2_radio : MethodName := ⟨RX2, "radio", "()LSensorNode$Radio;"⟩
abbrev cX2_counted : ByteArray := prog_4_method_27_code
def yX2_counted : MethodName := ⟨RX2, "counted", "(I)I"⟩
abbrev cX2_strayed : ByteArray := prog_4_method_28_code
def yX2_strayed : MethodName := ⟨RX2, "strayed", "()I"⟩
def RX3 : String := "SensorNode$PlainMachine"
def TX3 : u_T := fun k => match k with
  | 0 => ("SensorNode$PlainMachine", "plan", "LSensorNode$Plan;", true)
  | 1 => ("SensorNode$PlainMachine", "store", "[I", true)
  | 2 => ("SensorNode$PlainMachine", "guest", "LSensorNode$Guest;", true)
  | 3 => ("SensorNode$PlainMachine", "radio", "LSensorNode$Radio;", true)
  | 4 => ("SensorNode$PlainMachine", "ran", "Z", false)
  | _ => ("SensorNode$PlainMachine", "ending", "I", false)
def tyX3 : Nat → FieldType := fun k => match k with
  | 0 => .object "SensorNode$Plan"
  | 1 => .array .int
  | 2 => .object "SensorNode$Guest"
  | 3 => .object "SensorNode$Radio"
  | 4 => .boolean
  | _ => .int
abbrev wsX30 : List Cond := u_ws RX3 TX3 6
theorem nmX3 : ∀ a, a < 6 → ∀ b, b < 6 → a ≠ b → (TX3 a).2.1 ≠ (TX3 b).2.1 := by decide +kernel
theorem tyX3_ok : ∀ k, k < 6 → parseFieldDescriptor (TX3 k).2.2.1 = some (tyX3 k) := by decide +kernel
abbrev cX3_init : ByteArray := prog_5_method_1_code
def yX3_init : MethodName := ⟨RX3, "<init>", "(LSensorNode$Plan;)V"⟩
abbrev cX3_forget : ByteArray := prog_5_method_2_code
def yX3_forget : MethodName := ⟨RX3, "forget", "()V"⟩
abbrev cX3_run : ByteArray := prog_5_method_3_code
def yX3_run : MethodName := ⟨RX3, "run", "(I)I"⟩
abbrev cX3_begin : ByteArray := prog_5_method_4_code
def yX3_begin : MethodName := ⟨RX3, "begin", "()V"⟩
abbrev cX3_owned : ByteArray := prog_5_method_5_code
def yX3_owned : MethodName := ⟨RX3, "owned", "(I)I"⟩
abbrev cX3_memoryByte : ByteArray := prog_5_method_6_code
def yX3_memoryByte : MethodName := ⟨RX3, "memoryByte", "(I)I"⟩
abbrev cX3_radio : ByteArray := prog_5_method_7_code
def yX3_radio : MethodName := ⟨RX3, "radio", "()LSensorNode$Radio;"⟩
def RX4 : String := "SensorNode$Plan"
def TX4 : u_T := fun k => match k with
  | 0 => ("SensorNode$Plan", "image", "[I", true)
  | 1 => ("SensorNode$Plan", "samples", "[I", true)
  | 2 => ("SensorNode$Plan", "samplesTold", "I", false)
  | 3 => ("SensorNode$Plan", "installed", "Z", false)
  | 4 => ("SensorNode$Plan", "ramBytes", "I", false)
  | 5 => ("SensorNode$Plan", "storeBytes", "I", false)
  | 6 => ("SensorNode$Plan", "entries", "I", false)
  | 7 => ("SensorNode$Plan", "interval", "I", false)
  | _ => ("SensorNode$Plan", "start", "I", false)
def tyX4 : Nat → FieldType := fun k => match k with
  | 0 => .array .int
  | 1 => .array .int
  | 2 => .int
  | 3 => .boolean
  | 4 => .int
  | 5 => .int
  | 6 => .int
  | 7 => .int
  | _ => .int
abbrev wsX40 : List Cond := u_ws RX4 TX4 9
theorem nmX4 : ∀ a, a < 9 → ∀ b, b < 9 → a ≠ b → (TX4 a).2.1 ≠ (TX4 b).2.1 := by decide +kernel
theorem tyX4_ok : ∀ k, k < 9 → parseFieldDescriptor (TX4 k).2.2.1 = some (tyX4 k) := by decide +kernel
abbrev cX4_init : ByteArray := prog_6_method_1_code
def yX4_init : MethodName := ⟨RX4, "<init>", "()V"⟩
abbrev cX4_allows : ByteArray := prog_6_method_2_code
def yX4_allows : MethodName := ⟨RX4, "allows", "(IIII)Z"⟩
abbrev cX4_set : ByteArray := prog_6_method_3_code
def yX4_set : MethodName := ⟨RX4, "set", "(IIIII)V"⟩
abbrev cX4_fill : ByteArray := prog_6_method_4_code
def yX4_fill : MethodName := ⟨RX4, "fill", "(LSensorNode$Tray;I)V"⟩
abbrev cX4_copyImage : ByteArray := prog_6_method_5_code
def yX4_copyImage : MethodName := ⟨RX4, "copyImage", "([II)V"⟩
abbrev cX4_addSample : ByteArray := prog_6_method_6_code
def yX4_addSample : MethodName := ⟨RX4, "addSample", "(I)I"⟩
abbrev cX4_sampleAt : ByteArray := prog_6_method_7_code
def yX4_sampleAt : MethodName := ⟨RX4, "sampleAt", "(I)I"⟩
abbrev cX4_bufferWords : ByteArray := prog_6_method_8_code
def yX4_bufferWords : MethodName := ⟨RX4, "bufferWords", "()I"⟩
def RX5 : String := "SensorNode$Radio"
def TX5 : u_T := fun k => match k with
  | 0 => ("SensorNode$Radio", "numbers", "[I", true)
  | 1 => ("SensorNode$Radio", "lengths", "[I", true)
  | 2 => ("SensorNode$Radio", "cuts", "[I", true)
  | 3 => ("SensorNode$Radio", "bytes", "LSensorNode$Bytes;", true)
  | 4 => ("SensorNode$Radio", "total", "I", false)
  | _ => ("SensorNode$Radio", "newest", "I", false)
def tyX5 : Nat → FieldType := fun k => match k with
  | 0 => .array .int
  | 1 => .array .int
  | 2 => .array .int
  | 3 => .object "SensorNode$Bytes"
  | 4 => .int
  | _ => .int
abbrev wsX50 : List Cond := u_ws RX5 TX5 6
theorem nmX5 : ∀ a, a < 6 → ∀ b, b < 6 → a ≠ b → (TX5 a).2.1 ≠ (TX5 b).2.1 := by decide +kernel
theorem tyX5_ok : ∀ k, k < 6 → parseFieldDescriptor (TX5 k).2.2.1 = some (tyX5 k) := by decide +kernel
abbrev cX5_init : ByteArray := prog_7_method_1_code
def yX5_init : MethodName := ⟨RX5, "<init>", "()V"⟩
abbrev cX5_clear : ByteArray := prog_7_method_2_code
def yX5_clear : MethodName := ⟨RX5, "clear", "()V"⟩
abbrev cX5_send : ByteArray := prog_7_method_3_code
def yX5_send : MethodName := ⟨RX5, "send", "(LSensorNode$Guest;II)V"⟩
abbrev cX5_keeps : ByteArray := prog_7_method_4_code
def yX5_keeps : MethodName := ⟨RX5, "keeps", "(I)Z"⟩
abbrev cX5_total : ByteArray := prog_7_method_5_code
def yX5_total : MethodName := ⟨RX5, "total", "()I"⟩
abbrev cX5_newest : ByteArray := prog_7_method_6_code
def yX5_newest : MethodName := ⟨RX5, "newest", "()I"⟩
abbrev cX5_number : ByteArray := prog_7_method_7_code
def yX5_number : MethodName := ⟨RX5, "number", "(I)I"⟩
abbrev cX5_length : ByteArray := prog_7_method_8_code
def yX5_length : MethodName := ⟨RX5, "length", "(I)I"⟩
abbrev cX5_cutsBefore : ByteArray := prog_7_method_9_code
def yX5_cutsBefore : MethodName := ⟨RX5, "cutsBefore", "(I)I"⟩
abbrev cX5_byteOf : ByteArray := prog_7_method_10_code
def yX5_byteOf : MethodName := ⟨RX5, "byteOf", "(II)I"⟩
def RX6 : String := "SensorNode$Tray"
def TX6 : u_T := fun k => match k with
  | 0 => ("SensorNode$Tray", "bytes", "LSensorNode$Bytes;", true)
  | 1 => ("SensorNode$Tray", "size", "I", false)
  | _ => ("SensorNode$Tray", "fed", "I", false)
def tyX6 : Nat → FieldType := fun k => match k with
  | 0 => .object "SensorNode$Bytes"
  | 1 => .int
  | _ => .int
abbrev wsX60 : List Cond := u_ws RX6 TX6 3
theorem nmX6 : ∀ a, a < 3 → ∀ b, b < 3 → a ≠ b → (TX6 a).2.1 ≠ (TX6 b).2.1 := by decide +kernel
theorem tyX6_ok : ∀ k, k < 3 → parseFieldDescriptor (TX6 k).2.2.1 = some (tyX6 k) := by decide +kernel
abbrev cX6_init : ByteArray := prog_8_method_1_code
def yX6_init : MethodName := ⟨RX6, "<init>", "()V"⟩
abbrev cX6_hasRoom : ByteArray := prog_8_method_2_code
def yX6_hasRoom : MethodName := ⟨RX6, "hasRoom", "()Z"⟩
abbrev cX6_size : ByteArray := prog_8_method_3_code
def yX6_size : MethodName := ⟨RX6, "size", "()I"⟩
abbrev cX6_add : ByteArray := prog_8_method_4_code
def yX6_add : MethodName := ⟨RX6, "add", "(I)V"⟩
abbrev cX6_shorten : ByteArray := prog_8_method_5_code
def yX6_shorten : MethodName := ⟨RX6, "shorten", "(I)Z"⟩
abbrev cX6_get : ByteArray := prog_8_method_6_code
def yX6_get : MethodName := ⟨RX6, "get", "(I)I"⟩
def RX7 : String := "SensorNode"
def TX7 : u_T := fun k => match k with
  | 0 => ("SensorNode", "tray", "LSensorNode$Tray;", true)
  | 1 => ("SensorNode", "plan", "LSensorNode$Plan;", true)
  | 2 => ("SensorNode", "node", "LSensorNode$Node;", true)
  | _ => ("SensorNode", "plainMachine", "LSensorNode$PlainMachine;", true)
def tyX7 : Nat → FieldType := fun k => match k with
  | 0 => .object "SensorNode$Tray"
  | 1 => .object "SensorNode$Plan"
  | 2 => .object "SensorNode$Node"
  | _ => .object "SensorNode$PlainMachine"
abbrev wsX70 : List Cond := u_ws RX7 TX7 4
theorem nmX7 : ∀ a, a < 4 → ∀ b, b < 4 → a ≠ b → (TX7 a).2.1 ≠ (TX7 b).2.1 := by decide +kernel
theorem tyX7_ok : ∀ k, k < 4 → parseFieldDescriptor (TX7 k).2.2.1 = some (tyX7 k) := by decide +kernel
abbrev cX7_init : ByteArray := prog_1_method_1_code
def yX7_init : MethodName := ⟨RX7, "<init>", "()V"⟩
abbrev cX7_feed : ByteArray := prog_1_method_2_code
def yX7_feed : MethodName := ⟨RX7, "feed", "(IIIII)I"⟩
abbrev cX7_end : ByteArray := prog_1_method_3_code
def yX7_end : MethodName := ⟨RX7, "end", "(I)Z"⟩
abbrev cX7_install : ByteArray := prog_1_method_4_code
def yX7_install : MethodName := ⟨RX7, "install", "(IIIII)I"⟩
abbrev cX7_sample : ByteArray := prog_1_method_5_code
def yX7_sample : MethodName := ⟨RX7, "sample", "(I)I"⟩
abbrev cX7_on : ByteArray := prog_1_method_6_code
def yX7_on : MethodName := ⟨RX7, "on", "()Z"⟩
abbrev cX7_cut : ByteArray := prog_1_method_7_code
def yX7_cut : MethodName := ⟨RX7, "cut", "()Z"⟩
abbrev cX7_go : ByteArray := prog_1_method_8_code
def yX7_go : MethodName := ⟨RX7, "go", "(I)I"⟩
abbrev cX7_state : ByteArray := prog_1_method_9_code
def yX7_state : MethodName := ⟨RX7, "state", "()I"⟩
abbrev cX7_register : ByteArray := prog_1_method_10_code
def yX7_register : MethodName := ⟨RX7, "register", "(I)I"⟩
abbrev cX7_ram : ByteArray := prog_1_method_11_code
def yX7_ram : MethodName := ⟨RX7, "ram", "(I)I"⟩
abbrev cX7_words : ByteArray := prog_1_method_12_code
def yX7_words : MethodName := ⟨RX7, "words", "()I"⟩
abbrev cX7_word : ByteArray := prog_1_method_13_code
def yX7_word : MethodName := ⟨RX7, "word", "(I)I"⟩
abbrev cX7_frames : ByteArray := prog_1_method_14_code
def yX7_frames : MethodName := ⟨RX7, "frames", "()I"⟩
abbrev cX7_frame : ByteArray := prog_1_method_15_code
def yX7_frame : MethodName := ⟨RX7, "frame", "(II)I"⟩
abbrev cX7_heard : ByteArray := prog_1_method_16_code
def yX7_heard : MethodName := ⟨RX7, "heard", "(II)I"⟩
abbrev cX7_count : ByteArray := prog_1_method_17_code
def yX7_count : MethodName := ⟨RX7, "count", "(I)I"⟩
abbrev cX7_plain : ByteArray := prog_1_method_18_code
def yX7_plain : MethodName := ⟨RX7, "plain", "(I)I"⟩
abbrev cX7_plainly : ByteArray := prog_1_method_19_code
def yX7_plainly : MethodName := ⟨RX7, "plainly", "(I)I"⟩
abbrev cX7_plainByte : ByteArray := prog_1_method_20_code
def yX7_plainByte : MethodName := ⟨RX7, "plainByte", "(I)I"⟩
abbrev cX7_plainFrame : ByteArray := prog_1_method_21_code
def yX7_plainFrame : MethodName := ⟨RX7, "plainFrame", "(I)I"⟩
abbrev cX7_plainHeard : ByteArray := prog_1_method_22_code
def yX7_plainHeard : MethodName := ⟨RX7, "plainHeard", "(II)I"⟩
abbrev cX7_strays : ByteArray := prog_1_method_23_code
def yX7_strays : MethodName := ⟨RX7, "strays", "()I"⟩
def RX8 : String := "SensorNodeModel$Air"
def TX8 : u_T := fun k => match k with
  | 0 => ("SensorNodeModel$Air", "count", "I", false)
  | 1 => ("SensorNodeModel$Air", "number", "[I", true)
  | 2 => ("SensorNodeModel$Air", "length", "[I", true)
  | 3 => ("SensorNodeModel$Air", "before", "[I", true)
  | _ => ("SensorNodeModel$Air", "bytes", "[B", true)
def tyX8 : Nat → FieldType := fun k => match k with
  | 0 => .int
  | 1 => .array .int
  | 2 => .array .int
  | 3 => .array .int
  | _ => .array .byte
abbrev wsX80 : List Cond := u_ws RX8 TX8 5
theorem nmX8 : ∀ a, a < 5 → ∀ b, b < 5 → a ≠ b → (TX8 a).2.1 ≠ (TX8 b).2.1 := by decide +kernel
theorem tyX8_ok : ∀ k, k < 5 → parseFieldDescriptor (TX8 k).2.2.1 = some (tyX8 k) := by decide +kernel
abbrev cX8_init : ByteArray := prog_11_method_1_code
def yX8_init : MethodName := ⟨RX8, "<init>", "()V"⟩
abbrev cX8_has : ByteArray := prog_11_method_2_code
def yX8_has : MethodName := ⟨RX8, "has", "(I)Z"⟩
abbrev cX8_at : ByteArray := prog_11_method_3_code
def yX8_at : MethodName := ⟨RX8, "at", "(II)I"⟩
def RX9 : String := "SensorNodeModel$Guest"
def TX9 : u_T := fun k => match k with
  | 0 => ("SensorNodeModel$Guest", "x", "[I", true)
  | 1 => ("SensorNodeModel$Guest", "pc", "I", false)
  | 2 => ("SensorNodeModel$Guest", "index", "I", false)
  | 3 => ("SensorNodeModel$Guest", "sent", "I", false)
  | 4 => ("SensorNodeModel$Guest", "count", "I", false)
  | 5 => ("SensorNodeModel$Guest", "ram", "[I", true)
  | 6 => ("SensorNodeModel$Guest", "\x72", "I", false)
  | 7 => ("SensorNodeModel$Guest", "g", "I", false)
  | 8 => ("SensorNodeModel$Guest", "own", "[I", false)
  | 9 => ("SensorNodeModel$Guest", "from", "I", false)
  | 10 => ("SensorNodeModel$Guest", "samples", "[I", true)
  | 11 => ("SensorNodeModel$Guest", "sampleCount", "I", false)
  | 12 => ("SensorNodeModel$Guest", "ends", "I", false)
  | 13 => ("SensorNodeModel$Guest", "effect", "I", false)
  | 14 => ("SensorNodeModel$Guest", "target", "I", false)
  | 15 => ("SensorNodeModel$Guest", "value", "I", false)
  | 16 => ("SensorNodeModel$Guest", "place", "I", false)
  | 17 => ("SensorNodeModel$Guest", "wide", "I", false)
  | 18 => ("SensorNodeModel$Guest", "writesRegister", "Z", false)
  | _ => ("SensorNodeModel$Guest", "writesRam", "Z", false)
def tyX9 : Nat → FieldType := fun k => match k with
  | 0 => .array .int
  | 1 => .int
  | 2 => .int
  | 3 => .int
  | 4 => .int
  | 5 => .array .int
  | 6 => .int
  | 7 => .int
  | 8 => .array .int
  | 9 => .int
  | 10 => .array .int
  | 11 => .int
  | 12 => .int
  | 13 => .int
  | 14 => .int
  | 15 => .int
  | 16 => .int
  | 17 => .int
  | 18 => .boolean
  | _ => .boolean
abbrev wsX90 : List Cond := u_ws RX9 TX9 20
theorem nmX9 : ∀ a, a < 20 → ∀ b, b < 20 → a ≠ b → (TX9 a).2.1 ≠ (TX9 b).2.1 := by decide +kernel
theorem tyX9_ok : ∀ k, k < 20 → parseFieldDescriptor (TX9 k).2.2.1 = some (tyX9 k) := by decide +kernel
abbrev cX9_init : ByteArray := prog_12_method_1_code
def yX9_init : MethodName := ⟨RX9, "<init>", "([I)V"⟩
abbrev cX9_begin : ByteArray := prog_12_method_2_code
def yX9_begin : MethodName := ⟨RX9, "begin", "(III)V"⟩
abbrev cX9_isIn : ByteArray := prog_12_method_3_code
def yX9_isIn : MethodName := ⟨RX9, "isIn", "(IJ)Z"⟩
abbrev cX9_isRam : ByteArray := prog_12_method_4_code
def yX9_isRam : MethodName := ⟨RX9, "isRam", "(I)Z"⟩
abbrev cX9_wordAt : ByteArray := prog_12_method_5_code
def yX9_wordAt : MethodName := ⟨RX9, "wordAt", "(I)I"⟩
abbrev cX9_byteAt : ByteArray := prog_12_method_6_code
def yX9_byteAt : MethodName := ⟨RX9, "byteAt", "(I)I"⟩
abbrev cX9_bits : ByteArray := prog_12_method_7_code
def yX9_bits : MethodName := ⟨RX9, "bits", "(III)I"⟩
abbrev cX9_look : ByteArray := prog_12_method_8_code
def yX9_look : MethodName := ⟨RX9, "look", "()V"⟩
abbrev cX9_decode : ByteArray := prog_12_method_9_code
def yX9_decode : MethodName := ⟨RX9, "decode", "(I)V"⟩
abbrev cX9_gives : ByteArray := prog_12_method_10_code
def yX9_gives : MethodName := ⟨RX9, "gives", "(I)V"⟩
abbrev cX9_goes : ByteArray := prog_12_method_11_code
def yX9_goes : MethodName := ⟨RX9, "goes", "(I)V"⟩
abbrev cX9_isBelow : ByteArray := prog_12_method_12_code
def yX9_isBelow : MethodName := ⟨RX9, "isBelow", "(II)Z"⟩
abbrev cX9_shifted : ByteArray := prog_12_method_13_code
def yX9_shifted : MethodName := ⟨RX9, "shifted", "(IIII)I"⟩
abbrev cX9_worked : ByteArray := prog_12_method_14_code
def yX9_worked : MethodName := ⟨RX9, "worked", "(III)I"⟩
abbrev cX9_branch : ByteArray := prog_12_method_15_code
def yX9_branch : MethodName := ⟨RX9, "branch", "(IIII)V"⟩
abbrev cX9_reaches : ByteArray := prog_12_method_16_code
def yX9_reaches : MethodName := ⟨RX9, "reaches", "(II)Z"⟩
abbrev cX9_loads : ByteArray := prog_12_method_17_code
def yX9_loads : MethodName := ⟨RX9, "loads", "(II)V"⟩
abbrev cX9_stores : ByteArray := prog_12_method_18_code
def yX9_stores : MethodName := ⟨RX9, "stores", "(III)V"⟩
abbrev cX9_calls : ByteArray := prog_12_method_19_code
def yX9_calls : MethodName := ⟨RX9, "calls", "()V"⟩
abbrev cX9_perform : ByteArray := prog_12_method_20_code
def yX9_perform : MethodName := ⟨RX9, "perform", "()V"⟩
abbrev cX9_sendTo : ByteArray := prog_12_method_21_code
def yX9_sendTo : MethodName := ⟨RX9, "sendTo", "(LSensorNodeModel$Air;I)V"⟩
def RX10 : String := "SensorNodeModel"
def TX10 : u_T := fun k => match k with
  | 0 => ("SensorNodeModel", "isInstalled", "Z", false)
  | 1 => ("SensorNodeModel", "wasOn", "Z", false)
  | 2 => ("SensorNodeModel", "power", "Z", false)
  | 3 => ("SensorNodeModel", "\x72", "I", false)
  | 4 => ("SensorNodeModel", "g", "I", false)
  | 5 => ("SensorNodeModel", "l", "I", false)
  | 6 => ("SensorNodeModel", "k", "I", false)
  | 7 => ("SensorNodeModel", "pcAtFirst", "I", false)
  | 8 => ("SensorNodeModel", "size", "I", false)
  | 9 => ("SensorNodeModel", "entriesAt", "I", false)
  | 10 => ("SensorNodeModel", "guestAt", "I", false)
  | 11 => ("SensorNodeModel", "store", "[I", true)
  | 12 => ("SensorNodeModel", "image", "[I", true)
  | 13 => ("SensorNodeModel", "samples", "[I", true)
  | 14 => ("SensorNodeModel", "node", "LSensorNodeModel$Guest;", true)
  | 15 => ("SensorNodeModel", "plain", "LSensorNodeModel$Guest;", true)
  | 16 => ("SensorNodeModel", "plainWords", "[I", true)
  | 17 => ("SensorNodeModel", "wasPlain", "Z", false)
  | 18 => ("SensorNodeModel", "heard", "LSensorNodeModel$Air;", false)
  | 19 => ("SensorNodeModel", "plainHeard", "LSensorNodeModel$Air;", true)
  | 20 => ("SensorNodeModel", "since", "I", false)
  | 21 => ("SensorNodeModel", "ended", "I", false)
  | 22 => ("SensorNodeModel", "doing", "I", false)
  | 23 => ("SensorNodeModel", "step", "I", false)
  | 24 => ("SensorNodeModel", "hasEntry", "[Z", true)
  | 25 => ("SensorNodeModel", "acts", "I", false)
  | 26 => ("SensorNodeModel", "written", "I", false)
  | 27 => ("SensorNodeModel", "undone", "I", false)
  | 28 => ("SensorNodeModel", "done", "I", false)
  | 29 => ("SensorNodeModel", "checkpoints", "I", false)
  | 30 => ("SensorNodeModel", "cuts", "I", false)
  | 31 => ("SensorNodeModel", "rolled", "I", false)
  | 32 => ("SensorNodeModel", "strays", "I", false)
  | 33 => ("SensorNodeModel", "tray", "[B", true)
  | 34 => ("SensorNodeModel", "trayed", "I", false)
  | _ => ("SensorNodeModel", "fed", "I", false)
def tyX10 : Nat → FieldType := fun k => match k with
  | 0 => .boolean
  | 1 => .boolean
  | 2 => .boolean
  | 3 => .int
  | 4 => .int
  | 5 => .int
  | 6 => .int
  | 7 => .int
  | 8 => .int
  | 9 => .int
  | 10 => .int
  | 11 => .array .int
  | 12 => .array .int
  | 13 => .array .int
  | 14 => .object "SensorNodeModel$Guest"
  | 15 => .object "SensorNodeModel$Guest"
  | 16 => .array .int
  | 17 => .boolean
  | 18 => .object "SensorNodeModel$Air"
  | 19 => .object "SensorNodeModel$Air"
  | 20 => .int
  | 21 => .int
  | 22 => .int
  | 23 => .int
  | 24 => .array .boolean
  | 25 => .int
  | 26 => .int
  | 27 => .int
  | 28 => .int
  | 29 => .int
  | 30 => .int
  | 31 => .int
  | 32 => .int
  | 33 => .array .byte
  | 34 => .int
  | _ => .int
abbrev wsX100 : List Cond := u_ws RX10 TX10 36
theorem nmX10 : ∀ a, a < 36 → ∀ b, b < 36 → a ≠ b → (TX10 a).2.1 ≠ (TX10 b).2.1 := by decide +kernel
theorem tyX10_ok : ∀ k, k < 36 → parseFieldDescriptor (TX10 k).2.2.1 = some (tyX10 k) := by decide +kernel
abbrev cX10_init : ByteArray := prog_10_method_1_code
def yX10_init : MethodName := ⟨RX10, "<init>", "()V"⟩
abbrev cX10_four : ByteArray := prog_10_method_3_code
def yX10_four : MethodName := ⟨RX10, "four", "(I)V"⟩
abbrev cX10_feed : ByteArray := prog_10_method_4_code
def yX10_feed : MethodName := ⟨RX10, "feed", "(IIIII)I"⟩
abbrev cX10_end : ByteArray := prog_10_method_5_code
def yX10_end : MethodName := ⟨RX10, "end", "(I)Z"⟩
abbrev cX10_install : ByteArray := prog_10_method_6_code
def yX10_install : MethodName := ⟨RX10, "install", "(IIIII)I"⟩
abbrev cX10_sample : ByteArray := prog_10_method_7_code
def yX10_sample : MethodName := ⟨RX10, "sample", "(I)I"⟩
abbrev cX10_generation : ByteArray := prog_10_method_8_code
def yX10_generation : MethodName := ⟨RX10, "generation", "()I"⟩
abbrev cX10_bufferAt : ByteArray := prog_10_method_9_code
def yX10_bufferAt : MethodName := ⟨RX10, "bufferAt", "(I)I"⟩
abbrev cX10_counting : ByteArray := prog_10_method_10_code
def yX10_counting : MethodName := ⟨RX10, "counting", "()I"⟩
abbrev cX10_on : ByteArray := prog_10_method_11_code
def yX10_on : MethodName := ⟨RX10, "on", "()Z"⟩
abbrev cX10_forgetEntries : ByteArray := prog_10_method_12_code
def yX10_forgetEntries : MethodName := ⟨RX10, "forgetEntries", "()V"⟩
abbrev cX10_cut : ByteArray := prog_10_method_13_code
def yX10_cut : MethodName := ⟨RX10, "cut", "()Z"⟩
abbrev cX10_go : ByteArray := prog_10_method_14_code
def yX10_go : MethodName := ⟨RX10, "go", "(I)I"⟩
abbrev cX10_write : ByteArray := prog_10_method_15_code
def yX10_write : MethodName := ⟨RX10, "write", "(II)V"⟩
abbrev cX10_act : ByteArray := prog_10_method_16_code
def yX10_act : MethodName := ⟨RX10, "act", "()V"⟩
abbrev cX10_boot : ByteArray := prog_10_method_17_code
def yX10_boot : MethodName := ⟨RX10, "boot", "()V"⟩
abbrev cX10_decide : ByteArray := prog_10_method_18_code
def yX10_decide : MethodName := ⟨RX10, "decide", "()V"⟩
abbrev cX10_perform : ByteArray := prog_10_method_19_code
def yX10_perform : MethodName := ⟨RX10, "perform", "()V"⟩
abbrev cX10_checkWord : ByteArray := prog_10_method_20_code
def yX10_checkWord : MethodName := ⟨RX10, "checkWord", "(I)I"⟩
abbrev cX10_check : ByteArray := prog_10_method_21_code
def yX10_check : MethodName := ⟨RX10, "check", "()V"⟩
abbrev cX10_log : ByteArray := prog_10_method_22_code
def yX10_log : MethodName := ⟨RX10, "log", "()V"⟩
abbrev cX10_send : ByteArray := prog_10_method_23_code
def yX10_send : MethodName := ⟨RX10, "send", "()V"⟩
abbrev cX10_state : ByteArray := prog_10_method_24_code
def yX10_state : MethodName := ⟨RX10, "state", "()I"⟩
abbrev cX10_told : ByteArray := prog_10_method_25_code
def yX10_told : MethodName := ⟨RX10, "told", "(LSensorNodeModel$Guest;I)I"⟩
abbrev cX10_register : ByteArray := prog_10_method_26_code
def yX10_register : MethodName := ⟨RX10, "register", "(I)I"⟩
abbrev cX10_ram : ByteArray := prog_10_method_27_code
def yX10_ram : MethodName := ⟨RX10, "ram", "(I)I"⟩
abbrev cX10_words : ByteArray := prog_10_method_28_code
def yX10_words : MethodName := ⟨RX10, "words", "()I"⟩
abbrev cX10_word : ByteArray := prog_10_method_29_code
def yX10_word : MethodName := ⟨RX10, "word", "(I)I"⟩
abbrev cX10_frames : ByteArray := prog_10_method_30_code
def yX10_frames : MethodName := ⟨RX10, "frames", "()I"⟩
abbrev cX10_frame : ByteArray := prog_10_method_31_code
def yX10_frame : MethodName := ⟨RX10, "frame", "(II)I"⟩
abbrev cX10_heard : ByteArray := prog_10_method_32_code
def yX10_heard : MethodName := ⟨RX10, "heard", "(II)I"⟩
abbrev cX10_count : ByteArray := prog_10_method_33_code
def yX10_count : MethodName := ⟨RX10, "count", "(I)I"⟩
abbrev cX10_plain : ByteArray := prog_10_method_34_code
def yX10_plain : MethodName := ⟨RX10, "plain", "(I)I"⟩
abbrev cX10_plainly : ByteArray := prog_10_method_35_code
def yX10_plainly : MethodName := ⟨RX10, "plainly", "(I)I"⟩
abbrev cX10_plainByte : ByteArray := prog_10_method_36_code
def yX10_plainByte : MethodName := ⟨RX10, "plainByte", "(I)I"⟩
abbrev cX10_plainFrame : ByteArray := prog_10_method_37_code
def yX10_plainFrame : MethodName := ⟨RX10, "plainFrame", "(I)I"⟩
abbrev cX10_plainHeard : ByteArray := prog_10_method_38_code
def yX10_plainHeard : MethodName := ⟨RX10, "plainHeard", "(II)I"⟩
abbrev cX10_strays : ByteArray := prog_10_method_39_code
def yX10_strays : MethodName := ⟨RX10, "strays", "()I"⟩
def RL : String := "SensorNodeLaw"
abbrev cL_law : ByteArray := code
def yL_law : MethodName := ⟨RL, "law", "([I)Z"⟩
abbrev cls : List vw_C := [(RX0, TX0, 1), (RX1, TX1, 10), (RX2, TX2, 15), (RX3, TX3, 6), (RX4, TX4, 9), (RX5, TX5, 6), (RX6, TX6, 3), (RX7, TX7, 4), (RX8, TX8, 5), (RX9, TX9, 20), (RX10, TX10, 36)]
def tw : List Cond := lw_tbl.filter goodWord
theorem tb1 {w : Cond} (i : Nat) (hi : tables_1_1[i]? = some w) (hg : goodWord w = true := by rfl) : w ∈ tw := by
  have h := List.mem_of_getElem? hi
  exact List.mem_filter.mpr ⟨List.mem_append_right _ (List.mem_append_left _ h), hg⟩
theorem tb2 {w : Cond} (i : Nat) (hi : tables_1_2[i]? = some w) (hg : goodWord w = true := by rfl) : w ∈ tw := by
  have h := List.mem_of_getElem? hi
  exact List.mem_filter.mpr ⟨List.mem_append_right _ (List.mem_append_right _ (List.mem_append_left _ h)), hg⟩
theorem tb3 {w : Cond} (i : Nat) (hi : tables_1_3[i]? = some w) (hg : goodWord w = true := by rfl) : w ∈ tw := by
  have h := List.mem_of_getElem? hi
  exact List.mem_filter.mpr ⟨List.mem_append_right _ (List.mem_append_right _ (List.mem_append_right _ (List.mem_append_left _ h))), hg⟩
theorem tb4 {w : Cond} (i : Nat) (hi : tables_1_4[i]? = some w) (hg : goodWord w = true := by rfl) : w ∈ tw := by
  have h := List.mem_of_getElem? hi
  exact List.mem_filter.mpr ⟨List.mem_append_right _ (List.mem_append_right _ (List.mem_append_right _ (List.mem_append_right _ (List.mem_append_left _ h)))), hg⟩
theorem tb5 {w : Cond} (i : Nat) (hi : tables_1_5[i]? = some w) (hg : goodWord w = true := by rfl) : w ∈ tw := by
  have h := List.mem_of_getElem? hi
  exact List.mem_filter.mpr ⟨List.mem_append_right _ (List.mem_append_right _ (List.mem_append_right _ (List.mem_append_right _ (List.mem_append_right _ h)))), hg⟩
theorem tb0 {w : Cond} (i : Nat) (hi : (k2_sels lw_privs)[i]? = some w) (hg : goodWord w = true := by rfl) : w ∈ tw := List.mem_filter.mpr ⟨List.mem_append_left _ (List.mem_of_getElem? hi), hg⟩
end
section
theorem w1_0 : (Cond.initialized RL) ∈ tw := tb1 0 rfl
theorem w1_1 : (Cond.initialized RX7) ∈ tw := tb1 1 rfl
theorem w1_2 : (Cond.initialized RX6) ∈ tw := tb1 2 rfl
theorem w1_3 : (Cond.initialized RX0) ∈ tw := tb1 3 rfl
theorem w1_4 : (Cond.initialized RX4) ∈ tw := tb1 4 rfl
theorem w1_5 : (Cond.initialized RX2) ∈ tw := tb1 5 rfl
theorem w1_6 : (Cond.initialized RX5) ∈ tw := tb1 6 rfl
theorem w1_7 : (Cond.initialized RX1) ∈ tw := tb1 7 rfl
theorem w1_8 : (Cond.initialized RX3) ∈ tw := tb1 8 rfl
theorem w1_9 : (Cond.initialized RX10) ∈ tw := tb1 9 rfl
theorem w1_10 : (Cond.initialized RX9) ∈ tw := tb1 10 rfl
theorem w1_11 : (Cond.initialized RX8) ∈ tw := tb1 11 rfl
theorem w1_12 : (Cond.classLink RL 7 RX7) ∈ tw := tb1 12 rfl
theorem w1_13 : (Cond.instantiable RX7 4) ∈ tw := tb1 13 rfl
theorem w1_14 : (Cond.methodLink RL 9 yX7_init) ∈ tw := tb1 14 rfl
theorem w1_15 : (Cond.instanceMethod yX7_init) ∈ tw := tb1 15 rfl
theorem w1_16 : (Cond.code yX7_init prog_1_method_1_code 1 (none : Option Jvm.ClassFile.FieldType)) ∈ tw := tb1 16 rfl
theorem w1_17 : (Cond.methodLink RX7 1 ⟨"java/lang/Object", "<init>", "()V"⟩) ∈ tw := tb1 17 rfl
theorem w1_18 : (Cond.instanceMethod ⟨"java/lang/Object", "<init>", "()V"⟩) ∈ tw := tb1 18 rfl
theorem w1_19 : (Cond.code ⟨"java/lang/Object", "<init>", "()V"⟩ object_method_1_code 1 (none : Option Jvm.ClassFile.FieldType)) ∈ tw := tb1 19 rfl
theorem w1_20 : (Cond.classLink RX7 7 RX6) ∈ tw := tb1 20 rfl
theorem w1_21 : (Cond.instantiable RX6 3) ∈ tw := tb1 21 rfl
theorem w1_23 : (Cond.instanceMethod yX6_init) ∈ tw := tb1 23 rfl
theorem w1_24 : (Cond.code yX6_init prog_8_method_1_code 1 (none : Option Jvm.ClassFile.FieldType)) ∈ tw := tb1 24 rfl
theorem w1_25 : (Cond.methodLink RX6 3 ⟨"java/lang/Object", "<init>", "()V"⟩) ∈ tw := tb1 25 rfl
theorem w1_26 : (Cond.classLink RX6 9 RX0) ∈ tw := tb1 26 rfl
theorem w1_27 : (Cond.instantiable RX0 1) ∈ tw := tb1 27 rfl
theorem w1_28 : (Cond.methodLink RX6 11 yX0_init) ∈ tw := tb1 28 rfl
theorem w1_29 : (Cond.instanceMethod yX0_init) ∈ tw := tb1 29 rfl
theorem w1_30 : (Cond.code yX0_init prog_2_method_1_code 2 (none : Option Jvm.ClassFile.FieldType)) ∈ tw := tb1 30 rfl
theorem w1_31 : (Cond.methodLink RX0 1 ⟨"java/lang/Object", "<init>", "()V"⟩) ∈ tw := tb1 31 rfl
theorem w1_32 : (Cond.fieldLink "SensorNode$Bytes" 7 "SensorNode$Bytes" "packed" "[I") ∈ tw := tb1 32 rfl
theorem w1_33 : (Cond.laysFinal "SensorNode$Bytes" "SensorNode$Bytes" "packed" "[I") ∈ tw := tb1 33 rfl
theorem w1_36 : (Cond.arrayClass .int) ∈ tw := tb1 36 rfl
theorem w1_37 : (Cond.fieldLink "SensorNode$Tray" 14 "SensorNode$Tray" "bytes" "LSensorNode$Bytes;") ∈ tw := tb1 37 rfl
theorem w1_38 : (Cond.fieldLink "SensorNode$Tray" 20 "SensorNode$Tray" "size" "I") ∈ tw := tb1 38 rfl
theorem w1_39 : (Cond.fieldLink "SensorNode$Tray" 24 "SensorNode$Tray" "fed" "I") ∈ tw := tb1 39 rfl
theorem w1_40 : (Cond.laysFinal "SensorNode$Tray" "SensorNode$Tray" "bytes" "LSensorNode$Bytes;") ∈ tw := tb1 40 rfl
theorem w1_42 : (Cond.lays "SensorNode$Tray" "SensorNode$Tray" "size" "I") ∈ tw := tb1 42 rfl
theorem w1_44 : (Cond.lays "SensorNode$Tray" "SensorNode$Tray" "fed" "I") ∈ tw := tb1 44 rfl
theorem w1_47 : (Cond.classLink RX7 16 RX4) ∈ tw := tb1 47 rfl
theorem w1_48 : (Cond.instantiable RX4 9) ∈ tw := tb1 48 rfl
theorem w1_50 : (Cond.instanceMethod yX4_init) ∈ tw := tb1 50 rfl
theorem w1_51 : (Cond.code yX4_init prog_6_method_1_code 1 (none : Option Jvm.ClassFile.FieldType)) ∈ tw := tb1 51 rfl
theorem w1_52 : (Cond.methodLink RX4 3 ⟨"java/lang/Object", "<init>", "()V"⟩) ∈ tw := tb1 52 rfl
theorem w1_53 : (Cond.fieldLink "SensorNode$Plan" 9 "SensorNode$Plan" "image" "[I") ∈ tw := tb1 53 rfl
theorem w1_54 : (Cond.fieldLink "SensorNode$Plan" 15 "SensorNode$Plan" "samples" "[I") ∈ tw := tb1 54 rfl
theorem w1_55 : (Cond.fieldLink "SensorNode$Plan" 39 "SensorNode$Plan" "samplesTold" "I") ∈ tw := tb1 55 rfl
theorem w1_56 : (Cond.fieldLink "SensorNode$Plan" 19 "SensorNode$Plan" "installed" "Z") ∈ tw := tb1 56 rfl
theorem w1_58 : (Cond.fieldLink "SensorNode$Plan" 23 "SensorNode$Plan" "ramBytes" "I") ∈ tw := tb1 58 rfl
theorem w1_61 : (Cond.fieldLink "SensorNode$Plan" 27 "SensorNode$Plan" "storeBytes" "I") ∈ tw := tb1 61 rfl
theorem w1_64 : (Cond.fieldLink "SensorNode$Plan" 30 "SensorNode$Plan" "entries" "I") ∈ tw := tb1 64 rfl
theorem w1_65 : (Cond.fieldLink "SensorNode$Plan" 33 "SensorNode$Plan" "interval" "I") ∈ tw := tb1 65 rfl
theorem w1_68 : (Cond.fieldLink "SensorNode$Plan" 36 "SensorNode$Plan" "start" "I") ∈ tw := tb1 68 rfl
theorem w1_70 : (Cond.laysFinal "SensorNode$Plan" "SensorNode$Plan" "image" "[I") ∈ tw := tb1 70 rfl
theorem w1_72 : (Cond.laysFinal "SensorNode$Plan" "SensorNode$Plan" "samples" "[I") ∈ tw := tb1 72 rfl
theorem w1_74 : (Cond.lays "SensorNode$Plan" "SensorNode$Plan" "samplesTold" "I") ∈ tw := tb1 74 rfl
theorem w1_76 : (Cond.lays "SensorNode$Plan" "SensorNode$Plan" "installed" "Z") ∈ tw := tb1 76 rfl
theorem w1_78 : (Cond.lays "SensorNode$Plan" "SensorNode$Plan" "ramBytes" "I") ∈ tw := tb1 78 rfl
theorem w1_80 : (Cond.lays "SensorNode$Plan" "SensorNode$Plan" "storeBytes" "I") ∈ tw := tb1 80 rfl
theorem w1_82 : (Cond.lays "SensorNode$Plan" "SensorNode$Plan" "entries" "I") ∈ tw := tb1 82 rfl
theorem w1_84 : (Cond.lays "SensorNode$Plan" "SensorNode$Plan" "interval" "I") ∈ tw := tb1 84 rfl
theorem w1_86 : (Cond.lays "SensorNode$Plan" "SensorNode$Plan" "start" "I") ∈ tw := tb1 86 rfl
theorem w1_89 : (Cond.classLink RX7 23 RX2) ∈ tw := tb1 89 rfl
theorem w1_90 : (Cond.instantiable RX2 15) ∈ tw := tb1 90 rfl
theorem w1_91 : (Cond.methodLink RX7 25 yX2_init) ∈ tw := tb1 91 rfl
theorem w1_92 : (Cond.instanceMethod yX2_init) ∈ tw := tb1 92 rfl
theorem w1_93 : (Cond.code yX2_init prog_4_method_1_code 2 (none : Option Jvm.ClassFile.FieldType)) ∈ tw := tb1 93 rfl
theorem w1_94 : (Cond.methodLink RX2 3 ⟨"java/lang/Object", "<init>", "()V"⟩) ∈ tw := tb1 94 rfl
theorem w1_95 : (Cond.classLink RX2 21 RX5) ∈ tw := tb1 95 rfl
theorem w1_96 : (Cond.instantiable RX5 6) ∈ tw := tb1 96 rfl
theorem w1_98 : (Cond.instanceMethod yX5_init) ∈ tw := tb1 98 rfl
theorem w1_99 : (Cond.code yX5_init prog_7_method_1_code 1 (none : Option Jvm.ClassFile.FieldType)) ∈ tw := tb1 99 rfl
theorem w1_100 : (Cond.methodLink RX5 3 ⟨"java/lang/Object", "<init>", "()V"⟩) ∈ tw := tb1 100 rfl
theorem w1_101 : (Cond.classLink RX5 21 RX0) ∈ tw := tb1 101 rfl
theorem w1_102 : (Cond.methodLink RX5 23 yX0_init) ∈ tw := tb1 102 rfl
theorem w1_103 : (Cond.fieldLink "SensorNode$Radio" 9 "SensorNode$Radio" "numbers" "[I") ∈ tw := tb1 103 rfl
theorem w1_104 : (Cond.fieldLink "SensorNode$Radio" 15 "SensorNode$Radio" "lengths" "[I") ∈ tw := tb1 104 rfl
theorem w1_105 : (Cond.fieldLink "SensorNode$Radio" 18 "SensorNode$Radio" "cuts" "[I") ∈ tw := tb1 105 rfl
theorem w1_106 : (Cond.fieldLink "SensorNode$Radio" 26 "SensorNode$Radio" "bytes" "LSensorNode$Bytes;") ∈ tw := tb1 106 rfl
theorem w1_107 : (Cond.fieldLink "SensorNode$Radio" 30 "SensorNode$Radio" "total" "I") ∈ tw := tb1 107 rfl
theorem w1_108 : (Cond.fieldLink "SensorNode$Radio" 34 "SensorNode$Radio" "newest" "I") ∈ tw := tb1 108 rfl
theorem w1_109 : (Cond.laysFinal "SensorNode$Radio" "SensorNode$Radio" "numbers" "[I") ∈ tw := tb1 109 rfl
theorem w1_111 : (Cond.laysFinal "SensorNode$Radio" "SensorNode$Radio" "lengths" "[I") ∈ tw := tb1 111 rfl
theorem w1_113 : (Cond.laysFinal "SensorNode$Radio" "SensorNode$Radio" "cuts" "[I") ∈ tw := tb1 113 rfl
theorem w1_115 : (Cond.laysFinal "SensorNode$Radio" "SensorNode$Radio" "bytes" "LSensorNode$Bytes;") ∈ tw := tb1 115 rfl
theorem w1_117 : (Cond.lays "SensorNode$Radio" "SensorNode$Radio" "total" "I") ∈ tw := tb1 117 rfl
theorem w1_119 : (Cond.lays "SensorNode$Radio" "SensorNode$Radio" "newest" "I") ∈ tw := tb1 119 rfl
theorem w1_122 : (Cond.classLink RX2 32 RX1) ∈ tw := tb1 122 rfl
theorem w1_123 : (Cond.instantiable RX1 10) ∈ tw := tb1 123 rfl
theorem w1_124 : (Cond.methodLink RX2 34 yX1_init) ∈ tw := tb1 124 rfl
theorem w1_125 : (Cond.instanceMethod yX1_init) ∈ tw := tb1 125 rfl
theorem w1_126 : (Cond.code yX1_init prog_3_method_1_code 3 (none : Option Jvm.ClassFile.FieldType)) ∈ tw := tb1 126 rfl
theorem w1_127 : (Cond.methodLink RX1 3 ⟨"java/lang/Object", "<init>", "()V"⟩) ∈ tw := tb1 127 rfl
theorem w1_128 : (Cond.fieldLink "SensorNode$Guest" 18 "SensorNode$Guest" "plan" "LSensorNode$Plan;") ∈ tw := tb1 128 rfl
theorem w1_129 : (Cond.fieldLink "SensorNode$Guest" 9 "SensorNode$Guest" "own" "[I") ∈ tw := tb1 129 rfl
theorem w1_130 : (Cond.fieldLink "SensorNode$Guest" 15 "SensorNode$Guest" "memory" "[I") ∈ tw := tb1 130 rfl
theorem w1_131 : (Cond.fieldLink "SensorNode$Guest" 22 "SensorNode$Guest" "store" "[I") ∈ tw := tb1 131 rfl
theorem w1_132 : (Cond.fieldLink "SensorNode$Guest" 25 "SensorNode$Guest" "storeStart" "I") ∈ tw := tb1 132 rfl
theorem w1_133 : (Cond.fieldLink "SensorNode$Guest" 33 "SensorNode$Guest" "kind" "I") ∈ tw := tb1 133 rfl
theorem w1_134 : (Cond.fieldLink "SensorNode$Guest" 36 "SensorNode$Guest" "target" "I") ∈ tw := tb1 134 rfl
theorem w1_135 : (Cond.fieldLink "SensorNode$Guest" 39 "SensorNode$Guest" "value" "I") ∈ tw := tb1 135 rfl
theorem w1_136 : (Cond.fieldLink "SensorNode$Guest" 42 "SensorNode$Guest" "next" "I") ∈ tw := tb1 136 rfl
theorem w1_137 : (Cond.fieldLink "SensorNode$Guest" 96 "SensorNode$Guest" "address" "I") ∈ tw := tb1 137 rfl
theorem w1_138 : (Cond.laysFinal "SensorNode$Guest" "SensorNode$Guest" "plan" "LSensorNode$Plan;") ∈ tw := tb1 138 rfl
theorem w1_140 : (Cond.laysFinal "SensorNode$Guest" "SensorNode$Guest" "own" "[I") ∈ tw := tb1 140 rfl
theorem w1_142 : (Cond.laysFinal "SensorNode$Guest" "SensorNode$Guest" "memory" "[I") ∈ tw := tb1 142 rfl
theorem w1_144 : (Cond.laysFinal "SensorNode$Guest" "SensorNode$Guest" "store" "[I") ∈ tw := tb1 144 rfl
theorem w1_146 : (Cond.lays "SensorNode$Guest" "SensorNode$Guest" "storeStart" "I") ∈ tw := tb1 146 rfl
theorem w1_148 : (Cond.lays "SensorNode$Guest" "SensorNode$Guest" "kind" "I") ∈ tw := tb1 148 rfl
theorem w1_150 : (Cond.lays "SensorNode$Guest" "SensorNode$Guest" "target" "I") ∈ tw := tb1 150 rfl
theorem w1_152 : (Cond.lays "SensorNode$Guest" "SensorNode$Guest" "value" "I") ∈ tw := tb1 152 rfl
theorem w1_154 : (Cond.lays "SensorNode$Guest" "SensorNode$Guest" "next" "I") ∈ tw := tb1 154 rfl
theorem w1_156 : (Cond.lays "SensorNode$Guest" "SensorNode$Guest" "address" "I") ∈ tw := tb1 156 rfl
theorem w1_159 : (Cond.fieldLink "SensorNode$Node" 28 "SensorNode$Node" "plan" "LSensorNode$Plan;") ∈ tw := tb1 159 rfl
theorem w1_160 : (Cond.fieldLink "SensorNode$Node" 11 "SensorNode$Node" "store" "[I") ∈ tw := tb1 160 rfl
theorem w1_161 : (Cond.fieldLink "SensorNode$Node" 15 "SensorNode$Node" "marks" "[I") ∈ tw := tb1 161 rfl
theorem w1_162 : (Cond.fieldLink "SensorNode$Node" 18 "SensorNode$Node" "counts" "[I") ∈ tw := tb1 162 rfl
theorem w1_163 : (Cond.fieldLink "SensorNode$Node" 24 "SensorNode$Node" "radio" "LSensorNode$Radio;") ∈ tw := tb1 163 rfl
theorem w1_164 : (Cond.fieldLink "SensorNode$Node" 37 "SensorNode$Node" "guest" "LSensorNode$Guest;") ∈ tw := tb1 164 rfl
theorem w1_165 : (Cond.fieldLink "SensorNode$Node" 93 "SensorNode$Node" "mark" "I") ∈ tw := tb1 165 rfl
theorem w1_166 : (Cond.fieldLink "SensorNode$Node" 41 "SensorNode$Node" "state" "I") ∈ tw := tb1 166 rfl
theorem w1_167 : (Cond.fieldLink "SensorNode$Node" 90 "SensorNode$Node" "step" "I") ∈ tw := tb1 167 rfl
theorem w1_168 : (Cond.fieldLink "SensorNode$Node" 83 "SensorNode$Node" "since" "I") ∈ tw := tb1 168 rfl
theorem w1_169 : (Cond.fieldLink "SensorNode$Node" 63 "SensorNode$Node" "size" "I") ∈ tw := tb1 169 rfl
theorem w1_170 : (Cond.fieldLink "SensorNode$Node" 51 "SensorNode$Node" "logStart" "I") ∈ tw := tb1 170 rfl
theorem w1_171 : (Cond.fieldLink "SensorNode$Node" 57 "SensorNode$Node" "guestStart" "I") ∈ tw := tb1 171 rfl
theorem w1_172 : (Cond.fieldLink "SensorNode$Node" 80 "SensorNode$Node" "strays" "I") ∈ tw := tb1 172 rfl
theorem w1_173 : (Cond.fieldLink "SensorNode$Node" 86 "SensorNode$Node" "hadPower" "Z") ∈ tw := tb1 173 rfl
theorem w1_174 : (Cond.laysFinal "SensorNode$Node" "SensorNode$Node" "plan" "LSensorNode$Plan;") ∈ tw := tb1 174 rfl
theorem w1_176 : (Cond.laysFinal "SensorNode$Node" "SensorNode$Node" "store" "[I") ∈ tw := tb1 176 rfl
theorem w1_178 : (Cond.laysFinal "SensorNode$Node" "SensorNode$Node" "marks" "[I") ∈ tw := tb1 178 rfl
theorem w1_180 : (Cond.laysFinal "SensorNode$Node" "SensorNode$Node" "counts" "[I") ∈ tw := tb1 180 rfl
theorem w1_182 : (Cond.laysFinal "SensorNode$Node" "SensorNode$Node" "radio" "LSensorNode$Radio;") ∈ tw := tb1 182 rfl
theorem w1_184 : (Cond.laysFinal "SensorNode$Node" "SensorNode$Node" "guest" "LSensorNode$Guest;") ∈ tw := tb1 184 rfl
theorem w1_186 : (Cond.lays "SensorNode$Node" "SensorNode$Node" "mark" "I") ∈ tw := tb1 186 rfl
theorem w1_188 : (Cond.lays "SensorNode$Node" "SensorNode$Node" "state" "I") ∈ tw := tb1 188 rfl
theorem w1_190 : (Cond.lays "SensorNode$Node" "SensorNode$Node" "step" "I") ∈ tw := tb1 190 rfl
theorem w1_192 : (Cond.lays "SensorNode$Node" "SensorNode$Node" "since" "I") ∈ tw := tb1 192 rfl
theorem w1_194 : (Cond.lays "SensorNode$Node" "SensorNode$Node" "size" "I") ∈ tw := tb1 194 rfl
theorem w1_196 : (Cond.lays "SensorNode$Node" "SensorNode$Node" "logStart" "I") ∈ tw := tb1 196 rfl
theorem w1_198 : (Cond.lays "SensorNode$Node" "SensorNode$Node" "guestStart" "I") ∈ tw := tb1 198 rfl
theorem w1_200 : (Cond.lays "SensorNode$Node" "SensorNode$Node" "strays" "I") ∈ tw := tb1 200 rfl
theorem w1_202 : (Cond.lays "SensorNode$Node" "SensorNode$Node" "hadPower" "Z") ∈ tw := tb1 202 rfl
theorem w1_205 : (Cond.classLink RX7 32 RX3) ∈ tw := tb1 205 rfl
theorem w1_206 : (Cond.instantiable RX3 6) ∈ tw := tb1 206 rfl
theorem w1_207 : (Cond.methodLink RX7 34 yX3_init) ∈ tw := tb1 207 rfl
theorem w1_208 : (Cond.instanceMethod yX3_init) ∈ tw := tb1 208 rfl
theorem w1_209 : (Cond.code yX3_init prog_5_method_1_code 2 (none : Option Jvm.ClassFile.FieldType)) ∈ tw := tb1 209 rfl
theorem w1_210 : (Cond.methodLink RX3 3 ⟨"java/lang/Object", "<init>", "()V"⟩) ∈ tw := tb1 210 rfl
theorem w1_211 : (Cond.classLink RX3 15 RX5) ∈ tw := tb1 211 rfl
theorem w1_213 : (Cond.classLink RX3 26 RX1) ∈ tw := tb1 213 rfl
theorem w1_214 : (Cond.methodLink RX3 28 yX1_init) ∈ tw := tb1 214 rfl
theorem w1_215 : (Cond.fieldLink "SensorNode$PlainMachine" 22 "SensorNode$PlainMachine" "plan" "LSensorNode$Plan;") ∈ tw := tb1 215 rfl
theorem w1_216 : (Cond.fieldLink "SensorNode$PlainMachine" 9 "SensorNode$PlainMachine" "store" "[I") ∈ tw := tb1 216 rfl
theorem w1_217 : (Cond.fieldLink "SensorNode$PlainMachine" 31 "SensorNode$PlainMachine" "guest" "LSensorNode$Guest;") ∈ tw := tb1 217 rfl
theorem w1_218 : (Cond.fieldLink "SensorNode$PlainMachine" 18 "SensorNode$PlainMachine" "radio" "LSensorNode$Radio;") ∈ tw := tb1 218 rfl
theorem w1_219 : (Cond.fieldLink "SensorNode$PlainMachine" 35 "SensorNode$PlainMachine" "ran" "Z") ∈ tw := tb1 219 rfl
theorem w1_220 : (Cond.fieldLink "SensorNode$PlainMachine" 39 "SensorNode$PlainMachine" "ending" "I") ∈ tw := tb1 220 rfl
theorem w1_221 : (Cond.laysFinal "SensorNode$PlainMachine" "SensorNode$PlainMachine" "plan" "LSensorNode$Plan;") ∈ tw := tb1 221 rfl
theorem w1_223 : (Cond.laysFinal "SensorNode$PlainMachine" "SensorNode$PlainMachine" "store" "[I") ∈ tw := tb1 223 rfl
theorem w1_225 : (Cond.laysFinal "SensorNode$PlainMachine" "SensorNode$PlainMachine" "guest" "LSensorNode$Guest;") ∈ tw := tb1 225 rfl
theorem w1_227 : (Cond.laysFinal "SensorNode$PlainMachine" "SensorNode$PlainMachine" "radio" "LSensorNode$Radio;") ∈ tw := tb1 227 rfl
theorem w1_229 : (Cond.lays "SensorNode$PlainMachine" "SensorNode$PlainMachine" "ran" "Z") ∈ tw := tb1 229 rfl
theorem w1_231 : (Cond.lays "SensorNode$PlainMachine" "SensorNode$PlainMachine" "ending" "I") ∈ tw := tb1 231 rfl
theorem w1_234 : (Cond.fieldLink "SensorNode" 10 "SensorNode" "tray" "LSensorNode$Tray;") ∈ tw := tb1 234 rfl
theorem w1_235 : (Cond.fieldLink "SensorNode" 19 "SensorNode" "plan" "LSensorNode$Plan;") ∈ tw := tb1 235 rfl
theorem w1_236 : (Cond.fieldLink "SensorNode" 28 "SensorNode" "node" "LSensorNode$Node;") ∈ tw := tb1 236 rfl
theorem w1_237 : (Cond.fieldLink "SensorNode" 35 "SensorNode" "plainMachine" "LSensorNode$PlainMachine;") ∈ tw := tb1 237 rfl
theorem w1_238 : (Cond.laysFinal "SensorNode" "SensorNode" "tray" "LSensorNode$Tray;") ∈ tw := tb1 238 rfl
theorem w2_0 : (Cond.laysFinal "SensorNode" "SensorNode" "plan" "LSensorNode$Plan;") ∈ tw := tb2 0 rfl
theorem w2_2 : (Cond.laysFinal "SensorNode" "SensorNode" "node" "LSensorNode$Node;") ∈ tw := tb2 2 rfl
theorem w2_4 : (Cond.laysFinal "SensorNode" "SensorNode" "plainMachine" "LSensorNode$PlainMachine;") ∈ tw := tb2 4 rfl
theorem w2_7 : (Cond.methodLink RL 13 yX7_feed) ∈ tw := tb2 7 rfl
theorem w2_8 : (Cond.instanceMethod yX7_feed) ∈ tw := tb2 8 rfl
theorem w2_9 : (Cond.selects RX7 yX7_feed yX7_feed) ∈ tw := tb2 9 rfl
theorem w2_10 : (Cond.code yX7_feed prog_1_method_2_code 6 (some .int)) ∈ tw := tb2 10 rfl
theorem w2_11 : (Cond.methodLink RX7 39 yX6_hasRoom) ∈ tw := tb2 11 rfl
theorem w2_12 : (Cond.instanceMethod yX6_hasRoom) ∈ tw := tb2 12 rfl
theorem w2_13 : (Cond.selects RX6 yX6_hasRoom yX6_hasRoom) ∈ tw := tb2 13 rfl
theorem w2_14 : (Cond.code yX6_hasRoom prog_8_method_2_code 1 (some .boolean)) ∈ tw := tb2 14 rfl
theorem w2_15 : (Cond.constant RX6 27 (65536)) ∈ tw := tb2 15 rfl
theorem w2_16 : (Cond.methodLink RX7 43 yX6_add) ∈ tw := tb2 16 rfl
theorem w2_17 : (Cond.instanceMethod yX6_add) ∈ tw := tb2 17 rfl
theorem w2_18 : (Cond.selects RX6 yX6_add yX6_add) ∈ tw := tb2 18 rfl
theorem w2_19 : (Cond.code yX6_add prog_8_method_4_code 3 (none : Option Jvm.ClassFile.FieldType)) ∈ tw := tb2 19 rfl
theorem w2_20 : (Cond.methodLink RX6 28 yX0_put) ∈ tw := tb2 20 rfl
theorem w2_21 : (Cond.instanceMethod yX0_put) ∈ tw := tb2 21 rfl
theorem w2_22 : (Cond.selects RX0 yX0_put yX0_put) ∈ tw := tb2 22 rfl
theorem w2_23 : (Cond.code yX0_put prog_2_method_3_code 5 (none : Option Jvm.ClassFile.FieldType)) ∈ tw := tb2 23 rfl
theorem w2_24 : (Cond.methodLink RX7 47 yX6_size) ∈ tw := tb2 24 rfl
theorem w2_25 : (Cond.instanceMethod yX6_size) ∈ tw := tb2 25 rfl
theorem w2_26 : (Cond.selects RX6 yX6_size yX6_size) ∈ tw := tb2 26 rfl
theorem w2_27 : (Cond.code yX6_size prog_8_method_3_code 1 (some .int)) ∈ tw := tb2 27 rfl
theorem w2_28 : (Cond.methodLink RL 18 yX7_end) ∈ tw := tb2 28 rfl
theorem w2_29 : (Cond.instanceMethod yX7_end) ∈ tw := tb2 29 rfl
theorem w2_30 : (Cond.selects RX7 yX7_end yX7_end) ∈ tw := tb2 30 rfl
theorem w2_31 : (Cond.code yX7_end prog_1_method_3_code 2 (some .boolean)) ∈ tw := tb2 31 rfl
theorem w2_32 : (Cond.methodLink RX7 51 yX6_shorten) ∈ tw := tb2 32 rfl
theorem w2_33 : (Cond.instanceMethod yX6_shorten) ∈ tw := tb2 33 rfl
theorem w2_34 : (Cond.selects RX6 yX6_shorten yX6_shorten) ∈ tw := tb2 34 rfl
theorem w2_35 : (Cond.code yX6_shorten prog_8_method_5_code 2 (some .boolean)) ∈ tw := tb2 35 rfl
theorem w2_36 : (Cond.methodLink RL 23 yX7_install) ∈ tw := tb2 36 rfl
theorem w2_37 : (Cond.instanceMethod yX7_install) ∈ tw := tb2 37 rfl
theorem w2_38 : (Cond.selects RX7 yX7_install yX7_install) ∈ tw := tb2 38 rfl
theorem w2_39 : (Cond.code yX7_install prog_1_method_4_code 7 (some .int)) ∈ tw := tb2 39 rfl
theorem w2_40 : (Cond.methodLink RX7 55 yX4_allows) ∈ tw := tb2 40 rfl
theorem w2_41 : (Cond.static yX4_allows) ∈ tw := tb2 41 rfl
theorem w2_42 : (Cond.code yX4_allows prog_6_method_2_code 4 (some .boolean)) ∈ tw := tb2 42 rfl
theorem w2_43 : (Cond.constant RX4 18 (65536)) ∈ tw := tb2 43 rfl
theorem w2_44 : (Cond.methodLink RX7 59 yX4_set) ∈ tw := tb2 44 rfl
theorem w2_45 : (Cond.instanceMethod yX4_set) ∈ tw := tb2 45 rfl
theorem w2_46 : (Cond.selects RX4 yX4_set yX4_set) ∈ tw := tb2 46 rfl
theorem w2_47 : (Cond.code yX4_set prog_6_method_3_code 6 (none : Option Jvm.ClassFile.FieldType)) ∈ tw := tb2 47 rfl
theorem w2_48 : (Cond.methodLink RX7 63 yX4_fill) ∈ tw := tb2 48 rfl
theorem w2_49 : (Cond.instanceMethod yX4_fill) ∈ tw := tb2 49 rfl
theorem w2_50 : (Cond.selects RX4 yX4_fill yX4_fill) ∈ tw := tb2 50 rfl
theorem w2_51 : (Cond.code yX4_fill prog_6_method_4_code 4 (none : Option Jvm.ClassFile.FieldType)) ∈ tw := tb2 51 rfl
theorem w2_52 : (Cond.methodLink RX4 42 yX6_get) ∈ tw := tb2 52 rfl
theorem w2_53 : (Cond.instanceMethod yX6_get) ∈ tw := tb2 53 rfl
theorem w2_54 : (Cond.selects RX6 yX6_get yX6_get) ∈ tw := tb2 54 rfl
theorem w2_55 : (Cond.code yX6_get prog_8_method_6_code 2 (some .int)) ∈ tw := tb2 55 rfl
theorem w2_56 : (Cond.methodLink RX6 32 yX0_get) ∈ tw := tb2 56 rfl
theorem w2_57 : (Cond.instanceMethod yX0_get) ∈ tw := tb2 57 rfl
theorem w2_58 : (Cond.selects RX0 yX0_get yX0_get) ∈ tw := tb2 58 rfl
theorem w2_59 : (Cond.code yX0_get prog_2_method_2_code 3 (some .int)) ∈ tw := tb2 59 rfl
theorem w2_60 : (Cond.methodLink RX7 67 yX2_makeNew) ∈ tw := tb2 60 rfl
theorem w2_61 : (Cond.instanceMethod yX2_makeNew) ∈ tw := tb2 61 rfl
theorem w2_62 : (Cond.selects RX2 yX2_makeNew yX2_makeNew) ∈ tw := tb2 62 rfl
theorem w2_63 : (Cond.code yX2_makeNew prog_4_method_2_code 2 (none : Option Jvm.ClassFile.FieldType)) ∈ tw := tb2 63 rfl
theorem w2_64 : (Cond.methodLink RX2 45 yX4_bufferWords) ∈ tw := tb2 64 rfl
theorem w2_65 : (Cond.instanceMethod yX4_bufferWords) ∈ tw := tb2 65 rfl
theorem w2_66 : (Cond.selects RX4 yX4_bufferWords yX4_bufferWords) ∈ tw := tb2 66 rfl
theorem w2_67 : (Cond.code yX4_bufferWords prog_6_method_8_code 1 (some .int)) ∈ tw := tb2 67 rfl
theorem w2_68 : (Cond.methodLink RX2 69 yX4_copyImage) ∈ tw := tb2 68 rfl
theorem w2_69 : (Cond.instanceMethod yX4_copyImage) ∈ tw := tb2 69 rfl
theorem w2_70 : (Cond.selects RX4 yX4_copyImage yX4_copyImage) ∈ tw := tb2 70 rfl
theorem w2_71 : (Cond.code yX4_copyImage prog_6_method_5_code 5 (none : Option Jvm.ClassFile.FieldType)) ∈ tw := tb2 71 rfl
theorem w2_72 : (Cond.methodLink RX2 73 yX1_setStoreStart) ∈ tw := tb2 72 rfl
theorem w2_73 : (Cond.instanceMethod yX1_setStoreStart) ∈ tw := tb2 73 rfl
theorem w2_74 : (Cond.selects RX1 yX1_setStoreStart yX1_setStoreStart) ∈ tw := tb2 74 rfl
theorem w2_75 : (Cond.code yX1_setStoreStart prog_3_method_2_code 2 (none : Option Jvm.ClassFile.FieldType)) ∈ tw := tb2 75 rfl
theorem w2_76 : (Cond.methodLink RX2 77 yX5_clear) ∈ tw := tb2 76 rfl
theorem w2_77 : (Cond.instanceMethod yX5_clear) ∈ tw := tb2 77 rfl
theorem w2_78 : (Cond.selects RX5 yX5_clear yX5_clear) ∈ tw := tb2 78 rfl
theorem w2_79 : (Cond.code yX5_clear prog_7_method_2_code 1 (none : Option Jvm.ClassFile.FieldType)) ∈ tw := tb2 79 rfl
theorem w2_80 : (Cond.methodLink RX7 70 yX3_forget) ∈ tw := tb2 80 rfl
theorem w2_81 : (Cond.instanceMethod yX3_forget) ∈ tw := tb2 81 rfl
theorem w2_82 : (Cond.selects RX3 yX3_forget yX3_forget) ∈ tw := tb2 82 rfl
theorem w2_83 : (Cond.code yX3_forget prog_5_method_2_code 1 (none : Option Jvm.ClassFile.FieldType)) ∈ tw := tb2 83 rfl
theorem w2_84 : (Cond.methodLink RX3 43 yX5_clear) ∈ tw := tb2 84 rfl
theorem w2_85 : (Cond.methodLink RL 27 yX7_sample) ∈ tw := tb2 85 rfl
theorem w2_86 : (Cond.instanceMethod yX7_sample) ∈ tw := tb2 86 rfl
theorem w2_87 : (Cond.selects RX7 yX7_sample yX7_sample) ∈ tw := tb2 87 rfl
theorem w2_88 : (Cond.code yX7_sample prog_1_method_5_code 2 (some .int)) ∈ tw := tb2 88 rfl
theorem w2_89 : (Cond.methodLink RX7 73 yX2_hadPower) ∈ tw := tb2 89 rfl
theorem w2_90 : (Cond.instanceMethod yX2_hadPower) ∈ tw := tb2 90 rfl
theorem w2_91 : (Cond.selects RX2 yX2_hadPower yX2_hadPower) ∈ tw := tb2 91 rfl
theorem w2_92 : (Cond.code yX2_hadPower prog_4_method_3_code 1 (some .boolean)) ∈ tw := tb2 92 rfl
theorem w2_93 : (Cond.methodLink RX7 76 yX4_addSample) ∈ tw := tb2 93 rfl
theorem w2_94 : (Cond.instanceMethod yX4_addSample) ∈ tw := tb2 94 rfl
theorem w2_95 : (Cond.selects RX4 yX4_addSample yX4_addSample) ∈ tw := tb2 95 rfl
theorem w2_96 : (Cond.code yX4_addSample prog_6_method_6_code 2 (some .int)) ∈ tw := tb2 96 rfl
theorem w2_97 : (Cond.methodLink RL 32 yX7_on) ∈ tw := tb2 97 rfl
theorem w2_98 : (Cond.instanceMethod yX7_on) ∈ tw := tb2 98 rfl
theorem w2_99 : (Cond.selects RX7 yX7_on yX7_on) ∈ tw := tb2 99 rfl
theorem w2_100 : (Cond.code yX7_on prog_1_method_6_code 1 (some .boolean)) ∈ tw := tb2 100 rfl
theorem w2_101 : (Cond.methodLink RX7 80 yX2_givePower) ∈ tw := tb2 101 rfl
theorem w2_102 : (Cond.instanceMethod yX2_givePower) ∈ tw := tb2 102 rfl
theorem w2_103 : (Cond.selects RX2 yX2_givePower yX2_givePower) ∈ tw := tb2 103 rfl
theorem w2_104 : (Cond.code yX2_givePower prog_4_method_5_code 3 (some .boolean)) ∈ tw := tb2 104 rfl
theorem w2_105 : (Cond.methodLink RX2 96 yX2_generation) ∈ tw := tb2 105 rfl
theorem w2_107 : (Cond.instanceMethod yX2_generation) ∈ tw := tb2 107 rfl
theorem w2_108 : (Cond.code yX2_generation prog_4_method_18_code 1 (some .int)) ∈ tw := tb2 108 rfl
theorem w2_109 : (Cond.constant RX2 113 (65535)) ∈ tw := tb2 109 rfl
theorem w2_110 : (Cond.methodLink RX2 99 yX2_bufferStart) ∈ tw := tb2 110 rfl
theorem w2_112 : (Cond.instanceMethod yX2_bufferStart) ∈ tw := tb2 112 rfl
theorem w2_113 : (Cond.code yX2_bufferStart prog_4_method_20_code 2 (some .int)) ∈ tw := tb2 113 rfl
theorem w2_114 : (Cond.methodLink RX2 103 yX2_stored) ∈ tw := tb2 114 rfl
theorem w2_115 : (Cond.instanceMethod yX2_stored) ∈ tw := tb2 115 rfl
theorem w2_116 : (Cond.selects RX2 yX2_stored yX2_stored) ∈ tw := tb2 116 rfl
theorem w2_117 : (Cond.code yX2_stored prog_4_method_25_code 2 (some .int)) ∈ tw := tb2 117 rfl
theorem w2_118 : (Cond.methodLink RX2 106 yX1_restore) ∈ tw := tb2 118 rfl
theorem w2_119 : (Cond.instanceMethod yX1_restore) ∈ tw := tb2 119 rfl
theorem w2_120 : (Cond.selects RX1 yX1_restore yX1_restore) ∈ tw := tb2 120 rfl
theorem w2_121 : (Cond.code yX1_restore prog_3_method_5_code 4 (none : Option Jvm.ClassFile.FieldType)) ∈ tw := tb2 121 rfl
theorem w2_122 : (Cond.methodLink RX2 110 yX2_meetLog) ∈ tw := tb2 122 rfl
theorem w2_124 : (Cond.instanceMethod yX2_meetLog) ∈ tw := tb2 124 rfl
theorem w2_125 : (Cond.code yX2_meetLog prog_4_method_6_code 2 (none : Option Jvm.ClassFile.FieldType)) ∈ tw := tb2 125 rfl
theorem w2_126 : (Cond.methodLink RX2 114 yX2_entriesThatCount) ∈ tw := tb2 126 rfl
theorem w2_128 : (Cond.instanceMethod yX2_entriesThatCount) ∈ tw := tb2 128 rfl
theorem w2_129 : (Cond.code yX2_entriesThatCount prog_4_method_19_code 1 (some .int)) ∈ tw := tb2 129 rfl
theorem w2_130 : (Cond.methodLink RL 37 yX7_cut) ∈ tw := tb2 130 rfl
theorem w2_131 : (Cond.instanceMethod yX7_cut) ∈ tw := tb2 131 rfl
theorem w2_132 : (Cond.selects RX7 yX7_cut yX7_cut) ∈ tw := tb2 132 rfl
theorem w2_133 : (Cond.code yX7_cut prog_1_method_7_code 1 (some .boolean)) ∈ tw := tb2 133 rfl
theorem w2_134 : (Cond.methodLink RX7 83 yX2_cutPower) ∈ tw := tb2 134 rfl
theorem w2_135 : (Cond.instanceMethod yX2_cutPower) ∈ tw := tb2 135 rfl
theorem w2_136 : (Cond.selects RX2 yX2_cutPower yX2_cutPower) ∈ tw := tb2 136 rfl
theorem w2_137 : (Cond.code yX2_cutPower prog_4_method_7_code 1 (some .boolean)) ∈ tw := tb2 137 rfl
theorem w2_138 : (Cond.methodLink RX2 117 yX2_hasPower) ∈ tw := tb2 138 rfl
theorem w2_140 : (Cond.instanceMethod yX2_hasPower) ∈ tw := tb2 140 rfl
theorem w2_141 : (Cond.code yX2_hasPower prog_4_method_4_code 1 (some .boolean)) ∈ tw := tb2 141 rfl
theorem w2_142 : (Cond.methodLink RL 41 yX7_go) ∈ tw := tb2 142 rfl
theorem w2_143 : (Cond.instanceMethod yX7_go) ∈ tw := tb2 143 rfl
theorem w2_144 : (Cond.selects RX7 yX7_go yX7_go) ∈ tw := tb2 144 rfl
theorem w2_145 : (Cond.code yX7_go prog_1_method_8_code 2 (some .int)) ∈ tw := tb2 145 rfl
theorem w2_146 : (Cond.methodLink RX7 86 yX2_act) ∈ tw := tb2 146 rfl
theorem w2_147 : (Cond.instanceMethod yX2_act) ∈ tw := tb2 147 rfl
theorem w2_148 : (Cond.selects RX2 yX2_act yX2_act) ∈ tw := tb2 148 rfl
theorem w2_149 : (Cond.code yX2_act prog_4_method_8_code 3 (some .int)) ∈ tw := tb2 149 rfl
theorem w2_150 : (Cond.methodLink RX2 121 yX2_choose) ∈ tw := tb2 150 rfl
theorem w2_152 : (Cond.instanceMethod yX2_choose) ∈ tw := tb2 152 rfl
theorem w2_153 : (Cond.code yX2_choose prog_4_method_9_code 2 (none : Option Jvm.ClassFile.FieldType)) ∈ tw := tb2 153 rfl
theorem w2_154 : (Cond.methodLink RX2 136 yX1_look) ∈ tw := tb2 154 rfl
theorem w2_155 : (Cond.instanceMethod yX1_look) ∈ tw := tb2 155 rfl
theorem w2_156 : (Cond.selects RX1 yX1_look yX1_look) ∈ tw := tb2 156 rfl
theorem w2_157 : (Cond.code yX1_look prog_3_method_6_code 8 (some .int)) ∈ tw := tb2 157 rfl
theorem w2_158 : (Cond.methodLink RX1 45 yX1_trapOfPlace) ∈ tw := tb2 158 rfl
theorem w2_160 : (Cond.instanceMethod yX1_trapOfPlace) ∈ tw := tb2 160 rfl
theorem w2_161 : (Cond.code yX1_trapOfPlace prog_3_method_15_code 3 (some .int)) ∈ tw := tb2 161 rfl
theorem w2_162 : (Cond.methodLink RX1 99 yX1_holds) ∈ tw := tb2 162 rfl
theorem w2_163 : (Cond.instanceMethod yX1_holds) ∈ tw := tb2 163 rfl
theorem w2_164 : (Cond.selects RX1 yX1_holds yX1_holds) ∈ tw := tb2 164 rfl
theorem w2_165 : (Cond.code yX1_holds prog_3_method_27_code 4 (some .boolean)) ∈ tw := tb2 165 rfl
theorem w2_166 : (Cond.constant RX1 117 (1073741824)) ∈ tw := tb2 166 rfl
theorem w2_167 : (Cond.methodLink RX1 49 yX1_wordAt) ∈ tw := tb2 167 rfl
theorem w2_169 : (Cond.instanceMethod yX1_wordAt) ∈ tw := tb2 169 rfl
theorem w2_170 : (Cond.code yX1_wordAt prog_3_method_29_code 3 (some .int)) ∈ tw := tb2 170 rfl
theorem w2_171 : (Cond.methodLink RX1 92 yX1_inRam) ∈ tw := tb2 171 rfl
theorem w2_172 : (Cond.instanceMethod yX1_inRam) ∈ tw := tb2 172 rfl
theorem w2_173 : (Cond.selects RX1 yX1_inRam yX1_inRam) ∈ tw := tb2 173 rfl
theorem w2_174 : (Cond.code yX1_inRam prog_3_method_26_code 2 (some .boolean)) ∈ tw := tb2 174 rfl
theorem w2_175 : (Cond.methodLink RX1 52 yX1_give) ∈ tw := tb2 175 rfl
theorem w2_177 : (Cond.instanceMethod yX1_give) ∈ tw := tb2 177 rfl
theorem w2_178 : (Cond.code yX1_give prog_3_method_10_code 2 (some .int)) ∈ tw := tb2 178 rfl
theorem w2_179 : (Cond.methodLink RX1 55 yX1_jumpOffset) ∈ tw := tb2 179 rfl
theorem w2_180 : (Cond.static yX1_jumpOffset) ∈ tw := tb2 180 rfl
theorem w2_181 : (Cond.code yX1_jumpOffset prog_3_method_7_code 1 (some .int)) ∈ tw := tb2 181 rfl
theorem w2_182 : (Cond.constant RX1 85 (1044480)) ∈ tw := tb2 182 rfl
theorem w2_183 : (Cond.methodLink RX1 58 yX1_jump) ∈ tw := tb2 183 rfl
theorem w2_185 : (Cond.instanceMethod yX1_jump) ∈ tw := tb2 185 rfl
theorem w2_186 : (Cond.code yX1_jump prog_3_method_11_code 3 (some .int)) ∈ tw := tb2 186 rfl
theorem w2_187 : (Cond.methodLink RX1 61 yX1_branchOffset) ∈ tw := tb2 187 rfl
theorem w2_188 : (Cond.static yX1_branchOffset) ∈ tw := tb2 188 rfl
theorem w2_189 : (Cond.code yX1_branchOffset prog_3_method_8_code 1 (some .int)) ∈ tw := tb2 189 rfl
theorem w2_190 : (Cond.methodLink RX1 64 yX1_branch) ∈ tw := tb2 190 rfl
theorem w2_192 : (Cond.instanceMethod yX1_branch) ∈ tw := tb2 192 rfl
theorem w2_193 : (Cond.code yX1_branch prog_3_method_12_code 7 (some .int)) ∈ tw := tb2 193 rfl
theorem w2_194 : (Cond.methodLink RX1 87 yX1_below) ∈ tw := tb2 194 rfl
theorem w2_195 : (Cond.static yX1_below) ∈ tw := tb2 195 rfl
theorem w2_196 : (Cond.code yX1_below prog_3_method_9_code 2 (some .boolean)) ∈ tw := tb2 196 rfl
theorem w2_197 : (Cond.constant RX1 86 (-2147483648)) ∈ tw := tb2 197 rfl
theorem w2_198 : (Cond.methodLink RX1 68 yX1_load) ∈ tw := tb2 198 rfl
theorem w2_200 : (Cond.instanceMethod yX1_load) ∈ tw := tb2 200 rfl
theorem w2_201 : (Cond.code yX1_load prog_3_method_13_code 5 (some .int)) ∈ tw := tb2 201 rfl
theorem w2_202 : (Cond.constant RX1 91 (65535)) ∈ tw := tb2 202 rfl
theorem w2_203 : (Cond.methodLink RX1 71 yX1_storeAt) ∈ tw := tb2 203 rfl
theorem w2_205 : (Cond.instanceMethod yX1_storeAt) ∈ tw := tb2 205 rfl
theorem w2_206 : (Cond.code yX1_storeAt prog_3_method_14_code 7 (some .int)) ∈ tw := tb2 206 rfl
theorem w2_207 : (Cond.methodLink RX1 75 yX1_withNumber) ∈ tw := tb2 207 rfl
theorem w2_209 : (Cond.instanceMethod yX1_withNumber) ∈ tw := tb2 209 rfl
theorem w2_210 : (Cond.code yX1_withNumber prog_3_method_16_code 5 (some .int)) ∈ tw := tb2 210 rfl
theorem w2_211 : (Cond.methodLink RX1 102 yX1_reckon) ∈ tw := tb2 211 rfl
theorem w2_212 : (Cond.static yX1_reckon) ∈ tw := tb2 212 rfl
theorem w2_213 : (Cond.code yX1_reckon prog_3_method_18_code 3 (some .int)) ∈ tw := tb2 213 rfl
theorem w2_214 : (Cond.methodLink RX1 78 yX1_withRegister) ∈ tw := tb2 214 rfl
theorem w2_216 : (Cond.instanceMethod yX1_withRegister) ∈ tw := tb2 216 rfl
theorem w2_217 : (Cond.code yX1_withRegister prog_3_method_17_code 5 (some .int)) ∈ tw := tb2 217 rfl
theorem w2_218 : (Cond.methodLink RX1 81 yX1_call) ∈ tw := tb2 218 rfl
theorem w2_220 : (Cond.instanceMethod yX1_call) ∈ tw := tb2 220 rfl
theorem w2_221 : (Cond.code yX1_call prog_3_method_19_code 1 (some .int)) ∈ tw := tb2 221 rfl
theorem w2_222 : (Cond.methodLink RX1 105 yX4_sampleAt) ∈ tw := tb2 222 rfl
theorem w2_223 : (Cond.instanceMethod yX4_sampleAt) ∈ tw := tb2 223 rfl
theorem w2_224 : (Cond.selects RX4 yX4_sampleAt yX4_sampleAt) ∈ tw := tb2 224 rfl
theorem w2_225 : (Cond.code yX4_sampleAt prog_6_method_7_code 2 (some .int)) ∈ tw := tb2 225 rfl
theorem w2_226 : (Cond.methodLink RX1 110 yX1_callToSend) ∈ tw := tb2 226 rfl
theorem w2_228 : (Cond.instanceMethod yX1_callToSend) ∈ tw := tb2 228 rfl
theorem w2_229 : (Cond.code yX1_callToSend prog_3_method_20_code 2 (some .int)) ∈ tw := tb2 229 rfl
theorem w2_230 : (Cond.methodLink RX2 139 yX2_needsCheckpoint) ∈ tw := tb2 230 rfl
theorem w2_232 : (Cond.instanceMethod yX2_needsCheckpoint) ∈ tw := tb2 232 rfl
theorem w2_233 : (Cond.code yX2_needsCheckpoint prog_4_method_10_code 1 (some .boolean)) ∈ tw := tb2 233 rfl
theorem w2_234 : (Cond.methodLink RX2 142 yX1_kind) ∈ tw := tb2 234 rfl
theorem w2_235 : (Cond.instanceMethod yX1_kind) ∈ tw := tb2 235 rfl
theorem w2_236 : (Cond.selects RX1 yX1_kind yX1_kind) ∈ tw := tb2 236 rfl
theorem w2_237 : (Cond.code yX1_kind prog_3_method_22_code 1 (some .int)) ∈ tw := tb2 237 rfl
theorem w2_238 : (Cond.methodLink RX2 145 yX2_needsEntry) ∈ tw := tb2 238 rfl
theorem w3_0 : (Cond.instanceMethod yX2_needsEntry) ∈ tw := tb3 0 rfl
theorem w3_1 : (Cond.code yX2_needsEntry prog_4_method_11_code 2 (some .boolean)) ∈ tw := tb3 1 rfl
theorem w3_2 : (Cond.methodLink RX2 148 yX1_cellWritten) ∈ tw := tb3 2 rfl
theorem w3_3 : (Cond.instanceMethod yX1_cellWritten) ∈ tw := tb3 3 rfl
theorem w3_4 : (Cond.selects RX1 yX1_cellWritten yX1_cellWritten) ∈ tw := tb3 4 rfl
theorem w3_5 : (Cond.code yX1_cellWritten prog_3_method_23_code 1 (some .int)) ∈ tw := tb3 5 rfl
theorem w3_6 : (Cond.methodLink RX2 124 yX2_boot) ∈ tw := tb3 6 rfl
theorem w3_8 : (Cond.instanceMethod yX2_boot) ∈ tw := tb3 8 rfl
theorem w3_9 : (Cond.code yX2_boot prog_4_method_12_code 4 (none : Option Jvm.ClassFile.FieldType)) ∈ tw := tb3 9 rfl
theorem w3_10 : (Cond.methodLink RX2 151 yX2_write) ∈ tw := tb3 10 rfl
theorem w3_12 : (Cond.instanceMethod yX2_write) ∈ tw := tb3 12 rfl
theorem w3_13 : (Cond.code yX2_write prog_4_method_17_code 3 (none : Option Jvm.ClassFile.FieldType)) ∈ tw := tb3 13 rfl
theorem w3_14 : (Cond.methodLink RX2 127 yX2_checkpoint) ∈ tw := tb3 14 rfl
theorem w3_16 : (Cond.instanceMethod yX2_checkpoint) ∈ tw := tb3 16 rfl
theorem w3_17 : (Cond.code yX2_checkpoint prog_4_method_13_code 3 (none : Option Jvm.ClassFile.FieldType)) ∈ tw := tb3 17 rfl
theorem w3_18 : (Cond.methodLink RX2 154 yX1_saved) ∈ tw := tb3 18 rfl
theorem w3_19 : (Cond.instanceMethod yX1_saved) ∈ tw := tb3 19 rfl
theorem w3_20 : (Cond.selects RX1 yX1_saved yX1_saved) ∈ tw := tb3 20 rfl
theorem w3_21 : (Cond.code yX1_saved prog_3_method_4_code 3 (some .int)) ∈ tw := tb3 21 rfl
theorem w3_22 : (Cond.methodLink RX1 29 yX1_owned) ∈ tw := tb3 22 rfl
theorem w3_23 : (Cond.instanceMethod yX1_owned) ∈ tw := tb3 23 rfl
theorem w3_24 : (Cond.selects RX1 yX1_owned yX1_owned) ∈ tw := tb3 24 rfl
theorem w3_25 : (Cond.code yX1_owned prog_3_method_3_code 2 (some .int)) ∈ tw := tb3 25 rfl
theorem w3_26 : (Cond.methodLink RX2 130 yX2_instruct) ∈ tw := tb3 26 rfl
theorem w3_28 : (Cond.instanceMethod yX2_instruct) ∈ tw := tb3 28 rfl
theorem w3_29 : (Cond.code yX2_instruct prog_4_method_14_code 3 (none : Option Jvm.ClassFile.FieldType)) ∈ tw := tb3 29 rfl
theorem w3_30 : (Cond.methodLink RX2 157 yX1_owned) ∈ tw := tb3 30 rfl
theorem w3_31 : (Cond.methodLink RX2 160 yX5_send) ∈ tw := tb3 31 rfl
theorem w3_32 : (Cond.instanceMethod yX5_send) ∈ tw := tb3 32 rfl
theorem w3_33 : (Cond.selects RX5 yX5_send yX5_send) ∈ tw := tb3 33 rfl
theorem w3_34 : (Cond.code yX5_send prog_7_method_3_code 6 (none : Option Jvm.ClassFile.FieldType)) ∈ tw := tb3 34 rfl
theorem w3_35 : (Cond.methodLink RX5 37 yX1_sendLength) ∈ tw := tb3 35 rfl
theorem w3_36 : (Cond.instanceMethod yX1_sendLength) ∈ tw := tb3 36 rfl
theorem w3_37 : (Cond.selects RX1 yX1_sendLength yX1_sendLength) ∈ tw := tb3 37 rfl
theorem w3_38 : (Cond.code yX1_sendLength prog_3_method_24_code 1 (some .int)) ∈ tw := tb3 38 rfl
theorem w3_39 : (Cond.methodLink RX5 43 yX1_sendPlace) ∈ tw := tb3 39 rfl
theorem w3_40 : (Cond.instanceMethod yX1_sendPlace) ∈ tw := tb3 40 rfl
theorem w3_41 : (Cond.selects RX1 yX1_sendPlace yX1_sendPlace) ∈ tw := tb3 41 rfl
theorem w3_42 : (Cond.code yX1_sendPlace prog_3_method_25_code 1 (some .int)) ∈ tw := tb3 42 rfl
theorem w3_43 : (Cond.methodLink RX5 46 yX1_byteAt) ∈ tw := tb3 43 rfl
theorem w3_44 : (Cond.instanceMethod yX1_byteAt) ∈ tw := tb3 44 rfl
theorem w3_45 : (Cond.selects RX1 yX1_byteAt yX1_byteAt) ∈ tw := tb3 45 rfl
theorem w3_46 : (Cond.code yX1_byteAt prog_3_method_28_code 2 (some .int)) ∈ tw := tb3 46 rfl
theorem w3_47 : (Cond.methodLink RX5 50 yX0_put) ∈ tw := tb3 47 rfl
theorem w3_48 : (Cond.methodLink RX2 164 yX2_log) ∈ tw := tb3 48 rfl
theorem w3_50 : (Cond.instanceMethod yX2_log) ∈ tw := tb3 50 rfl
theorem w3_51 : (Cond.code yX2_log prog_4_method_15_code 3 (none : Option Jvm.ClassFile.FieldType)) ∈ tw := tb3 51 rfl
theorem w3_52 : (Cond.methodLink RX2 167 yX2_finish) ∈ tw := tb3 52 rfl
theorem w3_54 : (Cond.instanceMethod yX2_finish) ∈ tw := tb3 54 rfl
theorem w3_55 : (Cond.code yX2_finish prog_4_method_16_code 1 (none : Option Jvm.ClassFile.FieldType)) ∈ tw := tb3 55 rfl
theorem w3_56 : (Cond.methodLink RX2 170 yX5_newest) ∈ tw := tb3 56 rfl
theorem w3_57 : (Cond.instanceMethod yX5_newest) ∈ tw := tb3 57 rfl
theorem w3_58 : (Cond.selects RX5 yX5_newest yX5_newest) ∈ tw := tb3 58 rfl
theorem w3_59 : (Cond.code yX5_newest prog_7_method_6_code 1 (some .int)) ∈ tw := tb3 59 rfl
theorem w3_60 : (Cond.methodLink RX2 173 yX1_finish) ∈ tw := tb3 60 rfl
theorem w3_61 : (Cond.instanceMethod yX1_finish) ∈ tw := tb3 61 rfl
theorem w3_62 : (Cond.selects RX1 yX1_finish yX1_finish) ∈ tw := tb3 62 rfl
theorem w3_63 : (Cond.code yX1_finish prog_3_method_21_code 1 (none : Option Jvm.ClassFile.FieldType)) ∈ tw := tb3 63 rfl
theorem w3_64 : (Cond.methodLink RX1 113 yX1_putWord) ∈ tw := tb3 64 rfl
theorem w3_66 : (Cond.instanceMethod yX1_putWord) ∈ tw := tb3 66 rfl
theorem w3_67 : (Cond.code yX1_putWord prog_3_method_30_code 4 (none : Option Jvm.ClassFile.FieldType)) ∈ tw := tb3 67 rfl
theorem w3_68 : (Cond.methodLink RL 45 yX7_state) ∈ tw := tb3 68 rfl
theorem w3_69 : (Cond.instanceMethod yX7_state) ∈ tw := tb3 69 rfl
theorem w3_70 : (Cond.selects RX7 yX7_state yX7_state) ∈ tw := tb3 70 rfl
theorem w3_71 : (Cond.code yX7_state prog_1_method_9_code 1 (some .int)) ∈ tw := tb3 71 rfl
theorem w3_72 : (Cond.methodLink RX7 89 yX2_condition) ∈ tw := tb3 72 rfl
theorem w3_73 : (Cond.instanceMethod yX2_condition) ∈ tw := tb3 73 rfl
theorem w3_74 : (Cond.selects RX2 yX2_condition yX2_condition) ∈ tw := tb3 74 rfl
theorem w3_75 : (Cond.code yX2_condition prog_4_method_21_code 1 (some .int)) ∈ tw := tb3 75 rfl
theorem w3_76 : (Cond.methodLink RL 50 yX7_register) ∈ tw := tb3 76 rfl
theorem w3_77 : (Cond.instanceMethod yX7_register) ∈ tw := tb3 77 rfl
theorem w3_78 : (Cond.selects RX7 yX7_register yX7_register) ∈ tw := tb3 78 rfl
theorem w3_79 : (Cond.code yX7_register prog_1_method_10_code 2 (some .int)) ∈ tw := tb3 79 rfl
theorem w3_80 : (Cond.methodLink RX7 92 yX2_owned) ∈ tw := tb3 80 rfl
theorem w3_81 : (Cond.instanceMethod yX2_owned) ∈ tw := tb3 81 rfl
theorem w3_82 : (Cond.selects RX2 yX2_owned yX2_owned) ∈ tw := tb3 82 rfl
theorem w3_83 : (Cond.code yX2_owned prog_4_method_22_code 2 (some .int)) ∈ tw := tb3 83 rfl
theorem w3_84 : (Cond.methodLink RL 54 yX7_ram) ∈ tw := tb3 84 rfl
theorem w3_85 : (Cond.instanceMethod yX7_ram) ∈ tw := tb3 85 rfl
theorem w3_86 : (Cond.selects RX7 yX7_ram yX7_ram) ∈ tw := tb3 86 rfl
theorem w3_87 : (Cond.code yX7_ram prog_1_method_11_code 2 (some .int)) ∈ tw := tb3 87 rfl
theorem w3_88 : (Cond.methodLink RX7 95 yX2_ramByte) ∈ tw := tb3 88 rfl
theorem w3_89 : (Cond.instanceMethod yX2_ramByte) ∈ tw := tb3 89 rfl
theorem w3_90 : (Cond.selects RX2 yX2_ramByte yX2_ramByte) ∈ tw := tb3 90 rfl
theorem w3_91 : (Cond.code yX2_ramByte prog_4_method_23_code 2 (some .int)) ∈ tw := tb3 91 rfl
theorem w3_92 : (Cond.methodLink RX2 174 yX1_inRam) ∈ tw := tb3 92 rfl
theorem w3_93 : (Cond.methodLink RX2 178 yX1_byteAt) ∈ tw := tb3 93 rfl
theorem w3_94 : (Cond.methodLink RL 58 yX7_words) ∈ tw := tb3 94 rfl
theorem w3_95 : (Cond.instanceMethod yX7_words) ∈ tw := tb3 95 rfl
theorem w3_96 : (Cond.selects RX7 yX7_words yX7_words) ∈ tw := tb3 96 rfl
theorem w3_97 : (Cond.code yX7_words prog_1_method_12_code 1 (some .int)) ∈ tw := tb3 97 rfl
theorem w3_98 : (Cond.methodLink RX7 98 yX2_size) ∈ tw := tb3 98 rfl
theorem w3_99 : (Cond.instanceMethod yX2_size) ∈ tw := tb3 99 rfl
theorem w3_100 : (Cond.selects RX2 yX2_size yX2_size) ∈ tw := tb3 100 rfl
theorem w3_101 : (Cond.code yX2_size prog_4_method_24_code 1 (some .int)) ∈ tw := tb3 101 rfl
theorem w3_102 : (Cond.methodLink RL 62 yX7_word) ∈ tw := tb3 102 rfl
theorem w3_103 : (Cond.instanceMethod yX7_word) ∈ tw := tb3 103 rfl
theorem w3_104 : (Cond.selects RX7 yX7_word yX7_word) ∈ tw := tb3 104 rfl
theorem w3_105 : (Cond.code yX7_word prog_1_method_13_code 2 (some .int)) ∈ tw := tb3 105 rfl
theorem w3_106 : (Cond.methodLink RX7 99 yX2_stored) ∈ tw := tb3 106 rfl
theorem w3_107 : (Cond.methodLink RL 66 yX7_frames) ∈ tw := tb3 107 rfl
theorem w3_108 : (Cond.instanceMethod yX7_frames) ∈ tw := tb3 108 rfl
theorem w3_109 : (Cond.selects RX7 yX7_frames yX7_frames) ∈ tw := tb3 109 rfl
theorem w3_110 : (Cond.code yX7_frames prog_1_method_14_code 1 (some .int)) ∈ tw := tb3 110 rfl
theorem w3_111 : (Cond.methodLink RX7 102 yX2_radio) ∈ tw := tb3 111 rfl
theorem w3_112 : (Cond.instanceMethod yX2_radio) ∈ tw := tb3 112 rfl
theorem w3_113 : (Cond.selects RX2 yX2_radio yX2_radio) ∈ tw := tb3 113 rfl
theorem w3_114 : (Cond.code yX2_radio prog_4_method_26_code 1 (some (.object RX5))) ∈ tw := tb3 114 rfl
theorem w3_115 : (Cond.methodLink RX7 106 yX5_total) ∈ tw := tb3 115 rfl
theorem w3_116 : (Cond.instanceMethod yX5_total) ∈ tw := tb3 116 rfl
theorem w3_117 : (Cond.selects RX5 yX5_total yX5_total) ∈ tw := tb3 117 rfl
theorem w3_118 : (Cond.code yX5_total prog_7_method_5_code 1 (some .int)) ∈ tw := tb3 118 rfl
theorem w3_119 : (Cond.methodLink RL 70 yX7_frame) ∈ tw := tb3 119 rfl
theorem w3_120 : (Cond.instanceMethod yX7_frame) ∈ tw := tb3 120 rfl
theorem w3_121 : (Cond.selects RX7 yX7_frame yX7_frame) ∈ tw := tb3 121 rfl
theorem w3_122 : (Cond.code yX7_frame prog_1_method_15_code 3 (some .int)) ∈ tw := tb3 122 rfl
theorem w3_123 : (Cond.methodLink RX7 111 yX5_number) ∈ tw := tb3 123 rfl
theorem w3_124 : (Cond.instanceMethod yX5_number) ∈ tw := tb3 124 rfl
theorem w3_125 : (Cond.selects RX5 yX5_number yX5_number) ∈ tw := tb3 125 rfl
theorem w3_126 : (Cond.code yX5_number prog_7_method_7_code 2 (some .int)) ∈ tw := tb3 126 rfl
theorem w3_127 : (Cond.methodLink RX5 54 yX5_keeps) ∈ tw := tb3 127 rfl
theorem w3_129 : (Cond.instanceMethod yX5_keeps) ∈ tw := tb3 129 rfl
theorem w3_130 : (Cond.code yX5_keeps prog_7_method_4_code 2 (some .boolean)) ∈ tw := tb3 130 rfl
theorem w3_131 : (Cond.methodLink RX7 114 yX5_length) ∈ tw := tb3 131 rfl
theorem w3_132 : (Cond.instanceMethod yX5_length) ∈ tw := tb3 132 rfl
theorem w3_133 : (Cond.selects RX5 yX5_length yX5_length) ∈ tw := tb3 133 rfl
theorem w3_134 : (Cond.code yX5_length prog_7_method_8_code 2 (some .int)) ∈ tw := tb3 134 rfl
theorem w3_135 : (Cond.methodLink RX7 117 yX5_cutsBefore) ∈ tw := tb3 135 rfl
theorem w3_136 : (Cond.instanceMethod yX5_cutsBefore) ∈ tw := tb3 136 rfl
theorem w3_137 : (Cond.selects RX5 yX5_cutsBefore yX5_cutsBefore) ∈ tw := tb3 137 rfl
theorem w3_138 : (Cond.code yX5_cutsBefore prog_7_method_9_code 2 (some .int)) ∈ tw := tb3 138 rfl
theorem w3_139 : (Cond.methodLink RL 75 yX7_heard) ∈ tw := tb3 139 rfl
theorem w3_140 : (Cond.instanceMethod yX7_heard) ∈ tw := tb3 140 rfl
theorem w3_141 : (Cond.selects RX7 yX7_heard yX7_heard) ∈ tw := tb3 141 rfl
theorem w3_142 : (Cond.code yX7_heard prog_1_method_16_code 3 (some .int)) ∈ tw := tb3 142 rfl
theorem w3_143 : (Cond.methodLink RX7 120 yX5_byteOf) ∈ tw := tb3 143 rfl
theorem w3_144 : (Cond.instanceMethod yX5_byteOf) ∈ tw := tb3 144 rfl
theorem w3_145 : (Cond.selects RX5 yX5_byteOf yX5_byteOf) ∈ tw := tb3 145 rfl
theorem w3_146 : (Cond.code yX5_byteOf prog_7_method_10_code 3 (some .int)) ∈ tw := tb3 146 rfl
theorem w3_147 : (Cond.methodLink RX5 58 yX5_length) ∈ tw := tb3 147 rfl
theorem w3_148 : (Cond.methodLink RX5 61 yX0_get) ∈ tw := tb3 148 rfl
theorem w3_149 : (Cond.methodLink RL 79 yX7_count) ∈ tw := tb3 149 rfl
theorem w3_150 : (Cond.instanceMethod yX7_count) ∈ tw := tb3 150 rfl
theorem w3_151 : (Cond.selects RX7 yX7_count yX7_count) ∈ tw := tb3 151 rfl
theorem w3_152 : (Cond.code yX7_count prog_1_method_17_code 2 (some .int)) ∈ tw := tb3 152 rfl
theorem w3_153 : (Cond.methodLink RX7 124 yX2_counted) ∈ tw := tb3 153 rfl
theorem w3_154 : (Cond.instanceMethod yX2_counted) ∈ tw := tb3 154 rfl
theorem w3_155 : (Cond.selects RX2 yX2_counted yX2_counted) ∈ tw := tb3 155 rfl
theorem w3_156 : (Cond.code yX2_counted prog_4_method_27_code 2 (some .int)) ∈ tw := tb3 156 rfl
theorem w3_157 : (Cond.methodLink RL 83 yX7_plain) ∈ tw := tb3 157 rfl
theorem w3_158 : (Cond.instanceMethod yX7_plain) ∈ tw := tb3 158 rfl
theorem w3_159 : (Cond.selects RX7 yX7_plain yX7_plain) ∈ tw := tb3 159 rfl
theorem w3_160 : (Cond.code yX7_plain prog_1_method_18_code 2 (some .int)) ∈ tw := tb3 160 rfl
theorem w3_161 : (Cond.methodLink RX7 131 yX3_run) ∈ tw := tb3 161 rfl
theorem w3_162 : (Cond.instanceMethod yX3_run) ∈ tw := tb3 162 rfl
theorem w3_163 : (Cond.selects RX3 yX3_run yX3_run) ∈ tw := tb3 163 rfl
theorem w3_164 : (Cond.code yX3_run prog_5_method_3_code 3 (some .int)) ∈ tw := tb3 164 rfl
theorem w3_165 : (Cond.methodLink RX3 46 yX3_begin) ∈ tw := tb3 165 rfl
theorem w3_167 : (Cond.instanceMethod yX3_begin) ∈ tw := tb3 167 rfl
theorem w3_168 : (Cond.code yX3_begin prog_5_method_4_code 2 (none : Option Jvm.ClassFile.FieldType)) ∈ tw := tb3 168 rfl
theorem w3_169 : (Cond.methodLink RX3 67 yX3_forget) ∈ tw := tb3 169 rfl
theorem w3_170 : (Cond.methodLink RX3 70 yX4_bufferWords) ∈ tw := tb3 170 rfl
theorem w3_171 : (Cond.methodLink RX3 78 yX1_restore) ∈ tw := tb3 171 rfl
theorem w3_172 : (Cond.methodLink RX3 82 yX4_copyImage) ∈ tw := tb3 172 rfl
theorem w3_173 : (Cond.methodLink RX3 64 yX1_look) ∈ tw := tb3 173 rfl
theorem w3_174 : (Cond.methodLink RX3 49 yX1_kind) ∈ tw := tb3 174 rfl
theorem w3_175 : (Cond.methodLink RX3 53 yX1_owned) ∈ tw := tb3 175 rfl
theorem w3_176 : (Cond.methodLink RX3 57 yX5_send) ∈ tw := tb3 176 rfl
theorem w3_177 : (Cond.methodLink RX3 61 yX1_finish) ∈ tw := tb3 177 rfl
theorem w3_178 : (Cond.methodLink RL 87 yX7_plainly) ∈ tw := tb3 178 rfl
theorem w3_179 : (Cond.instanceMethod yX7_plainly) ∈ tw := tb3 179 rfl
theorem w3_180 : (Cond.selects RX7 yX7_plainly yX7_plainly) ∈ tw := tb3 180 rfl
theorem w3_181 : (Cond.code yX7_plainly prog_1_method_19_code 2 (some .int)) ∈ tw := tb3 181 rfl
theorem w3_182 : (Cond.methodLink RX7 134 yX3_owned) ∈ tw := tb3 182 rfl
theorem w3_183 : (Cond.instanceMethod yX3_owned) ∈ tw := tb3 183 rfl
theorem w3_184 : (Cond.selects RX3 yX3_owned yX3_owned) ∈ tw := tb3 184 rfl
theorem w3_185 : (Cond.code yX3_owned prog_5_method_5_code 2 (some .int)) ∈ tw := tb3 185 rfl
theorem w3_186 : (Cond.methodLink RL 91 yX7_plainByte) ∈ tw := tb3 186 rfl
theorem w3_187 : (Cond.instanceMethod yX7_plainByte) ∈ tw := tb3 187 rfl
theorem w3_188 : (Cond.selects RX7 yX7_plainByte yX7_plainByte) ∈ tw := tb3 188 rfl
theorem w3_189 : (Cond.code yX7_plainByte prog_1_method_20_code 2 (some .int)) ∈ tw := tb3 189 rfl
theorem w3_190 : (Cond.methodLink RX7 135 yX3_memoryByte) ∈ tw := tb3 190 rfl
theorem w3_191 : (Cond.instanceMethod yX3_memoryByte) ∈ tw := tb3 191 rfl
theorem w3_192 : (Cond.selects RX3 yX3_memoryByte yX3_memoryByte) ∈ tw := tb3 192 rfl
theorem w3_193 : (Cond.code yX3_memoryByte prog_5_method_6_code 2 (some .int)) ∈ tw := tb3 193 rfl
theorem w3_194 : (Cond.methodLink RX3 86 yX1_holds) ∈ tw := tb3 194 rfl
theorem w3_195 : (Cond.methodLink RX3 90 yX1_byteAt) ∈ tw := tb3 195 rfl
theorem w3_196 : (Cond.methodLink RL 95 yX7_plainFrame) ∈ tw := tb3 196 rfl
theorem w3_197 : (Cond.instanceMethod yX7_plainFrame) ∈ tw := tb3 197 rfl
theorem w3_198 : (Cond.selects RX7 yX7_plainFrame yX7_plainFrame) ∈ tw := tb3 198 rfl
theorem w3_199 : (Cond.code yX7_plainFrame prog_1_method_21_code 2 (some .int)) ∈ tw := tb3 199 rfl
theorem w3_200 : (Cond.methodLink RX7 138 yX3_radio) ∈ tw := tb3 200 rfl
theorem w3_201 : (Cond.instanceMethod yX3_radio) ∈ tw := tb3 201 rfl
theorem w3_202 : (Cond.selects RX3 yX3_radio yX3_radio) ∈ tw := tb3 202 rfl
theorem w3_203 : (Cond.code yX3_radio prog_5_method_7_code 1 (some (.object RX5))) ∈ tw := tb3 203 rfl
theorem w3_204 : (Cond.methodLink RL 99 yX7_plainHeard) ∈ tw := tb3 204 rfl
theorem w3_205 : (Cond.instanceMethod yX7_plainHeard) ∈ tw := tb3 205 rfl
theorem w3_206 : (Cond.selects RX7 yX7_plainHeard yX7_plainHeard) ∈ tw := tb3 206 rfl
theorem w3_207 : (Cond.code yX7_plainHeard prog_1_method_22_code 3 (some .int)) ∈ tw := tb3 207 rfl
theorem w3_208 : (Cond.methodLink RL 103 yX7_strays) ∈ tw := tb3 208 rfl
theorem w3_209 : (Cond.instanceMethod yX7_strays) ∈ tw := tb3 209 rfl
theorem w3_210 : (Cond.selects RX7 yX7_strays yX7_strays) ∈ tw := tb3 210 rfl
theorem w3_211 : (Cond.code yX7_strays prog_1_method_23_code 1 (some .int)) ∈ tw := tb3 211 rfl
theorem w3_212 : (Cond.methodLink RX7 139 yX2_strayed) ∈ tw := tb3 212 rfl
theorem w3_213 : (Cond.instanceMethod yX2_strayed) ∈ tw := tb3 213 rfl
theorem w3_214 : (Cond.selects RX2 yX2_strayed yX2_strayed) ∈ tw := tb3 214 rfl
theorem w3_215 : (Cond.code yX2_strayed prog_4_method_28_code 1 (some .int)) ∈ tw := tb3 215 rfl
theorem w3_216 : (Cond.classLink RL 10 RX10) ∈ tw := tb3 216 rfl
theorem w3_217 : (Cond.instantiable RX10 36) ∈ tw := tb3 217 rfl
theorem w3_218 : (Cond.methodLink RL 12 yX10_init) ∈ tw := tb3 218 rfl
theorem w3_219 : (Cond.instanceMethod yX10_init) ∈ tw := tb3 219 rfl
theorem w3_220 : (Cond.code yX10_init prog_10_method_1_code 1 (none : Option Jvm.ClassFile.FieldType)) ∈ tw := tb3 220 rfl
theorem w3_221 : (Cond.methodLink RX10 1 ⟨"java/lang/Object", "<init>", "()V"⟩) ∈ tw := tb3 221 rfl
theorem w3_222 : (Cond.classLink RX10 19 RX9) ∈ tw := tb3 222 rfl
theorem w3_223 : (Cond.instantiable RX9 20) ∈ tw := tb3 223 rfl
theorem w3_224 : (Cond.methodLink RX10 21 yX9_init) ∈ tw := tb3 224 rfl
theorem w3_225 : (Cond.instanceMethod yX9_init) ∈ tw := tb3 225 rfl
theorem w3_226 : (Cond.code yX9_init prog_12_method_1_code 2 (none : Option Jvm.ClassFile.FieldType)) ∈ tw := tb3 226 rfl
theorem w3_227 : (Cond.methodLink RX9 3 ⟨"java/lang/Object", "<init>", "()V"⟩) ∈ tw := tb3 227 rfl
theorem w3_228 : (Cond.fieldLink "SensorNodeModel$Guest" 9 "SensorNodeModel$Guest" "x" "[I") ∈ tw := tb3 228 rfl
theorem w3_229 : (Cond.fieldLink "SensorNodeModel" 154 "SensorNodeModel$Guest" "x" "[I") ∈ tw := tb3 229 rfl
theorem w3_230 : (Cond.fieldLink "SensorNodeModel$Guest" 28 "SensorNodeModel$Guest" "pc" "I") ∈ tw := tb3 230 rfl
theorem w3_231 : (Cond.fieldLink "SensorNodeModel" 157 "SensorNodeModel$Guest" "pc" "I") ∈ tw := tb3 231 rfl
theorem w3_232 : (Cond.fieldLink "SensorNodeModel$Guest" 31 "SensorNodeModel$Guest" "index" "I") ∈ tw := tb3 232 rfl
theorem w3_233 : (Cond.fieldLink "SensorNodeModel" 160 "SensorNodeModel$Guest" "index" "I") ∈ tw := tb3 233 rfl
theorem w3_234 : (Cond.fieldLink "SensorNodeModel$Guest" 34 "SensorNodeModel$Guest" "sent" "I") ∈ tw := tb3 234 rfl
theorem w3_235 : (Cond.fieldLink "SensorNodeModel" 163 "SensorNodeModel$Guest" "sent" "I") ∈ tw := tb3 235 rfl
theorem w3_236 : (Cond.fieldLink "SensorNodeModel$Guest" 37 "SensorNodeModel$Guest" "count" "I") ∈ tw := tb3 236 rfl
theorem w3_237 : (Cond.fieldLink "SensorNodeModel" 166 "SensorNodeModel$Guest" "count" "I") ∈ tw := tb3 237 rfl
theorem w3_238 : (Cond.fieldLink "SensorNodeModel$Guest" 15 "SensorNodeModel$Guest" "ram" "[I") ∈ tw := tb3 238 rfl
theorem w3_239 : (Cond.fieldLink "SensorNodeModel" 167 "SensorNodeModel$Guest" "ram" "[I") ∈ tw := tb3 239 rfl
theorem w4_0 : (Cond.fieldLink "SensorNodeModel$Guest" 21 "SensorNodeModel$Guest" "\x72" "I") ∈ tw := tb4 0 rfl
theorem w4_1 : (Cond.fieldLink "SensorNodeModel" 107 "SensorNodeModel$Guest" "\x72" "I") ∈ tw := tb4 1 rfl
theorem w4_2 : (Cond.fieldLink "SensorNodeModel$Guest" 25 "SensorNodeModel$Guest" "g" "I") ∈ tw := tb4 2 rfl
theorem w4_3 : (Cond.fieldLink "SensorNodeModel" 108 "SensorNodeModel$Guest" "g" "I") ∈ tw := tb4 3 rfl
theorem w4_4 : (Cond.fieldLink "SensorNodeModel$Guest" 48 "SensorNodeModel$Guest" "own" "[I") ∈ tw := tb4 4 rfl
theorem w4_5 : (Cond.fieldLink "SensorNodeModel" 101 "SensorNodeModel$Guest" "own" "[I") ∈ tw := tb4 5 rfl
theorem w4_6 : (Cond.fieldLink "SensorNodeModel$Guest" 51 "SensorNodeModel$Guest" "from" "I") ∈ tw := tb4 6 rfl
theorem w4_7 : (Cond.fieldLink "SensorNodeModel" 104 "SensorNodeModel$Guest" "from" "I") ∈ tw := tb4 7 rfl
theorem w4_8 : (Cond.fieldLink "SensorNodeModel$Guest" 18 "SensorNodeModel$Guest" "samples" "[I") ∈ tw := tb4 8 rfl
theorem w4_9 : (Cond.fieldLink "SensorNodeModel" 109 "SensorNodeModel$Guest" "sampleCount" "I") ∈ tw := tb4 9 rfl
theorem w4_10 : (Cond.fieldLink "SensorNodeModel$Guest" 134 "SensorNodeModel$Guest" "sampleCount" "I") ∈ tw := tb4 10 rfl
theorem w4_11 : (Cond.fieldLink "SensorNodeModel$Guest" 68 "SensorNodeModel$Guest" "ends" "I") ∈ tw := tb4 11 rfl
theorem w4_12 : (Cond.fieldLink "SensorNodeModel" 210 "SensorNodeModel$Guest" "ends" "I") ∈ tw := tb4 12 rfl
theorem w4_13 : (Cond.fieldLink "SensorNodeModel$Guest" 58 "SensorNodeModel$Guest" "effect" "I") ∈ tw := tb4 13 rfl
theorem w4_14 : (Cond.fieldLink "SensorNodeModel" 207 "SensorNodeModel$Guest" "effect" "I") ∈ tw := tb4 14 rfl
theorem w4_15 : (Cond.fieldLink "SensorNodeModel$Guest" 77 "SensorNodeModel$Guest" "target" "I") ∈ tw := tb4 15 rfl
theorem w4_16 : (Cond.fieldLink "SensorNodeModel$Guest" 117 "SensorNodeModel$Guest" "value" "I") ∈ tw := tb4 16 rfl
theorem w4_17 : (Cond.fieldLink "SensorNodeModel" 213 "SensorNodeModel$Guest" "place" "I") ∈ tw := tb4 17 rfl
theorem w4_18 : (Cond.fieldLink "SensorNodeModel$Guest" 128 "SensorNodeModel$Guest" "place" "I") ∈ tw := tb4 18 rfl
theorem w4_19 : (Cond.fieldLink "SensorNodeModel$Guest" 131 "SensorNodeModel$Guest" "wide" "I") ∈ tw := tb4 19 rfl
theorem w4_20 : (Cond.fieldLink "SensorNodeModel$Guest" 61 "SensorNodeModel$Guest" "writesRegister" "Z") ∈ tw := tb4 20 rfl
theorem w4_21 : (Cond.fieldLink "SensorNodeModel$Guest" 65 "SensorNodeModel$Guest" "writesRam" "Z") ∈ tw := tb4 21 rfl
theorem w4_22 : (Cond.laysFinal "SensorNodeModel$Guest" "SensorNodeModel$Guest" "x" "[I") ∈ tw := tb4 22 rfl
theorem w4_24 : (Cond.lays "SensorNodeModel$Guest" "SensorNodeModel$Guest" "pc" "I") ∈ tw := tb4 24 rfl
theorem w4_26 : (Cond.lays "SensorNodeModel$Guest" "SensorNodeModel$Guest" "index" "I") ∈ tw := tb4 26 rfl
theorem w4_28 : (Cond.lays "SensorNodeModel$Guest" "SensorNodeModel$Guest" "sent" "I") ∈ tw := tb4 28 rfl
theorem w4_30 : (Cond.lays "SensorNodeModel$Guest" "SensorNodeModel$Guest" "count" "I") ∈ tw := tb4 30 rfl
theorem w4_32 : (Cond.laysFinal "SensorNodeModel$Guest" "SensorNodeModel$Guest" "ram" "[I") ∈ tw := tb4 32 rfl
theorem w4_34 : (Cond.lays "SensorNodeModel$Guest" "SensorNodeModel$Guest" "\x72" "I") ∈ tw := tb4 34 rfl
theorem w4_36 : (Cond.lays "SensorNodeModel$Guest" "SensorNodeModel$Guest" "g" "I") ∈ tw := tb4 36 rfl
theorem w4_38 : (Cond.lays "SensorNodeModel$Guest" "SensorNodeModel$Guest" "own" "[I") ∈ tw := tb4 38 rfl
theorem w4_40 : (Cond.lays "SensorNodeModel$Guest" "SensorNodeModel$Guest" "from" "I") ∈ tw := tb4 40 rfl
theorem w4_42 : (Cond.laysFinal "SensorNodeModel$Guest" "SensorNodeModel$Guest" "samples" "[I") ∈ tw := tb4 42 rfl
theorem w4_44 : (Cond.lays "SensorNodeModel$Guest" "SensorNodeModel$Guest" "sampleCount" "I") ∈ tw := tb4 44 rfl
theorem w4_46 : (Cond.lays "SensorNodeModel$Guest" "SensorNodeModel$Guest" "ends" "I") ∈ tw := tb4 46 rfl
theorem w4_48 : (Cond.lays "SensorNodeModel$Guest" "SensorNodeModel$Guest" "effect" "I") ∈ tw := tb4 48 rfl
theorem w4_50 : (Cond.lays "SensorNodeModel$Guest" "SensorNodeModel$Guest" "target" "I") ∈ tw := tb4 50 rfl
theorem w4_52 : (Cond.lays "SensorNodeModel$Guest" "SensorNodeModel$Guest" "value" "I") ∈ tw := tb4 52 rfl
theorem w4_54 : (Cond.lays "SensorNodeModel$Guest" "SensorNodeModel$Guest" "place" "I") ∈ tw := tb4 54 rfl
theorem w4_56 : (Cond.lays "SensorNodeModel$Guest" "SensorNodeModel$Guest" "wide" "I") ∈ tw := tb4 56 rfl
theorem w4_58 : (Cond.lays "SensorNodeModel$Guest" "SensorNodeModel$Guest" "writesRegister" "Z") ∈ tw := tb4 58 rfl
theorem w4_60 : (Cond.lays "SensorNodeModel$Guest" "SensorNodeModel$Guest" "writesRam" "Z") ∈ tw := tb4 60 rfl
theorem w4_63 : (Cond.classLink RX10 34 RX8) ∈ tw := tb4 63 rfl
theorem w4_64 : (Cond.instantiable RX8 5) ∈ tw := tb4 64 rfl
theorem w4_66 : (Cond.instanceMethod yX8_init) ∈ tw := tb4 66 rfl
theorem w4_67 : (Cond.code yX8_init prog_11_method_1_code 1 (none : Option Jvm.ClassFile.FieldType)) ∈ tw := tb4 67 rfl
theorem w4_68 : (Cond.methodLink RX8 3 ⟨"java/lang/Object", "<init>", "()V"⟩) ∈ tw := tb4 68 rfl
theorem w4_69 : (Cond.fieldLink "SensorNodeModel$Air" 25 "SensorNodeModel$Air" "count" "I") ∈ tw := tb4 69 rfl
theorem w4_70 : (Cond.fieldLink "SensorNodeModel" 112 "SensorNodeModel$Air" "count" "I") ∈ tw := tb4 70 rfl
theorem w4_71 : (Cond.fieldLink "SensorNodeModel$Guest" 137 "SensorNodeModel$Air" "count" "I") ∈ tw := tb4 71 rfl
theorem w4_72 : (Cond.fieldLink "SensorNodeModel$Air" 9 "SensorNodeModel$Air" "number" "[I") ∈ tw := tb4 72 rfl
theorem w4_73 : (Cond.fieldLink "SensorNodeModel$Guest" 140 "SensorNodeModel$Air" "number" "[I") ∈ tw := tb4 73 rfl
theorem w4_74 : (Cond.fieldLink "SensorNodeModel" 238 "SensorNodeModel$Air" "number" "[I") ∈ tw := tb4 74 rfl
theorem w4_75 : (Cond.fieldLink "SensorNodeModel$Air" 15 "SensorNodeModel$Air" "length" "[I") ∈ tw := tb4 75 rfl
theorem w4_76 : (Cond.fieldLink "SensorNodeModel$Guest" 143 "SensorNodeModel$Air" "length" "[I") ∈ tw := tb4 76 rfl
theorem w4_77 : (Cond.fieldLink "SensorNodeModel" 241 "SensorNodeModel$Air" "length" "[I") ∈ tw := tb4 77 rfl
theorem w4_78 : (Cond.fieldLink "SensorNodeModel$Air" 18 "SensorNodeModel$Air" "before" "[I") ∈ tw := tb4 78 rfl
theorem w4_79 : (Cond.fieldLink "SensorNodeModel$Guest" 146 "SensorNodeModel$Air" "before" "[I") ∈ tw := tb4 79 rfl
theorem w4_80 : (Cond.fieldLink "SensorNodeModel" 244 "SensorNodeModel$Air" "before" "[I") ∈ tw := tb4 80 rfl
theorem w4_81 : (Cond.fieldLink "SensorNodeModel$Air" 21 "SensorNodeModel$Air" "bytes" "[B") ∈ tw := tb4 81 rfl
theorem w4_82 : (Cond.fieldLink "SensorNodeModel$Guest" 149 "SensorNodeModel$Air" "bytes" "[B") ∈ tw := tb4 82 rfl
theorem w4_83 : (Cond.lays "SensorNodeModel$Air" "SensorNodeModel$Air" "count" "I") ∈ tw := tb4 83 rfl
theorem w4_85 : (Cond.laysFinal "SensorNodeModel$Air" "SensorNodeModel$Air" "number" "[I") ∈ tw := tb4 85 rfl
theorem w4_87 : (Cond.laysFinal "SensorNodeModel$Air" "SensorNodeModel$Air" "length" "[I") ∈ tw := tb4 87 rfl
theorem w4_89 : (Cond.laysFinal "SensorNodeModel$Air" "SensorNodeModel$Air" "before" "[I") ∈ tw := tb4 89 rfl
theorem w4_91 : (Cond.laysFinal "SensorNodeModel$Air" "SensorNodeModel$Air" "bytes" "[B") ∈ tw := tb4 91 rfl
theorem w4_94 : (Cond.arrayClass .byte) ∈ tw := tb4 94 rfl
theorem w4_95 : (Cond.fieldLink "SensorNodeModel" 64 "SensorNodeModel" "isInstalled" "Z") ∈ tw := tb4 95 rfl
theorem w4_96 : (Cond.fieldLink "SensorNodeModel" 68 "SensorNodeModel" "wasOn" "Z") ∈ tw := tb4 96 rfl
theorem w4_97 : (Cond.fieldLink "SensorNodeModel" 71 "SensorNodeModel" "power" "Z") ∈ tw := tb4 97 rfl
theorem w4_98 : (Cond.fieldLink "SensorNodeModel" 77 "SensorNodeModel" "\x72" "I") ∈ tw := tb4 98 rfl
theorem w4_99 : (Cond.fieldLink "SensorNodeModel" 80 "SensorNodeModel" "g" "I") ∈ tw := tb4 99 rfl
theorem w4_100 : (Cond.fieldLink "SensorNodeModel" 83 "SensorNodeModel" "l" "I") ∈ tw := tb4 100 rfl
theorem w4_101 : (Cond.fieldLink "SensorNodeModel" 86 "SensorNodeModel" "k" "I") ∈ tw := tb4 101 rfl
theorem w4_102 : (Cond.fieldLink "SensorNodeModel" 89 "SensorNodeModel" "pcAtFirst" "I") ∈ tw := tb4 102 rfl
theorem w4_103 : (Cond.fieldLink "SensorNodeModel" 98 "SensorNodeModel" "size" "I") ∈ tw := tb4 103 rfl
theorem w4_104 : (Cond.fieldLink "SensorNodeModel" 92 "SensorNodeModel" "entriesAt" "I") ∈ tw := tb4 104 rfl
theorem w4_105 : (Cond.fieldLink "SensorNodeModel" 95 "SensorNodeModel" "guestAt" "I") ∈ tw := tb4 105 rfl
theorem w4_106 : (Cond.fieldLink "SensorNodeModel" 9 "SensorNodeModel" "store" "[I") ∈ tw := tb4 106 rfl
theorem w4_107 : (Cond.fieldLink "SensorNodeModel" 13 "SensorNodeModel" "image" "[I") ∈ tw := tb4 107 rfl
theorem w4_108 : (Cond.fieldLink "SensorNodeModel" 16 "SensorNodeModel" "samples" "[I") ∈ tw := tb4 108 rfl
theorem w4_109 : (Cond.fieldLink "SensorNodeModel" 24 "SensorNodeModel" "node" "LSensorNodeModel$Guest;") ∈ tw := tb4 109 rfl
theorem w4_110 : (Cond.fieldLink "SensorNodeModel" 28 "SensorNodeModel" "plain" "LSensorNodeModel$Guest;") ∈ tw := tb4 110 rfl
theorem w4_111 : (Cond.fieldLink "SensorNodeModel" 31 "SensorNodeModel" "plainWords" "[I") ∈ tw := tb4 111 rfl
theorem w4_112 : (Cond.fieldLink "SensorNodeModel" 74 "SensorNodeModel" "wasPlain" "Z") ∈ tw := tb4 112 rfl
theorem w4_113 : (Cond.fieldLink "SensorNodeModel" 37 "SensorNodeModel" "heard" "LSensorNodeModel$Air;") ∈ tw := tb4 113 rfl
theorem w4_114 : (Cond.fieldLink "SensorNodeModel" 41 "SensorNodeModel" "plainHeard" "LSensorNodeModel$Air;") ∈ tw := tb4 114 rfl
theorem w4_115 : (Cond.fieldLink "SensorNodeModel" 115 "SensorNodeModel" "since" "I") ∈ tw := tb4 115 rfl
theorem w4_116 : (Cond.fieldLink "SensorNodeModel" 118 "SensorNodeModel" "ended" "I") ∈ tw := tb4 116 rfl
theorem w4_117 : (Cond.fieldLink "SensorNodeModel" 121 "SensorNodeModel" "doing" "I") ∈ tw := tb4 117 rfl
theorem w4_118 : (Cond.fieldLink "SensorNodeModel" 179 "SensorNodeModel" "step" "I") ∈ tw := tb4 118 rfl
theorem w4_119 : (Cond.fieldLink "SensorNodeModel" 44 "SensorNodeModel" "hasEntry" "[Z") ∈ tw := tb4 119 rfl
theorem w4_120 : (Cond.fieldLink "SensorNodeModel" 124 "SensorNodeModel" "acts" "I") ∈ tw := tb4 120 rfl
theorem w4_121 : (Cond.fieldLink "SensorNodeModel" 127 "SensorNodeModel" "written" "I") ∈ tw := tb4 121 rfl
theorem w4_122 : (Cond.fieldLink "SensorNodeModel" 130 "SensorNodeModel" "undone" "I") ∈ tw := tb4 122 rfl
theorem w4_123 : (Cond.fieldLink "SensorNodeModel" 133 "SensorNodeModel" "done" "I") ∈ tw := tb4 123 rfl
theorem w4_124 : (Cond.fieldLink "SensorNodeModel" 136 "SensorNodeModel" "checkpoints" "I") ∈ tw := tb4 124 rfl
theorem w4_125 : (Cond.fieldLink "SensorNodeModel" 139 "SensorNodeModel" "cuts" "I") ∈ tw := tb4 125 rfl
theorem w4_126 : (Cond.fieldLink "SensorNodeModel" 142 "SensorNodeModel" "rolled" "I") ∈ tw := tb4 126 rfl
theorem w4_127 : (Cond.fieldLink "SensorNodeModel" 173 "SensorNodeModel" "strays" "I") ∈ tw := tb4 127 rfl
theorem w4_128 : (Cond.fieldLink "SensorNodeModel" 48 "SensorNodeModel" "tray" "[B") ∈ tw := tb4 128 rfl
theorem w4_129 : (Cond.fieldLink "SensorNodeModel" 52 "SensorNodeModel" "trayed" "I") ∈ tw := tb4 129 rfl
theorem w4_130 : (Cond.fieldLink "SensorNodeModel" 56 "SensorNodeModel" "fed" "I") ∈ tw := tb4 130 rfl
theorem w4_131 : (Cond.lays "SensorNodeModel" "SensorNodeModel" "isInstalled" "Z") ∈ tw := tb4 131 rfl
theorem w4_133 : (Cond.lays "SensorNodeModel" "SensorNodeModel" "wasOn" "Z") ∈ tw := tb4 133 rfl
theorem w4_135 : (Cond.lays "SensorNodeModel" "SensorNodeModel" "power" "Z") ∈ tw := tb4 135 rfl
theorem w4_137 : (Cond.lays "SensorNodeModel" "SensorNodeModel" "\x72" "I") ∈ tw := tb4 137 rfl
theorem w4_139 : (Cond.lays "SensorNodeModel" "SensorNodeModel" "g" "I") ∈ tw := tb4 139 rfl
theorem w4_141 : (Cond.lays "SensorNodeModel" "SensorNodeModel" "l" "I") ∈ tw := tb4 141 rfl
theorem w4_143 : (Cond.lays "SensorNodeModel" "SensorNodeModel" "k" "I") ∈ tw := tb4 143 rfl
theorem w4_145 : (Cond.lays "SensorNodeModel" "SensorNodeModel" "pcAtFirst" "I") ∈ tw := tb4 145 rfl
theorem w4_147 : (Cond.lays "SensorNodeModel" "SensorNodeModel" "size" "I") ∈ tw := tb4 147 rfl
theorem w4_149 : (Cond.lays "SensorNodeModel" "SensorNodeModel" "entriesAt" "I") ∈ tw := tb4 149 rfl
theorem w4_151 : (Cond.lays "SensorNodeModel" "SensorNodeModel" "guestAt" "I") ∈ tw := tb4 151 rfl
theorem w4_153 : (Cond.laysFinal "SensorNodeModel" "SensorNodeModel" "store" "[I") ∈ tw := tb4 153 rfl
theorem w4_155 : (Cond.laysFinal "SensorNodeModel" "SensorNodeModel" "image" "[I") ∈ tw := tb4 155 rfl
theorem w4_157 : (Cond.laysFinal "SensorNodeModel" "SensorNodeModel" "samples" "[I") ∈ tw := tb4 157 rfl
theorem w4_159 : (Cond.laysFinal "SensorNodeModel" "SensorNodeModel" "node" "LSensorNodeModel$Guest;") ∈ tw := tb4 159 rfl
theorem w4_161 : (Cond.laysFinal "SensorNodeModel" "SensorNodeModel" "plain" "LSensorNodeModel$Guest;") ∈ tw := tb4 161 rfl
theorem w4_163 : (Cond.laysFinal "SensorNodeModel" "SensorNodeModel" "plainWords" "[I") ∈ tw := tb4 163 rfl
theorem w4_165 : (Cond.lays "SensorNodeModel" "SensorNodeModel" "wasPlain" "Z") ∈ tw := tb4 165 rfl
theorem w4_167 : (Cond.lays "SensorNodeModel" "SensorNodeModel" "heard" "LSensorNodeModel$Air;") ∈ tw := tb4 167 rfl
theorem w4_169 : (Cond.laysFinal "SensorNodeModel" "SensorNodeModel" "plainHeard" "LSensorNodeModel$Air;") ∈ tw := tb4 169 rfl
theorem w4_171 : (Cond.lays "SensorNodeModel" "SensorNodeModel" "since" "I") ∈ tw := tb4 171 rfl
theorem w4_173 : (Cond.lays "SensorNodeModel" "SensorNodeModel" "ended" "I") ∈ tw := tb4 173 rfl
theorem w4_175 : (Cond.lays "SensorNodeModel" "SensorNodeModel" "doing" "I") ∈ tw := tb4 175 rfl
theorem w4_177 : (Cond.lays "SensorNodeModel" "SensorNodeModel" "step" "I") ∈ tw := tb4 177 rfl
theorem w4_179 : (Cond.laysFinal "SensorNodeModel" "SensorNodeModel" "hasEntry" "[Z") ∈ tw := tb4 179 rfl
theorem w4_181 : (Cond.lays "SensorNodeModel" "SensorNodeModel" "acts" "I") ∈ tw := tb4 181 rfl
theorem w4_183 : (Cond.lays "SensorNodeModel" "SensorNodeModel" "written" "I") ∈ tw := tb4 183 rfl
theorem w4_185 : (Cond.lays "SensorNodeModel" "SensorNodeModel" "undone" "I") ∈ tw := tb4 185 rfl
theorem w4_187 : (Cond.lays "SensorNodeModel" "SensorNodeModel" "done" "I") ∈ tw := tb4 187 rfl
theorem w4_189 : (Cond.lays "SensorNodeModel" "SensorNodeModel" "checkpoints" "I") ∈ tw := tb4 189 rfl
theorem w4_191 : (Cond.lays "SensorNodeModel" "SensorNodeModel" "cuts" "I") ∈ tw := tb4 191 rfl
theorem w4_193 : (Cond.lays "SensorNodeModel" "SensorNodeModel" "rolled" "I") ∈ tw := tb4 193 rfl
theorem w4_195 : (Cond.lays "SensorNodeModel" "SensorNodeModel" "strays" "I") ∈ tw := tb4 195 rfl
theorem w4_197 : (Cond.laysFinal "SensorNodeModel" "SensorNodeModel" "tray" "[B") ∈ tw := tb4 197 rfl
theorem w4_199 : (Cond.lays "SensorNodeModel" "SensorNodeModel" "trayed" "I") ∈ tw := tb4 199 rfl
theorem w4_201 : (Cond.lays "SensorNodeModel" "SensorNodeModel" "fed" "I") ∈ tw := tb4 201 rfl
theorem w4_204 : (Cond.arrayClass .boolean) ∈ tw := tb4 204 rfl
theorem w4_205 : (Cond.methodLink RL 17 yX10_feed) ∈ tw := tb4 205 rfl
theorem w4_206 : (Cond.instanceMethod yX10_feed) ∈ tw := tb4 206 rfl
theorem w4_207 : (Cond.selects RX10 yX10_feed yX10_feed) ∈ tw := tb4 207 rfl
theorem w4_208 : (Cond.code yX10_feed prog_10_method_4_code 6 (some .int)) ∈ tw := tb4 208 rfl
theorem w4_209 : (Cond.constant RX10 59 (65536)) ∈ tw := tb4 209 rfl
theorem w4_210 : (Cond.methodLink RX10 60 yX10_four) ∈ tw := tb4 210 rfl
theorem w4_212 : (Cond.instanceMethod yX10_four) ∈ tw := tb4 212 rfl
theorem w4_213 : (Cond.code yX10_four prog_10_method_3_code 3 (none : Option Jvm.ClassFile.FieldType)) ∈ tw := tb4 213 rfl
theorem w4_214 : (Cond.methodLink RL 22 yX10_end) ∈ tw := tb4 214 rfl
theorem w4_215 : (Cond.instanceMethod yX10_end) ∈ tw := tb4 215 rfl
theorem w4_216 : (Cond.selects RX10 yX10_end yX10_end) ∈ tw := tb4 216 rfl
theorem w4_217 : (Cond.code yX10_end prog_10_method_5_code 2 (some .boolean)) ∈ tw := tb4 217 rfl
theorem w4_218 : (Cond.methodLink RL 26 yX10_install) ∈ tw := tb4 218 rfl
theorem w4_219 : (Cond.instanceMethod yX10_install) ∈ tw := tb4 219 rfl
theorem w4_220 : (Cond.selects RX10 yX10_install yX10_install) ∈ tw := tb4 220 rfl
theorem w4_221 : (Cond.code yX10_install prog_10_method_6_code 9 (some .int)) ∈ tw := tb4 221 rfl
theorem w4_222 : (Cond.methodLink RL 31 yX10_sample) ∈ tw := tb4 222 rfl
theorem w4_223 : (Cond.instanceMethod yX10_sample) ∈ tw := tb4 223 rfl
theorem w4_224 : (Cond.selects RX10 yX10_sample yX10_sample) ∈ tw := tb4 224 rfl
theorem w4_225 : (Cond.code yX10_sample prog_10_method_7_code 2 (some .int)) ∈ tw := tb4 225 rfl
theorem w4_226 : (Cond.methodLink RL 36 yX10_on) ∈ tw := tb4 226 rfl
theorem w4_227 : (Cond.instanceMethod yX10_on) ∈ tw := tb4 227 rfl
theorem w4_228 : (Cond.selects RX10 yX10_on yX10_on) ∈ tw := tb4 228 rfl
theorem w4_229 : (Cond.code yX10_on prog_10_method_11_code 3 (some .boolean)) ∈ tw := tb4 229 rfl
theorem w4_230 : (Cond.methodLink RX10 146 yX10_generation) ∈ tw := tb4 230 rfl
theorem w4_232 : (Cond.instanceMethod yX10_generation) ∈ tw := tb4 232 rfl
theorem w4_233 : (Cond.code yX10_generation prog_10_method_8_code 1 (some .int)) ∈ tw := tb4 233 rfl
theorem w4_234 : (Cond.methodLink RX10 150 yX10_bufferAt) ∈ tw := tb4 234 rfl
theorem w4_236 : (Cond.instanceMethod yX10_bufferAt) ∈ tw := tb4 236 rfl
theorem w4_237 : (Cond.code yX10_bufferAt prog_10_method_9_code 2 (some .int)) ∈ tw := tb4 237 rfl
theorem w4_238 : (Cond.methodLink RX10 170 yX10_forgetEntries) ∈ tw := tb4 238 rfl
theorem w5_0 : (Cond.instanceMethod yX10_forgetEntries) ∈ tw := tb5 0 rfl
theorem w5_1 : (Cond.code yX10_forgetEntries prog_10_method_12_code 2 (none : Option Jvm.ClassFile.FieldType)) ∈ tw := tb5 1 rfl
theorem w5_2 : (Cond.constant RX10 145 (65535)) ∈ tw := tb5 2 rfl
theorem w5_3 : (Cond.methodLink RX10 176 yX10_counting) ∈ tw := tb5 3 rfl
theorem w5_5 : (Cond.instanceMethod yX10_counting) ∈ tw := tb5 5 rfl
theorem w5_6 : (Cond.code yX10_counting prog_10_method_10_code 1 (some .int)) ∈ tw := tb5 6 rfl
theorem w5_7 : (Cond.methodLink RL 40 yX10_cut) ∈ tw := tb5 7 rfl
theorem w5_8 : (Cond.instanceMethod yX10_cut) ∈ tw := tb5 8 rfl
theorem w5_9 : (Cond.selects RX10 yX10_cut yX10_cut) ∈ tw := tb5 9 rfl
theorem w5_10 : (Cond.code yX10_cut prog_10_method_13_code 1 (some .boolean)) ∈ tw := tb5 10 rfl
theorem w5_11 : (Cond.methodLink RL 44 yX10_go) ∈ tw := tb5 11 rfl
theorem w5_12 : (Cond.instanceMethod yX10_go) ∈ tw := tb5 12 rfl
theorem w5_13 : (Cond.selects RX10 yX10_go yX10_go) ∈ tw := tb5 13 rfl
theorem w5_14 : (Cond.code yX10_go prog_10_method_14_code 3 (some .int)) ∈ tw := tb5 14 rfl
theorem w5_15 : (Cond.methodLink RX10 182 yX10_act) ∈ tw := tb5 15 rfl
theorem w5_17 : (Cond.instanceMethod yX10_act) ∈ tw := tb5 17 rfl
theorem w5_18 : (Cond.code yX10_act prog_10_method_16_code 1 (none : Option Jvm.ClassFile.FieldType)) ∈ tw := tb5 18 rfl
theorem w5_19 : (Cond.methodLink RX10 185 yX10_boot) ∈ tw := tb5 19 rfl
theorem w5_21 : (Cond.instanceMethod yX10_boot) ∈ tw := tb5 21 rfl
theorem w5_22 : (Cond.code yX10_boot prog_10_method_17_code 2 (none : Option Jvm.ClassFile.FieldType)) ∈ tw := tb5 22 rfl
theorem w5_23 : (Cond.methodLink RX10 200 yX10_write) ∈ tw := tb5 23 rfl
theorem w5_25 : (Cond.instanceMethod yX10_write) ∈ tw := tb5 25 rfl
theorem w5_26 : (Cond.code yX10_write prog_10_method_15_code 3 (none : Option Jvm.ClassFile.FieldType)) ∈ tw := tb5 26 rfl
theorem w5_27 : (Cond.methodLink RX10 188 yX10_check) ∈ tw := tb5 27 rfl
theorem w5_29 : (Cond.instanceMethod yX10_check) ∈ tw := tb5 29 rfl
theorem w5_30 : (Cond.code yX10_check prog_10_method_21_code 3 (none : Option Jvm.ClassFile.FieldType)) ∈ tw := tb5 30 rfl
theorem w5_31 : (Cond.methodLink RX10 220 yX10_checkWord) ∈ tw := tb5 31 rfl
theorem w5_33 : (Cond.instanceMethod yX10_checkWord) ∈ tw := tb5 33 rfl
theorem w5_34 : (Cond.code yX10_checkWord prog_10_method_20_code 2 (some .int)) ∈ tw := tb5 34 rfl
theorem w5_35 : (Cond.methodLink RX10 191 yX10_log) ∈ tw := tb5 35 rfl
theorem w5_37 : (Cond.instanceMethod yX10_log) ∈ tw := tb5 37 rfl
theorem w5_38 : (Cond.code yX10_log prog_10_method_22_code 4 (none : Option Jvm.ClassFile.FieldType)) ∈ tw := tb5 38 rfl
theorem w5_39 : (Cond.methodLink RX10 216 yX10_perform) ∈ tw := tb5 39 rfl
theorem w5_41 : (Cond.instanceMethod yX10_perform) ∈ tw := tb5 41 rfl
theorem w5_42 : (Cond.code yX10_perform prog_10_method_19_code 1 (none : Option Jvm.ClassFile.FieldType)) ∈ tw := tb5 42 rfl
theorem w5_43 : (Cond.methodLink RX10 219 yX9_perform) ∈ tw := tb5 43 rfl
theorem w5_44 : (Cond.instanceMethod yX9_perform) ∈ tw := tb5 44 rfl
theorem w5_45 : (Cond.selects RX9 yX9_perform yX9_perform) ∈ tw := tb5 45 rfl
theorem w5_46 : (Cond.code yX9_perform prog_12_method_20_code 2 (none : Option Jvm.ClassFile.FieldType)) ∈ tw := tb5 46 rfl
theorem w5_47 : (Cond.methodLink RX9 54 yX9_wordAt) ∈ tw := tb5 47 rfl
theorem w5_48 : (Cond.instanceMethod yX9_wordAt) ∈ tw := tb5 48 rfl
theorem w5_49 : (Cond.selects RX9 yX9_wordAt yX9_wordAt) ∈ tw := tb5 49 rfl
theorem w5_50 : (Cond.code yX9_wordAt prog_12_method_5_code 2 (some .int)) ∈ tw := tb5 50 rfl
theorem w5_51 : (Cond.methodLink RX9 44 yX9_isRam) ∈ tw := tb5 51 rfl
theorem w5_53 : (Cond.instanceMethod yX9_isRam) ∈ tw := tb5 53 rfl
theorem w5_54 : (Cond.code yX9_isRam prog_12_method_4_code 2 (some .boolean)) ∈ tw := tb5 54 rfl
theorem w5_55 : (Cond.constantLong RX9 40 (4294967295)) ∈ tw := tb5 55 rfl
theorem w5_56 : (Cond.constantLong RX9 42 (1073741824)) ∈ tw := tb5 56 rfl
theorem w5_57 : (Cond.methodLink RX9 84 yX9_bits) ∈ tw := tb5 57 rfl
theorem w5_58 : (Cond.static yX9_bits) ∈ tw := tb5 58 rfl
theorem w5_59 : (Cond.code yX9_bits prog_12_method_7_code 3 (some .int)) ∈ tw := tb5 59 rfl
theorem w5_60 : (Cond.methodLink RX10 194 yX10_send) ∈ tw := tb5 60 rfl
theorem w5_62 : (Cond.instanceMethod yX10_send) ∈ tw := tb5 62 rfl
theorem w5_63 : (Cond.code yX10_send prog_10_method_23_code 1 (none : Option Jvm.ClassFile.FieldType)) ∈ tw := tb5 63 rfl
theorem w5_64 : (Cond.methodLink RX10 223 yX9_sendTo) ∈ tw := tb5 64 rfl
theorem w5_65 : (Cond.instanceMethod yX9_sendTo) ∈ tw := tb5 65 rfl
theorem w5_66 : (Cond.selects RX9 yX9_sendTo yX9_sendTo) ∈ tw := tb5 66 rfl
theorem w5_67 : (Cond.code yX9_sendTo prog_12_method_21_code 5 (none : Option Jvm.ClassFile.FieldType)) ∈ tw := tb5 67 rfl
theorem w5_68 : (Cond.methodLink RX9 153 yX9_byteAt) ∈ tw := tb5 68 rfl
theorem w5_69 : (Cond.instanceMethod yX9_byteAt) ∈ tw := tb5 69 rfl
theorem w5_70 : (Cond.selects RX9 yX9_byteAt yX9_byteAt) ∈ tw := tb5 70 rfl
theorem w5_71 : (Cond.code yX9_byteAt prog_12_method_6_code 2 (some .int)) ∈ tw := tb5 71 rfl
theorem w5_72 : (Cond.methodLink RX10 197 yX10_decide) ∈ tw := tb5 72 rfl
theorem w5_74 : (Cond.instanceMethod yX10_decide) ∈ tw := tb5 74 rfl
theorem w5_75 : (Cond.code yX10_decide prog_10_method_18_code 4 (none : Option Jvm.ClassFile.FieldType)) ∈ tw := tb5 75 rfl
theorem w5_76 : (Cond.methodLink RX10 204 yX9_look) ∈ tw := tb5 76 rfl
theorem w5_77 : (Cond.instanceMethod yX9_look) ∈ tw := tb5 77 rfl
theorem w5_78 : (Cond.selects RX9 yX9_look yX9_look) ∈ tw := tb5 78 rfl
theorem w5_79 : (Cond.code yX9_look prog_12_method_8_code 1 (none : Option Jvm.ClassFile.FieldType)) ∈ tw := tb5 79 rfl
theorem w5_80 : (Cond.constantLong RX9 71 (4)) ∈ tw := tb5 80 rfl
theorem w5_81 : (Cond.methodLink RX9 73 yX9_isIn) ∈ tw := tb5 81 rfl
theorem w5_82 : (Cond.instanceMethod yX9_isIn) ∈ tw := tb5 82 rfl
theorem w5_83 : (Cond.selects RX9 yX9_isIn yX9_isIn) ∈ tw := tb5 83 rfl
theorem w5_84 : (Cond.code yX9_isIn prog_12_method_3_code 6 (some .boolean)) ∈ tw := tb5 84 rfl
theorem w5_85 : (Cond.methodLink RX9 80 yX9_decode) ∈ tw := tb5 85 rfl
theorem w5_87 : (Cond.instanceMethod yX9_decode) ∈ tw := tb5 87 rfl
theorem w5_88 : (Cond.code yX9_decode prog_12_method_9_code 7 (none : Option Jvm.ClassFile.FieldType)) ∈ tw := tb5 88 rfl
theorem w5_89 : (Cond.methodLink RX9 88 yX9_gives) ∈ tw := tb5 89 rfl
theorem w5_91 : (Cond.instanceMethod yX9_gives) ∈ tw := tb5 91 rfl
theorem w5_92 : (Cond.code yX9_gives prog_12_method_10_code 2 (none : Option Jvm.ClassFile.FieldType)) ∈ tw := tb5 92 rfl
theorem w5_93 : (Cond.constant RX9 91 (1048576)) ∈ tw := tb5 93 rfl
theorem w5_94 : (Cond.methodLink RX9 92 yX9_goes) ∈ tw := tb5 94 rfl
theorem w5_96 : (Cond.instanceMethod yX9_goes) ∈ tw := tb5 96 rfl
theorem w5_97 : (Cond.code yX9_goes prog_12_method_11_code 2 (none : Option Jvm.ClassFile.FieldType)) ∈ tw := tb5 97 rfl
theorem w5_98 : (Cond.methodLink RX9 95 yX9_branch) ∈ tw := tb5 98 rfl
theorem w5_100 : (Cond.instanceMethod yX9_branch) ∈ tw := tb5 100 rfl
theorem w5_101 : (Cond.code yX9_branch prog_12_method_15_code 6 (none : Option Jvm.ClassFile.FieldType)) ∈ tw := tb5 101 rfl
theorem w5_102 : (Cond.methodLink RX9 120 yX9_isBelow) ∈ tw := tb5 102 rfl
theorem w5_103 : (Cond.static yX9_isBelow) ∈ tw := tb5 103 rfl
theorem w5_104 : (Cond.code yX9_isBelow prog_12_method_12_code 2 (some .boolean)) ∈ tw := tb5 104 rfl
theorem w5_105 : (Cond.methodLink RX9 99 yX9_loads) ∈ tw := tb5 105 rfl
theorem w5_107 : (Cond.instanceMethod yX9_loads) ∈ tw := tb5 107 rfl
theorem w5_108 : (Cond.code yX9_loads prog_12_method_17_code 4 (none : Option Jvm.ClassFile.FieldType)) ∈ tw := tb5 108 rfl
theorem w5_109 : (Cond.methodLink RX9 124 yX9_reaches) ∈ tw := tb5 109 rfl
theorem w5_111 : (Cond.instanceMethod yX9_reaches) ∈ tw := tb5 111 rfl
theorem w5_112 : (Cond.code yX9_reaches prog_12_method_16_code 3 (some .boolean)) ∈ tw := tb5 112 rfl
theorem w5_113 : (Cond.constant RX9 127 (65535)) ∈ tw := tb5 113 rfl
theorem w5_114 : (Cond.methodLink RX9 103 yX9_stores) ∈ tw := tb5 114 rfl
theorem w5_116 : (Cond.instanceMethod yX9_stores) ∈ tw := tb5 116 rfl
theorem w5_117 : (Cond.code yX9_stores prog_12_method_18_code 6 (none : Option Jvm.ClassFile.FieldType)) ∈ tw := tb5 117 rfl
theorem w5_118 : (Cond.methodLink RX9 107 yX9_shifted) ∈ tw := tb5 118 rfl
theorem w5_119 : (Cond.static yX9_shifted) ∈ tw := tb5 119 rfl
theorem w5_120 : (Cond.code yX9_shifted prog_12_method_13_code 4 (some .int)) ∈ tw := tb5 120 rfl
theorem w5_121 : (Cond.methodLink RX9 111 yX9_worked) ∈ tw := tb5 121 rfl
theorem w5_122 : (Cond.static yX9_worked) ∈ tw := tb5 122 rfl
theorem w5_123 : (Cond.code yX9_worked prog_12_method_14_code 3 (some .int)) ∈ tw := tb5 123 rfl
theorem w5_124 : (Cond.methodLink RX9 114 yX9_calls) ∈ tw := tb5 124 rfl
theorem w5_126 : (Cond.instanceMethod yX9_calls) ∈ tw := tb5 126 rfl
theorem w5_127 : (Cond.code yX9_calls prog_12_method_19_code 1 (none : Option Jvm.ClassFile.FieldType)) ∈ tw := tb5 127 rfl
theorem w5_128 : (Cond.methodLink RL 49 yX10_state) ∈ tw := tb5 128 rfl
theorem w5_129 : (Cond.instanceMethod yX10_state) ∈ tw := tb5 129 rfl
theorem w5_130 : (Cond.selects RX10 yX10_state yX10_state) ∈ tw := tb5 130 rfl
theorem w5_131 : (Cond.code yX10_state prog_10_method_24_code 1 (some .int)) ∈ tw := tb5 131 rfl
theorem w5_132 : (Cond.methodLink RL 53 yX10_register) ∈ tw := tb5 132 rfl
theorem w5_133 : (Cond.instanceMethod yX10_register) ∈ tw := tb5 133 rfl
theorem w5_134 : (Cond.selects RX10 yX10_register yX10_register) ∈ tw := tb5 134 rfl
theorem w5_135 : (Cond.code yX10_register prog_10_method_26_code 2 (some .int)) ∈ tw := tb5 135 rfl
theorem w5_136 : (Cond.methodLink RX10 227 yX10_told) ∈ tw := tb5 136 rfl
theorem w5_137 : (Cond.static yX10_told) ∈ tw := tb5 137 rfl
theorem w5_138 : (Cond.code yX10_told prog_10_method_25_code 2 (some .int)) ∈ tw := tb5 138 rfl
theorem w5_139 : (Cond.methodLink RL 57 yX10_ram) ∈ tw := tb5 139 rfl
theorem w5_140 : (Cond.instanceMethod yX10_ram) ∈ tw := tb5 140 rfl
theorem w5_141 : (Cond.selects RX10 yX10_ram yX10_ram) ∈ tw := tb5 141 rfl
theorem w5_142 : (Cond.code yX10_ram prog_10_method_27_code 2 (some .int)) ∈ tw := tb5 142 rfl
theorem w5_143 : (Cond.methodLink RX10 231 yX9_byteAt) ∈ tw := tb5 143 rfl
theorem w5_144 : (Cond.methodLink RL 61 yX10_words) ∈ tw := tb5 144 rfl
theorem w5_145 : (Cond.instanceMethod yX10_words) ∈ tw := tb5 145 rfl
theorem w5_146 : (Cond.selects RX10 yX10_words yX10_words) ∈ tw := tb5 146 rfl
theorem w5_147 : (Cond.code yX10_words prog_10_method_28_code 1 (some .int)) ∈ tw := tb5 147 rfl
theorem w5_148 : (Cond.methodLink RL 65 yX10_word) ∈ tw := tb5 148 rfl
theorem w5_149 : (Cond.instanceMethod yX10_word) ∈ tw := tb5 149 rfl
theorem w5_150 : (Cond.selects RX10 yX10_word yX10_word) ∈ tw := tb5 150 rfl
theorem w5_151 : (Cond.code yX10_word prog_10_method_29_code 2 (some .int)) ∈ tw := tb5 151 rfl
theorem w5_152 : (Cond.methodLink RL 69 yX10_frames) ∈ tw := tb5 152 rfl
theorem w5_153 : (Cond.instanceMethod yX10_frames) ∈ tw := tb5 153 rfl
theorem w5_154 : (Cond.selects RX10 yX10_frames yX10_frames) ∈ tw := tb5 154 rfl
theorem w5_155 : (Cond.code yX10_frames prog_10_method_30_code 1 (some .int)) ∈ tw := tb5 155 rfl
theorem w5_156 : (Cond.methodLink RL 74 yX10_frame) ∈ tw := tb5 156 rfl
theorem w5_157 : (Cond.instanceMethod yX10_frame) ∈ tw := tb5 157 rfl
theorem w5_158 : (Cond.selects RX10 yX10_frame yX10_frame) ∈ tw := tb5 158 rfl
theorem w5_159 : (Cond.code yX10_frame prog_10_method_31_code 3 (some .int)) ∈ tw := tb5 159 rfl
theorem w5_160 : (Cond.methodLink RX10 234 yX8_has) ∈ tw := tb5 160 rfl
theorem w5_161 : (Cond.instanceMethod yX8_has) ∈ tw := tb5 161 rfl
theorem w5_162 : (Cond.selects RX8 yX8_has yX8_has) ∈ tw := tb5 162 rfl
theorem w5_163 : (Cond.code yX8_has prog_11_method_2_code 2 (some .boolean)) ∈ tw := tb5 163 rfl
theorem w5_164 : (Cond.methodLink RL 78 yX10_heard) ∈ tw := tb5 164 rfl
theorem w5_165 : (Cond.instanceMethod yX10_heard) ∈ tw := tb5 165 rfl
theorem w5_166 : (Cond.selects RX10 yX10_heard yX10_heard) ∈ tw := tb5 166 rfl
theorem w5_167 : (Cond.code yX10_heard prog_10_method_32_code 3 (some .int)) ∈ tw := tb5 167 rfl
theorem w5_168 : (Cond.methodLink RX10 247 yX8_at) ∈ tw := tb5 168 rfl
theorem w5_169 : (Cond.instanceMethod yX8_at) ∈ tw := tb5 169 rfl
theorem w5_170 : (Cond.selects RX8 yX8_at yX8_at) ∈ tw := tb5 170 rfl
theorem w5_171 : (Cond.code yX8_at prog_11_method_3_code 3 (some .int)) ∈ tw := tb5 171 rfl
theorem w5_172 : (Cond.methodLink RX8 29 yX8_has) ∈ tw := tb5 172 rfl
theorem w5_173 : (Cond.methodLink RL 82 yX10_count) ∈ tw := tb5 173 rfl
theorem w5_174 : (Cond.instanceMethod yX10_count) ∈ tw := tb5 174 rfl
theorem w5_175 : (Cond.selects RX10 yX10_count yX10_count) ∈ tw := tb5 175 rfl
theorem w5_176 : (Cond.code yX10_count prog_10_method_33_code 2 (some .int)) ∈ tw := tb5 176 rfl
theorem w5_177 : (Cond.methodLink RL 86 yX10_plain) ∈ tw := tb5 177 rfl
theorem w5_178 : (Cond.instanceMethod yX10_plain) ∈ tw := tb5 178 rfl
theorem w5_179 : (Cond.selects RX10 yX10_plain yX10_plain) ∈ tw := tb5 179 rfl
theorem w5_180 : (Cond.code yX10_plain prog_10_method_34_code 3 (some .int)) ∈ tw := tb5 180 rfl
theorem w5_181 : (Cond.methodLink RX10 251 yX9_begin) ∈ tw := tb5 181 rfl
theorem w5_182 : (Cond.instanceMethod yX9_begin) ∈ tw := tb5 182 rfl
theorem w5_183 : (Cond.selects RX9 yX9_begin yX9_begin) ∈ tw := tb5 183 rfl
theorem w5_184 : (Cond.code yX9_begin prog_12_method_2_code 5 (none : Option Jvm.ClassFile.FieldType)) ∈ tw := tb5 184 rfl
theorem w5_185 : (Cond.methodLink RL 90 yX10_plainly) ∈ tw := tb5 185 rfl
theorem w5_186 : (Cond.instanceMethod yX10_plainly) ∈ tw := tb5 186 rfl
theorem w5_187 : (Cond.selects RX10 yX10_plainly yX10_plainly) ∈ tw := tb5 187 rfl
theorem w5_188 : (Cond.code yX10_plainly prog_10_method_35_code 2 (some .int)) ∈ tw := tb5 188 rfl
theorem w5_189 : (Cond.methodLink RL 94 yX10_plainByte) ∈ tw := tb5 189 rfl
theorem w5_190 : (Cond.instanceMethod yX10_plainByte) ∈ tw := tb5 190 rfl
theorem w5_191 : (Cond.selects RX10 yX10_plainByte yX10_plainByte) ∈ tw := tb5 191 rfl
theorem w5_192 : (Cond.code yX10_plainByte prog_10_method_36_code 2 (some .int)) ∈ tw := tb5 192 rfl
theorem w5_193 : (Cond.methodLink RX10 255 yX9_isIn) ∈ tw := tb5 193 rfl
theorem w5_194 : (Cond.methodLink RL 98 yX10_plainFrame) ∈ tw := tb5 194 rfl
theorem w5_195 : (Cond.instanceMethod yX10_plainFrame) ∈ tw := tb5 195 rfl
theorem w5_196 : (Cond.selects RX10 yX10_plainFrame yX10_plainFrame) ∈ tw := tb5 196 rfl
theorem w5_197 : (Cond.code yX10_plainFrame prog_10_method_37_code 2 (some .int)) ∈ tw := tb5 197 rfl
theorem w5_198 : (Cond.methodLink RL 102 yX10_plainHeard) ∈ tw := tb5 198 rfl
theorem w5_199 : (Cond.instanceMethod yX10_plainHeard) ∈ tw := tb5 199 rfl
theorem w5_200 : (Cond.selects RX10 yX10_plainHeard yX10_plainHeard) ∈ tw := tb5 200 rfl
theorem w5_201 : (Cond.code yX10_plainHeard prog_10_method_38_code 3 (some .int)) ∈ tw := tb5 201 rfl
theorem w5_202 : (Cond.methodLink RL 106 yX10_strays) ∈ tw := tb5 202 rfl
theorem w5_203 : (Cond.instanceMethod yX10_strays) ∈ tw := tb5 203 rfl
theorem w5_204 : (Cond.selects RX10 yX10_strays yX10_strays) ∈ tw := tb5 204 rfl
theorem w5_205 : (Cond.code yX10_strays prog_10_method_39_code 1 (some .int)) ∈ tw := tb5 205 rfl
theorem w0_0 : (Cond.selects RX2 yX2_generation yX2_generation) ∈ tw := tb0 0 rfl
theorem w0_1 : (Cond.selects RX2 yX2_bufferStart yX2_bufferStart) ∈ tw := tb0 1 rfl
theorem w0_2 : (Cond.selects RX2 yX2_meetLog yX2_meetLog) ∈ tw := tb0 2 rfl
theorem w0_3 : (Cond.selects RX2 yX2_entriesThatCount yX2_entriesThatCount) ∈ tw := tb0 3 rfl
theorem w0_4 : (Cond.selects RX2 yX2_hasPower yX2_hasPower) ∈ tw := tb0 4 rfl
theorem w0_5 : (Cond.selects RX2 yX2_choose yX2_choose) ∈ tw := tb0 5 rfl
theorem w0_6 : (Cond.selects RX1 yX1_trapOfPlace yX1_trapOfPlace) ∈ tw := tb0 6 rfl
theorem w0_7 : (Cond.selects RX1 yX1_wordAt yX1_wordAt) ∈ tw := tb0 7 rfl
theorem w0_8 : (Cond.selects RX1 yX1_give yX1_give) ∈ tw := tb0 8 rfl
theorem w0_9 : (Cond.selects RX1 yX1_jump yX1_jump) ∈ tw := tb0 9 rfl
theorem w0_10 : (Cond.selects RX1 yX1_branch yX1_branch) ∈ tw := tb0 10 rfl
theorem w0_11 : (Cond.selects RX1 yX1_load yX1_load) ∈ tw := tb0 11 rfl
theorem w0_12 : (Cond.selects RX1 yX1_storeAt yX1_storeAt) ∈ tw := tb0 12 rfl
theorem w0_13 : (Cond.selects RX1 yX1_withNumber yX1_withNumber) ∈ tw := tb0 13 rfl
theorem w0_14 : (Cond.selects RX1 yX1_withRegister yX1_withRegister) ∈ tw := tb0 14 rfl
theorem w0_15 : (Cond.selects RX1 yX1_call yX1_call) ∈ tw := tb0 15 rfl
theorem w0_16 : (Cond.selects RX1 yX1_callToSend yX1_callToSend) ∈ tw := tb0 16 rfl
theorem w0_17 : (Cond.selects RX2 yX2_needsCheckpoint yX2_needsCheckpoint) ∈ tw := tb0 17 rfl
theorem w0_18 : (Cond.selects RX2 yX2_needsEntry yX2_needsEntry) ∈ tw := tb0 18 rfl
theorem w0_19 : (Cond.selects RX2 yX2_boot yX2_boot) ∈ tw := tb0 19 rfl
theorem w0_20 : (Cond.selects RX2 yX2_write yX2_write) ∈ tw := tb0 20 rfl
theorem w0_21 : (Cond.selects RX2 yX2_checkpoint yX2_checkpoint) ∈ tw := tb0 21 rfl
theorem w0_22 : (Cond.selects RX2 yX2_instruct yX2_instruct) ∈ tw := tb0 22 rfl
theorem w0_23 : (Cond.selects RX2 yX2_log yX2_log) ∈ tw := tb0 23 rfl
theorem w0_24 : (Cond.selects RX2 yX2_finish yX2_finish) ∈ tw := tb0 24 rfl
theorem w0_25 : (Cond.selects RX1 yX1_putWord yX1_putWord) ∈ tw := tb0 25 rfl
theorem w0_26 : (Cond.selects RX5 yX5_keeps yX5_keeps) ∈ tw := tb0 26 rfl
theorem w0_27 : (Cond.selects RX3 yX3_begin yX3_begin) ∈ tw := tb0 27 rfl
theorem w0_28 : (Cond.selects RX10 yX10_four yX10_four) ∈ tw := tb0 28 rfl
theorem w0_29 : (Cond.selects RX10 yX10_generation yX10_generation) ∈ tw := tb0 29 rfl
theorem w0_30 : (Cond.selects RX10 yX10_bufferAt yX10_bufferAt) ∈ tw := tb0 30 rfl
theorem w0_31 : (Cond.selects RX10 yX10_forgetEntries yX10_forgetEntries) ∈ tw := tb0 31 rfl
theorem w0_32 : (Cond.selects RX10 yX10_counting yX10_counting) ∈ tw := tb0 32 rfl
theorem w0_33 : (Cond.selects RX10 yX10_act yX10_act) ∈ tw := tb0 33 rfl
theorem w0_34 : (Cond.selects RX10 yX10_boot yX10_boot) ∈ tw := tb0 34 rfl
theorem w0_35 : (Cond.selects RX10 yX10_write yX10_write) ∈ tw := tb0 35 rfl
theorem w0_36 : (Cond.selects RX10 yX10_check yX10_check) ∈ tw := tb0 36 rfl
theorem w0_37 : (Cond.selects RX10 yX10_checkWord yX10_checkWord) ∈ tw := tb0 37 rfl
theorem w0_38 : (Cond.selects RX10 yX10_log yX10_log) ∈ tw := tb0 38 rfl
theorem w0_39 : (Cond.selects RX10 yX10_perform yX10_perform) ∈ tw := tb0 39 rfl
theorem w0_40 : (Cond.selects RX9 yX9_isRam yX9_isRam) ∈ tw := tb0 40 rfl
theorem w0_41 : (Cond.selects RX10 yX10_send yX10_send) ∈ tw := tb0 41 rfl
theorem w0_42 : (Cond.selects RX10 yX10_decide yX10_decide) ∈ tw := tb0 42 rfl
theorem w0_43 : (Cond.selects RX9 yX9_decode yX9_decode) ∈ tw := tb0 43 rfl
theorem w0_44 : (Cond.selects RX9 yX9_gives yX9_gives) ∈ tw := tb0 44 rfl
theorem w0_45 : (Cond.selects RX9 yX9_goes yX9_goes) ∈ tw := tb0 45 rfl
theorem w0_46 : (Cond.selects RX9 yX9_branch yX9_branch) ∈ tw := tb0 46 rfl
theorem w0_47 : (Cond.selects RX9 yX9_loads yX9_loads) ∈ tw := tb0 47 rfl
theorem w0_48 : (Cond.selects RX9 yX9_reaches yX9_reaches) ∈ tw := tb0 48 rfl
theorem w0_49 : (Cond.selects RX9 yX9_stores yX9_stores) ∈ tw := tb0 49 rfl
theorem w0_50 : (Cond.selects RX9 yX9_calls yX9_calls) ∈ tw := tb0 50 rfl
def tnF : List (String × Nat × String × String × String × String) := [("SensorNode", 127, "SensorNode$Plan", "installed", "Z", "SensorNode"), ("SensorNode$Guest", 118, "SensorNode$Plan", "ramBytes", "I", "SensorNode"), ("SensorNode$Node", 60, "SensorNode$Plan", "storeBytes", "I", "SensorNode"), ("SensorNode$Guest", 121, "SensorNode$Plan", "storeBytes", "I", "SensorNode"), ("SensorNode$Node", 54, "SensorNode$Plan", "entries", "I", "SensorNode"), ("SensorNode$Node", 133, "SensorNode$Plan", "interval", "I", "SensorNode"), ("SensorNode$Node", 66, "SensorNode$Plan", "start", "I", "SensorNode"), ("SensorNode$PlainMachine", 75, "SensorNode$Plan", "start", "I", "SensorNode")]
def tnM : List (String × Nat × MethodName × String) := [(RX7, 9, yX6_init, RX7), (RX7, 18, yX4_init, RX7), (RX2, 23, yX5_init, RX7), (RX3, 17, yX5_init, RX7), (RX10, 36, yX8_init, RX10)]
theorem inX0 : ∀ w ∈ wsX00, w ∈ tw := by
  intro w h
  obtain ⟨k, hk, rfl⟩ := List.mem_map.mp h
  have hk := List.mem_range.mp hk
  match k, hk with
  | 0, _ => exact w1_33
  | q + 1, hq => exact absurd hq (by omega)
theorem inX1 : ∀ w ∈ wsX10, w ∈ tw := by
  intro w h
  obtain ⟨k, hk, rfl⟩ := List.mem_map.mp h
  have hk := List.mem_range.mp hk
  match k, hk with
  | 0, _ => exact w1_138
  | 1, _ => exact w1_140
  | 2, _ => exact w1_142
  | 3, _ => exact w1_144
  | 4, _ => exact w1_146
  | 5, _ => exact w1_148
  | 6, _ => exact w1_150
  | 7, _ => exact w1_152
  | 8, _ => exact w1_154
  | 9, _ => exact w1_156
  | q + 10, hq => exact absurd hq (by omega)
theorem inX2 : ∀ w ∈ wsX20, w ∈ tw := by
  intro w h
  obtain ⟨k, hk, rfl⟩ := List.mem_map.mp h
  have hk := List.mem_range.mp hk
  match k, hk with
  | 0, _ => exact w1_174
  | 1, _ => exact w1_176
  | 2, _ => exact w1_178
  | 3, _ => exact w1_180
  | 4, _ => exact w1_182
  | 5, _ => exact w1_184
  | 6, _ => exact w1_186
  | 7, _ => exact w1_188
  | 8, _ => exact w1_190
  | 9, _ => exact w1_192
  | 10, _ => exact w1_194
  | 11, _ => exact w1_196
  | 12, _ => exact w1_198
  | 13, _ => exact w1_200
  | 14, _ => exact w1_202
  | q + 15, hq => exact absurd hq (by omega)
theorem inX3 : ∀ w ∈ wsX30, w ∈ tw := by
  intro w h
  obtain ⟨k, hk, rfl⟩ := List.mem_map.mp h
  have hk := List.mem_range.mp hk
  match k, hk with
  | 0, _ => exact w1_221
  | 1, _ => exact w1_223
  | 2, _ => exact w1_225
  | 3, _ => exact w1_227
  | 4, _ => exact w1_229
  | 5, _ => exact w1_231
  | q + 6, hq => exact absurd hq (by omega)
theorem inX4 : ∀ w ∈ wsX40, w ∈ tw := by
  intro w h
  obtain ⟨k, hk, rfl⟩ := List.mem_map.mp h
  have hk := List.mem_range.mp hk
  match k, hk with
  | 0, _ => exact w1_70
  | 1, _ => exact w1_72
  | 2, _ => exact w1_74
  | 3, _ => exact w1_76
  | 4, _ => exact w1_78
  | 5, _ => exact w1_80
  | 6, _ => exact w1_82
  | 7, _ => exact w1_84
  | 8, _ => exact w1_86
  | q + 9, hq => exact absurd hq (by omega)
theorem inX5 : ∀ w ∈ wsX50, w ∈ tw := by
  intro w h
  obtain ⟨k, hk, rfl⟩ := List.mem_map.mp h
  have hk := List.mem_range.mp hk
  match k, hk with
  | 0, _ => exact w1_109
  | 1, _ => exact w1_111
  | 2, _ => exact w1_113
  | 3, _ => exact w1_115
  | 4, _ => exact w1_117
  | 5, _ => exact w1_119
  | q + 6, hq => exact absurd hq (by omega)
theorem inX6 : ∀ w ∈ wsX60, w ∈ tw := by
  intro w h
  obtain ⟨k, hk, rfl⟩ := List.mem_map.mp h
  have hk := List.mem_range.mp hk
  match k, hk with
  | 0, _ => exact w1_40
  | 1, _ => exact w1_42
  | 2, _ => exact w1_44
  | q + 3, hq => exact absurd hq (by omega)
theorem inX7 : ∀ w ∈ wsX70, w ∈ tw := by
  intro w h
  obtain ⟨k, hk, rfl⟩ := List.mem_map.mp h
  have hk := List.mem_range.mp hk
  match k, hk with
  | 0, _ => exact w1_238
  | 1, _ => exact w2_0
  | 2, _ => exact w2_2
  | 3, _ => exact w2_4
  | q + 4, hq => exact absurd hq (by omega)
theorem inX8 : ∀ w ∈ wsX80, w ∈ tw := by
  intro w h
  obtain ⟨k, hk, rfl⟩ := List.mem_map.mp h
  have hk := List.mem_range.mp hk
  match k, hk with
  | 0, _ => exact w4_83
  | 1, _ => exact w4_85
  | 2, _ => exact w4_87
  | 3, _ => exact w4_89
  | 4, _ => exact w4_91
  | q + 5, hq => exact absurd hq (by omega)
theorem inX9 : ∀ w ∈ wsX90, w ∈ tw := by
  intro w h
  obtain ⟨k, hk, rfl⟩ := List.mem_map.mp h
  have hk := List.mem_range.mp hk
  match k, hk with
  | 0, _ => exact w4_22
  | 1, _ => exact w4_24
  | 2, _ => exact w4_26
  | 3, _ => exact w4_28
  | 4, _ => exact w4_30
  | 5, _ => exact w4_32
  | 6, _ => exact w4_34
  | 7, _ => exact w4_36
  | 8, _ => exact w4_38
  | 9, _ => exact w4_40
  | 10, _ => exact w4_42
  | 11, _ => exact w4_44
  | 12, _ => exact w4_46
  | 13, _ => exact w4_48
  | 14, _ => exact w4_50
  | 15, _ => exact w4_52
  | 16, _ => exact w4_54
  | 17, _ => exact w4_56
  | 18, _ => exact w4_58
  | 19, _ => exact w4_60
  | q + 20, hq => exact absurd hq (by omega)
theorem inX10 : ∀ w ∈ wsX100, w ∈ tw := by
  intro w h
  obtain ⟨k, hk, rfl⟩ := List.mem_map.mp h
  have hk := List.mem_range.mp hk
  match k, hk with
  | 0, _ => exact w4_131
  | 1, _ => exact w4_133
  | 2, _ => exact w4_135
  | 3, _ => exact w4_137
  | 4, _ => exact w4_139
  | 5, _ => exact w4_141
  | 6, _ => exact w4_143
  | 7, _ => exact w4_145
  | 8, _ => exact w4_147
  | 9, _ => exact w4_149
  | 10, _ => exact w4_151
  | 11, _ => exact w4_153
  | 12, _ => exact w4_155
  | 13, _ => exact w4_157
  | 14, _ => exact w4_159
  | 15, _ => exact w4_161
  | 16, _ => exact w4_163
  | 17, _ => exact w4_165
  | 18, _ => exact w4_167
  | 19, _ => exact w4_169
  | 20, _ => exact w4_171
  | 21, _ => exact w4_173
  | 22, _ => exact w4_175
  | 23, _ => exact w4_177
  | 24, _ => exact w4_179
  | 25, _ => exact w4_181
  | 26, _ => exact w4_183
  | 27, _ => exact w4_185
  | 28, _ => exact w4_187
  | 29, _ => exact w4_189
  | 30, _ => exact w4_191
  | 31, _ => exact w4_193
  | 32, _ => exact w4_195
  | 33, _ => exact w4_197
  | 34, _ => exact w4_199
  | 35, _ => exact w4_201
  | q + 36, hq => exact absurd hq (by omega)
end
section
/-! worlds of this proof: a fixed list of cells; all numbers in one table 'St' (cell, slot) -/
abbrev St : Type := Nat → Nat → Int32
def st_up (S : St) (k j : Nat) (v : Int32) : St := fun q => if q = k then upd (S k) j v else S q
abbrev sh_F : Type := Option (Nat × Bool)
abbrev sh_C : Type := (Nat × Nat) ⊕ (Nat × List sh_F)
abbrev sh_T : Type := List sh_C
abbrev vD : Type := va_G × (Nat → Nat) × (Nat → ClassId) × sh_T
def adr (X : vD) (k : Nat) : Nat := X.2.1 k
def cyr (X : vD) (t : Nat) : ClassId := X.2.2.1 t
def shp (X : vD) : sh_T := X.2.2.2
def sh_v (X : vD) (x : Int32) (f : sh_F) : Value := match f with
  | none => .int x
  | some (r, false) => .ref (adr X r)
  | some (r, true) => if x = 0 then .null else .ref (adr X r)
def sh_fs (X : vD) (f : Nat → Int32) (fs : List sh_F) : List Value := fs.mapIdx (fun j t => sh_v X (f j) t)
def sh_e (X : vD) (f : Nat → Int32) (d : sh_C) : va_E := match d with
  | .inl (t, n) => .inl (cyr X t, n, .inl f)
  | .inr (ci, fs) => .inr (ci, sh_fs X f fs)
def sh_w (X : vD) (S : St) : va_W := (shp X).mapIdx (fun k d => (adr X k, sh_e X (S k) d))
def sh_A (X : vD) (sz : Nat) : Nat → Prop := fun q => (∃ k, k < (shp X).length ∧ q = adr X k) ∨ sz ≤ q
def sh_J (X : vD) : Prop := ∀ i j, i < (shp X).length → j < (shp X).length → adr X i = adr X j → i = j
def sh_N (U : State) : Prop := (∀ q ∈ tnF, va_Nw (.fieldLinkNest q.1 q.2.1 q.2.2.1 q.2.2.2.1 q.2.2.2.2.1 q.2.2.2.2.2) U) ∧ ∀ q ∈ tnM, va_Nw (.methodLinkNest q.1 q.2.1 q.2.2.1 q.2.2.2) U
def tys3 (X : vD) : List (ClassId × FieldType) := [(cyr X 0, .int), (cyr X 1, .byte), (cyr X 2, .boolean)]
def sh_K (X : vD) (U : State) : Prop := va_K X.1 cls (tys3 X) U ∧ sh_N U
theorem sh_K.warm {X : vD} {s U : State} (hW : s.WarmedH U.vm) (h : sh_K X s) : sh_K X U := ⟨va_K.moved hW.alike h.1, fun q hq => va_Nw.warmF hW (h.2.1 q hq), fun q hq => va_Nw.warmM hW (h.2.2 q hq)⟩
theorem sh_K.same {X : vD} {s U : State} (hv : s.vm = U.vm) (h : sh_K X s) : sh_K X U := ⟨va_K.moved (by rw [hv]; exact Vm.Alike.refl U.vm) h.1, fun q hq => va_Nw.same rfl hv (h.2.1 q hq), fun q hq => va_Nw.same rfl hv (h.2.2 q hq)⟩
def sh_P (X : vD) (S : St) (H : Heap) : Prop := va_P X.1 cls (sh_w X S) H
theorem sh_w_at {X : vD} {S : St} {k : Nat} {d : sh_C} (h : (shp X)[k]? = some d) : (sh_w X S)[k]? = some (adr X k, sh_e X (S k) d) := by
  unfold sh_w
  rw [List.getElem?_mapIdx, h]
  rfl
theorem sh_w_some {X : vD} {S : St} {k : Nat} {q : Nat × va_E} (h : (sh_w X S)[k]? = some q) : ∃ d, (shp X)[k]? = some d ∧ q = (adr X k, sh_e X (S k) d) := by
  unfold sh_w at h
  rw [List.getElem?_mapIdx] at h
  cases hd : (shp X)[k]? with
  | none => rw [hd] at h; cases h
  | some d => rw [hd] at h; exact ⟨d, rfl, (Option.some.inj h).symm⟩
theorem sh_lt {X : vD} {k : Nat} {d : sh_C} (h : (shp X)[k]? = some d) : k < (shp X).length := (List.getElem?_eq_some_iff.mp h).1
theorem sh_D {X : vD} (hJ : sh_J X) (S : St) (sz : Nat) : va_D (sh_A X sz) (sh_w X S) := by
  refine ⟨fun i j x y hi hj hxy => ?_, fun k q hk => ?_⟩
  · obtain ⟨d1, h1, rfl⟩ := sh_w_some hi
    obtain ⟨d2, h2, rfl⟩ := sh_w_some hj
    exact hJ i j (sh_lt h1) (sh_lt h2) hxy
  · obtain ⟨d1, h1, rfl⟩ := sh_w_some hk
    exact Or.inl ⟨k, sh_lt h1, rfl⟩
theorem st_self (S : St) (k j : Nat) (v : Int32) : st_up S k j v k = upd (S k) j v := if_pos rfl
theorem st_other (S : St) {k q : Nat} (j : Nat) (v : Int32) (h : q ≠ k) : st_up S k j v q = S q := if_neg h
theorem sh_set {X : vD} {S : St} {k : Nat} {d : sh_C} (h : (shp X)[k]? = some d) (j : Nat) (v : Int32) : (sh_w X S).set k (adr X k, sh_e X (upd (S k) j v) d) = sh_w X (st_up S k j v) := by
  apply List.ext_getElem?
  intro i
  by_cases hi : i = k
  · subst hi
    rw [List.getElem?_set_self (by unfold sh_w; rw [List.length_mapIdx]; exact sh_lt h), sh_w_at h, st_self]
  · rw [List.getElem?_set_ne (Ne.symm hi)]
    unfold sh_w
    rw [List.getElem?_mapIdx, List.getElem?_mapIdx, st_other _ _ _ hi]
theorem sh_fs_at {X : vD} {f : Nat → Int32} {fs : List sh_F} {j : Nat} {t : sh_F} (h : fs[j]? = some t) : (sh_fs X f fs)[j]? = some (sh_v X (f j) t) := by
  unfold sh_fs
  rw [List.getElem?_mapIdx, h]
  rfl
theorem sh_fs_set {X : vD} {f : Nat → Int32} {fs : List sh_F} {j : Nat} {t : sh_F} (h : fs[j]? = some t) (v : Int32) : (sh_fs X f fs).set j (sh_v X v t) = sh_fs X (upd f j v) fs := by
  have hl := (List.getElem?_eq_some_iff.mp h).1
  apply List.ext_getElem?
  intro i
  by_cases hi : i = j
  · subst hi
    rw [List.getElem?_set_self (by unfold sh_fs; rw [List.length_mapIdx]; exact hl), sh_fs_at h]
    simp [upd]
  · rw [List.getElem?_set_ne (Ne.symm hi)]
    unfold sh_fs
    rw [List.getElem?_mapIdx, List.getElem?_mapIdx]
    simp [upd, hi]
theorem sh_fs_len {X : vD} {f : Nat → Int32} {fs : List sh_F} : (sh_fs X f fs).length = fs.length := by unfold sh_fs; rw [List.length_mapIdx]
/-! the end of a method, its contract -/
def vQ (X : vD) (sz : Nat) (K : Option Value × St) : Array Value → State → Outcome → State → Prop := fun _ st oc t => oc = .returned K.1 ∧ sh_P X K.2 t.heap ∧ va_F (sh_A X sz) st t
def vP (X : vD) (sz : Nat) (As : List Value) (S : St) : Array Value → State → Prop := va_Pc As (fun U => U.heap.size = sz ∧ sh_P X S U.heap ∧ sh_K X U)
def uw (y : MethodName) (cc : ByteArray) (n : Nat) (ret : Option FieldType) : List Cond := .code y cc n ret :: tw
def rmd (d : Nat) : Room := { frames := d, cells := 0, slots := 0, locals := 36 * d }
def Con (l : Launch) (X : vD) (y : MethodName) (cc : ByteArray) (n : Nat) (ret : Option FieldType) (d : Nat) (As : List Value) (S : St) (K : Option Value × St) : Prop :=
  ∀ sz : Nat, Met l y (uw y cc n ret) (rmd d) (vP X sz As S) (vQ X sz K) 0 0 (sh_A X sz)
def vG (p : Program) (s : State) (m : MethodId) (args : Array Value) (meth : Method) (c : Code) (X : vD) (sh0 : sh_T) (own : String) (cc : ByteArray) (nL : Nat) (ret : Option FieldType) : Prop :=
  p.tables.exec = Jvm.exec ∧ c.code = cc ∧ c.maxLocals = nL ∧ s.vm.findClass own = some m.cls ∧ (∀ w ∈ tw, w.before args s = true) ∧ sh_K X s ∧ sh_J X ∧ shp X = sh0 ∧ meth.sig.returnType = ret ∧ meth.locks = false
def V {τ : Type} (p : Program) (l : Launch) (e : Env) (d : Nat) (s : State) (m : MethodId) (args : Array Value) (below : List Frame) (meth : Method) (c : Code) (X : vD) (nL : Nat) (ρ : τ → Option Value × St) (S : St) (pc : Nat) (lv : List (Nat × Value)) (st : List Value) (K : τ) : Prop :=
  ∀ (H : Heap) (locs : List Loc) (ls : Array Slot), sh_P X S H → va_S (sh_A X s.heap.size) s.heap H locs → lv_has ls nL lv → W p l e (rmd d) s m args below meth c H locs 0 0 (MQ below (vQ X s.heap.size (ρ K)) args s 0 0 (sh_A X s.heap.size)) (F0 m pc ls st)
theorem lw_good : tw.all goodWord = true := List.all_eq_true.mpr (fun w h => (List.mem_filter.mp h).2)
theorem lw_goodAll : ∀ w ∈ tw, ((w.onTables && w.keeps) = true ∨ ∃ ty, w = .arrayClass ty) := fun w h => good_of_word (List.all_eq_true.mp lw_good w h)
theorem uw_good {y y' : MethodName} {cc cc' : ByteArray} {n n' : Nat} {ret ret' : Option FieldType} (h : Cond.code y' cc' n' ret' ∈ tw) : GoodIn (uw y cc n ret) (uw y' cc' n' ret') := by
  intro w hw
  rcases List.mem_cons.mp hw with rfl | hw
  · exact ⟨List.mem_cons_of_mem _ h, lw_goodAll _ h⟩
  · exact ⟨List.mem_cons_of_mem _ hw, lw_goodAll _ hw⟩
theorem lw_goodIn {y' : MethodName} {cc' : ByteArray} {n' : Nat} {ret' : Option FieldType} (h : Cond.code y' cc' n' ret' ∈ tw) : GoodIn tw (uw y' cc' n' ret') := by
  intro w hw
  rcases List.mem_cons.mp hw with rfl | hw
  · exact ⟨h, lw_goodAll _ h⟩
  · exact ⟨hw, lw_goodAll _ hw⟩
/-- a contract out of a walk -/
theorem con_of {l : Launch} {X : vD} {sh0 : sh_T} {y : MethodName} {cc : ByteArray} {n : Nat} {ret : Option FieldType} {d : Nat} {As : List Value} {S : St} {τ : Type} {ρ : τ → Option Value × St} {K : τ} (hJ : sh_J X) (hsh : shp X = sh0) (hy : plainName y.cls = true) (hn : (lg_sl As).length ≤ n) {lv : List (Nat × Value)} (hlv : lv_args 0 As = lv)
    (body : ∀ (p : Program) (e : Env) (s : State) (m : MethodId) (below : List Frame) (meth : Method) (c : Code), vG p s m As.toArray meth c X sh0 y.cls cc n ret → V p l e d s m As.toArray below meth c X n ρ S 0 lv [] K) : Con l X y cc n ret d As S (ρ K) := by
  intro sz
  refine Met.ofW (cc := cc) (maxL := n) (ret := ret) hy rfl ?_
  intro p e s m args below meth c s₁ B hml hv
  obtain ⟨rfl, hsz, hP, hK⟩ := hv
  subst hsz
  have hts := atoms_spec (ws := uw y cc n ret) B.pre
  have G : vG p s m As.toArray meth c X sh0 y.cls cc n ret := ⟨B.exec, B.bytes, hml, findClass_of_methodNamed B.named, fun w h => hts w (List.mem_cons_of_mem _ h), hK, hJ, hsh, B.returns, B.notSynchronized⟩
  have hl := lv_entry As (n := n) hn
  rw [hlv] at hl
  rw [lg_entry_eq]
  exact body p e s m below meth c G s.heap [] _ hP va_S.rf hl
end
section
/-! rows: an instruction each, over the fixed worlds; the pure term drives the walk -/
def ush (x y : Int32) : Int32 := (x.toUInt32 >>> (y.toUInt32 &&& Int32.toUInt32 31)).toInt32
def bnv {τ : Type} (S : St) (k : St → τ) : τ := k S
def bnd {τ : Type} (q : Int32 × St) (k : Int32 → St → τ) : τ := k q.1 q.2
def bnx {τ : Type} (x : Int32) (k : Int32 → τ) : τ := k x
def bnl {τ : Type} (x : Int64) (k : Int64 → τ) : τ := k x
section ROWS
variable {τ : Type} {p : Program} {l : Launch} {e : Env} {d : Nat} {s : State} {m : MethodId} {args : Array Value} {below : List Frame} {meth : Method} {c : Code} {X : vD} {sh0 : sh_T} {own : String} {cc : ByteArray} {nL : Nat} {ret : Option FieldType} {ρ : τ → Option Value × St} {S : St} {pc : Nat} {lv : List (Nat × Value)} {st : List Value} {K : τ}
theorem v_iconst (G : vG p s m args meth c X sh0 own cc nL ret) {n : Int} {v : Int32} (hd : decode cc pc = .ok (.iconst n, 1)) (hv : Int32.ofInt n = v) (k : V p l e d s m args below meth c X nL ρ S (pc + 1) lv (.int v :: st) K) : V p l e d s m args below meth c X nL ρ S pc lv (st) K := fun H locs ls hP hS hl => lv_iconst G.1 G.2.1 hd hv (k H locs ls hP hS hl)
theorem v_bipush (G : vG p s m args meth c X sh0 own cc nL ret) {n : Int} {v : Int32} (hd : decode cc pc = .ok (.bipush n, 2)) (hv : (Int8.ofInt n).toInt32 = v) (k : V p l e d s m args below meth c X nL ρ S (pc + 2) lv (.int v :: st) K) : V p l e d s m args below meth c X nL ρ S pc lv (st) K := fun H locs ls hP hS hl => lv_bipush G.1 G.2.1 hd hv (k H locs ls hP hS hl)
theorem v_sipush (G : vG p s m args meth c X sh0 own cc nL ret) {n : Int} {v : Int32} (hd : decode cc pc = .ok (.sipush n, 3)) (hv : (Int16.ofInt n).toInt32 = v) (k : V p l e d s m args below meth c X nL ρ S (pc + 3) lv (.int v :: st) K) : V p l e d s m args below meth c X nL ρ S pc lv (st) K := fun H locs ls hP hS hl => lv_sipush G.1 G.2.1 hd hv (k H locs ls hP hS hl)
theorem v_ldc (G : vG p s m args meth c X sh0 own cc nL ret) {i : Nat} {v : Int32} (hd : decode cc pc = .ok (.ldc i, 2)) (hw : Cond.constant own i v ∈ tw) (k : V p l e d s m args below meth c X nL ρ S (pc + 2) lv (.int v :: st) K) : V p l e d s m args below meth c X nL ρ S pc lv (st) K := fun H locs ls hP hS hl => lv_ldc G.1 G.2.1 G.2.2.2.1 (G.2.2.2.2.1 _ hw) hd (k H locs ls hP hS hl)
theorem v_ldc2 (G : vG p s m args meth c X sh0 own cc nL ret) {i : Nat} {v : Int64} (hd : decode cc pc = .ok (.ldc2_w i, 3)) (hw : Cond.constantLong own i v ∈ tw) (k : V p l e d s m args below meth c X nL ρ S (pc + 3) lv (.long v :: st) K) : V p l e d s m args below meth c X nL ρ S pc lv (st) K := fun H locs ls hP hS hl => lv_ldc2 G.1 G.2.1 G.2.2.2.1 (G.2.2.2.2.1 _ hw) hd (k H locs ls hP hS hl)
theorem v_iload_n (G : vG p s m args meth c X sh0 own cc nL ret) (q : Nat) {i : Fin 4} {x : Int32} (hd : decode cc pc = .ok (.iload_n i, 1)) (hk : lv[q]? = some ((i : Nat), .int x)) (k : V p l e d s m args below meth c X nL ρ S (pc + 1) lv (.int x :: st) K) : V p l e d s m args below meth c X nL ρ S pc lv (st) K := fun H locs ls hP hS hl => lv_iload_n G.1 G.2.1 hd rfl (lv_at hl q hk) (k H locs ls hP hS hl)
theorem v_iload (G : vG p s m args meth c X sh0 own cc nL ret) (q : Nat) {i : Nat} {x : Int32} (hd : decode cc pc = .ok (.iload i, 2)) (hk : lv[q]? = some (i, .int x)) (k : V p l e d s m args below meth c X nL ρ S (pc + 2) lv (.int x :: st) K) : V p l e d s m args below meth c X nL ρ S pc lv (st) K := fun H locs ls hP hS hl => lv_iload G.1 G.2.1 hd (lv_at hl q hk) (k H locs ls hP hS hl)
theorem v_aload_n (G : vG p s m args meth c X sh0 own cc nL ret) (q : Nat) {i : Fin 4} {x : Nat} (hd : decode cc pc = .ok (.aload_n i, 1)) (hk : lv[q]? = some ((i : Nat), .ref x)) (k : V p l e d s m args below meth c X nL ρ S (pc + 1) lv (.ref x :: st) K) : V p l e d s m args below meth c X nL ρ S pc lv (st) K := fun H locs ls hP hS hl => lv_aload_n G.1 G.2.1 hd rfl (lv_at hl q hk) (k H locs ls hP hS hl)
theorem v_aload (G : vG p s m args meth c X sh0 own cc nL ret) (q : Nat) {i : Nat} {x : Nat} (hd : decode cc pc = .ok (.aload i, 2)) (hk : lv[q]? = some (i, .ref x)) (k : V p l e d s m args below meth c X nL ρ S (pc + 2) lv (.ref x :: st) K) : V p l e d s m args below meth c X nL ρ S pc lv (st) K := fun H locs ls hP hS hl => lv_aload G.1 G.2.1 hd (lv_at hl q hk) (k H locs ls hP hS hl)
theorem v_lload_n (G : vG p s m args meth c X sh0 own cc nL ret) (q : Nat) {i : Fin 4} {x : Int64} (hd : decode cc pc = .ok (.lload_n i, 1)) (hk : lv[q]? = some ((i : Nat), .long x)) (k : V p l e d s m args below meth c X nL ρ S (pc + 1) lv (.long x :: st) K) : V p l e d s m args below meth c X nL ρ S pc lv (st) K := fun H locs ls hP hS hl => lv_lload_n G.1 G.2.1 hd rfl (lv_at hl q hk) (k H locs ls hP hS hl)
theorem v_lload (G : vG p s m args meth c X sh0 own cc nL ret) (q : Nat) {i : Nat} {x : Int64} (hd : decode cc pc = .ok (.lload i, 2)) (hk : lv[q]? = some (i, .long x)) (k : V p l e d s m args below meth c X nL ρ S (pc + 2) lv (.long x :: st) K) : V p l e d s m args below meth c X nL ρ S pc lv (st) K := fun H locs ls hP hS hl => lv_lload G.1 G.2.1 hd (lv_at hl q hk) (k H locs ls hP hS hl)
theorem v_istore_n (G : vG p s m args meth c X sh0 own cc nL ret) {i : Fin 4} {x : Int32} (lv' : List (Nat × Value)) (hd : decode cc pc = .ok (.istore_n i, 1)) (hn : (i : Nat) < nL) (he : ((i : Nat), Value.int x) :: lv.filter (fun q => !(q.1 == (i : Nat)) && !(q.1 + 1 == (i : Nat) && q.2.category == 2)) = lv') (k : V p l e d s m args below meth c X nL ρ S (pc + 1) lv' st K) : V p l e d s m args below meth c X nL ρ S pc lv (.int x :: st) K := fun H locs ls hP hS hl => lv_istore_n G.1 G.2.1 hd rfl hl hn he (fun ls' hl' => k H locs ls' hP hS hl')
theorem v_istore (G : vG p s m args meth c X sh0 own cc nL ret) {i : Nat} {x : Int32} (lv' : List (Nat × Value)) (hd : decode cc pc = .ok (.istore i, 2)) (hn : i < nL) (he : (i, Value.int x) :: lv.filter (fun q => !(q.1 == i) && !(q.1 + 1 == i && q.2.category == 2)) = lv') (k : V p l e d s m args below meth c X nL ρ S (pc + 2) lv' st K) : V p l e d s m args below meth c X nL ρ S pc lv (.int x :: st) K := fun H locs ls hP hS hl => lv_istore G.1 G.2.1 hd hl hn he (fun ls' hl' => k H locs ls' hP hS hl')
theorem v_astore_n (G : vG p s m args meth c X sh0 own cc nL ret) {i : Fin 4} {x : Nat} (lv' : List (Nat × Value)) (hd : decode cc pc = .ok (.astore_n i, 1)) (hn : (i : Nat) < nL) (he : ((i : Nat), Value.ref x) :: lv.filter (fun q => !(q.1 == (i : Nat)) && !(q.1 + 1 == (i : Nat) && q.2.category == 2)) = lv') (k : V p l e d s m args below meth c X nL ρ S (pc + 1) lv' st K) : V p l e d s m args below meth c X nL ρ S pc lv (.ref x :: st) K := fun H locs ls hP hS hl => lv_astore_n G.1 G.2.1 hd rfl hl hn he (fun ls' hl' => k H locs ls' hP hS hl')
theorem v_astore (G : vG p s m args meth c X sh0 own cc nL ret) {i : Nat} {x : Nat} (lv' : List (Nat × Value)) (hd : decode cc pc = .ok (.astore i, 2)) (hn : i < nL) (he : (i, Value.ref x) :: lv.filter (fun q => !(q.1 == i) && !(q.1 + 1 == i && q.2.category == 2)) = lv') (k : V p l e d s m args below meth c X nL ρ S (pc + 2) lv' st K) : V p l e d s m args below meth c X nL ρ S pc lv (.ref x :: st) K := fun H locs ls hP hS hl => lv_astore G.1 G.2.1 hd hl hn he (fun ls' hl' => k H locs ls' hP hS hl')
theorem v_lstore_n (G : vG p s m args meth c X sh0 own cc nL ret) {i : Fin 4} {x : Int64} (lv' : List (Nat × Value)) (hd : decode cc pc = .ok (.lstore_n i, 1)) (hn : (i : Nat) + 1 < nL) (he : ((i : Nat), Value.long x) :: lv.filter (fun q => !(q.1 == (i : Nat)) && (!(q.1 == (i : Nat) + 1) && !(q.1 + 1 == (i : Nat) && q.2.category == 2))) = lv') (k : V p l e d s m args below meth c X nL ρ S (pc + 1) lv' st K) : V p l e d s m args below meth c X nL ρ S pc lv (.long x :: st) K := fun H locs ls hP hS hl => lv_lstore_n G.1 G.2.1 hd rfl hl hn he (fun ls' hl' => k H locs ls' hP hS hl')
theorem v_lstore (G : vG p s m args meth c X sh0 own cc nL ret) {i : Nat} {x : Int64} (lv' : List (Nat × Value)) (hd : decode cc pc = .ok (.lstore i, 2)) (hn : i + 1 < nL) (he : (i, Value.long x) :: lv.filter (fun q => !(q.1 == i) && (!(q.1 == i + 1) && !(q.1 + 1 == i && q.2.category == 2))) = lv') (k : V p l e d s m args below meth c X nL ρ S (pc + 2) lv' st K) : V p l e d s m args below meth c X nL ρ S pc lv (.long x :: st) K := fun H locs ls hP hS hl => lv_lstore G.1 G.2.1 hd hl hn he (fun ls' hl' => k H locs ls' hP hS hl')
theorem v_iinc (G : vG p s m args meth c X sh0 own cc nL ret) {i : Nat} {n : Int} {x v : Int32} (q : Nat) (lv' : List (Nat × Value)) (hd : decode cc pc = .ok (.iinc i n, 3)) (hk : lv[q]? = some (i, .int x)) (hv : x + Int32.ofInt n = v) (hn : i < nL) (he : (i, Value.int v) :: lv.filter (fun q => !(q.1 == i) && !(q.1 + 1 == i && q.2.category == 2)) = lv') (k : V p l e d s m args below meth c X nL ρ S (pc + 3) lv' st K) : V p l e d s m args below meth c X nL ρ S pc lv st K := fun H locs ls hP hS hl => lv_iinc G.1 G.2.1 hd hl hk hv hn he (fun ls' hl' => k H locs ls' hP hS hl')
theorem v_iadd (G : vG p s m args meth c X sh0 own cc nL ret) {x y : Int32} (hd : decode cc pc = .ok (.iadd, 1))  (k : V p l e d s m args below meth c X nL ρ S (pc + 1) lv (.int (x + y) :: st) K) : V p l e d s m args below meth c X nL ρ S pc lv (.int y :: .int x :: st) K := fun H locs ls hP hS hl => lv_iadd G.1 G.2.1 hd (k H locs ls hP hS hl)
theorem v_isub (G : vG p s m args meth c X sh0 own cc nL ret) {x y : Int32} (hd : decode cc pc = .ok (.isub, 1))  (k : V p l e d s m args below meth c X nL ρ S (pc + 1) lv (.int (x - y) :: st) K) : V p l e d s m args below meth c X nL ρ S pc lv (.int y :: .int x :: st) K := fun H locs ls hP hS hl => lv_isub G.1 G.2.1 hd (k H locs ls hP hS hl)
theorem v_imul (G : vG p s m args meth c X sh0 own cc nL ret) {x y : Int32} (hd : decode cc pc = .ok (.imul, 1))  (k : V p l e d s m args below meth c X nL ρ S (pc + 1) lv (.int (x * y) :: st) K) : V p l e d s m args below meth c X nL ρ S pc lv (.int y :: .int x :: st) K := fun H locs ls hP hS hl => lv_imul G.1 G.2.1 hd (k H locs ls hP hS hl)
theorem v_iand (G : vG p s m args meth c X sh0 own cc nL ret) {x y : Int32} (hd : decode cc pc = .ok (.iand, 1))  (k : V p l e d s m args below meth c X nL ρ S (pc + 1) lv (.int (x &&& y) :: st) K) : V p l e d s m args below meth c X nL ρ S pc lv (.int y :: .int x :: st) K := fun H locs ls hP hS hl => lv_iand G.1 G.2.1 hd (k H locs ls hP hS hl)
theorem v_ior (G : vG p s m args meth c X sh0 own cc nL ret) {x y : Int32} (hd : decode cc pc = .ok (.ior, 1))  (k : V p l e d s m args below meth c X nL ρ S (pc + 1) lv (.int (x ||| y) :: st) K) : V p l e d s m args below meth c X nL ρ S pc lv (.int y :: .int x :: st) K := fun H locs ls hP hS hl => lv_ior G.1 G.2.1 hd (k H locs ls hP hS hl)
theorem v_ixor (G : vG p s m args meth c X sh0 own cc nL ret) {x y : Int32} (hd : decode cc pc = .ok (.ixor, 1))  (k : V p l e d s m args below meth c X nL ρ S (pc + 1) lv (.int (x ^^^ y) :: st) K) : V p l e d s m args below meth c X nL ρ S pc lv (.int y :: .int x :: st) K := fun H locs ls hP hS hl => lv_ixor G.1 G.2.1 hd (k H locs ls hP hS hl)
theorem v_ishl (G : vG p s m args meth c X sh0 own cc nL ret) {x y : Int32} (hd : decode cc pc = .ok (.ishl, 1))  (k : V p l e d s m args below meth c X nL ρ S (pc + 1) lv (.int (x <<< (y &&& 31)) :: st) K) : V p l e d s m args below meth c X nL ρ S pc lv (.int y :: .int x :: st) K := fun H locs ls hP hS hl => lv_ishl G.1 G.2.1 hd (k H locs ls hP hS hl)
theorem v_ishr (G : vG p s m args meth c X sh0 own cc nL ret) {x y : Int32} (hd : decode cc pc = .ok (.ishr, 1))  (k : V p l e d s m args below meth c X nL ρ S (pc + 1) lv (.int (x >>> (y &&& 31)) :: st) K) : V p l e d s m args below meth c X nL ρ S pc lv (.int y :: .int x :: st) K := fun H locs ls hP hS hl => lv_ishr G.1 G.2.1 hd (k H locs ls hP hS hl)
theorem v_iushr (G : vG p s m args meth c X sh0 own cc nL ret) {x y : Int32} (hd : decode cc pc = .ok (.iushr, 1))  (k : V p l e d s m args below meth c X nL ρ S (pc + 1) lv (.int (ush x y) :: st) K) : V p l e d s m args below meth c X nL ρ S pc lv (.int y :: .int x :: st) K := fun H locs ls hP hS hl => lv_iushr G.1 G.2.1 hd rfl (k H locs ls hP hS hl)
theorem v_idiv (G : vG p s m args meth c X sh0 own cc nL ret) {x y : Int32} (hd : decode cc pc = .ok (.idiv, 1)) (hne : ¬ y = 0) (k : V p l e d s m args below meth c X nL ρ S (pc + 1) lv (.int (x / y) :: st) K) : V p l e d s m args below meth c X nL ρ S pc lv (.int y :: .int x :: st) K := fun H locs ls hP hS hl => lv_idiv G.1 G.2.1 hd hne (k H locs ls hP hS hl)
theorem v_irem (G : vG p s m args meth c X sh0 own cc nL ret) {x y : Int32} (hd : decode cc pc = .ok (.irem, 1)) (hne : ¬ y = 0) (k : V p l e d s m args below meth c X nL ρ S (pc + 1) lv (.int (x - x / y * y) :: st) K) : V p l e d s m args below meth c X nL ρ S pc lv (.int y :: .int x :: st) K := fun H locs ls hP hS hl => lv_irem G.1 G.2.1 hd hne (k H locs ls hP hS hl)
theorem v_ladd (G : vG p s m args meth c X sh0 own cc nL ret) {x y : Int64} (hd : decode cc pc = .ok (.ladd, 1))  (k : V p l e d s m args below meth c X nL ρ S (pc + 1) lv (.long (x + y) :: st) K) : V p l e d s m args below meth c X nL ρ S pc lv (.long y :: .long x :: st) K := fun H locs ls hP hS hl => lv_ladd G.1 G.2.1 hd (k H locs ls hP hS hl)
theorem v_lsub (G : vG p s m args meth c X sh0 own cc nL ret) {x y : Int64} (hd : decode cc pc = .ok (.lsub, 1))  (k : V p l e d s m args below meth c X nL ρ S (pc + 1) lv (.long (x - y) :: st) K) : V p l e d s m args below meth c X nL ρ S pc lv (.long y :: .long x :: st) K := fun H locs ls hP hS hl => lv_lsub G.1 G.2.1 hd (k H locs ls hP hS hl)
theorem v_land (G : vG p s m args meth c X sh0 own cc nL ret) {x y : Int64} (hd : decode cc pc = .ok (.land, 1))  (k : V p l e d s m args below meth c X nL ρ S (pc + 1) lv (.long (x &&& y) :: st) K) : V p l e d s m args below meth c X nL ρ S pc lv (.long y :: .long x :: st) K := fun H locs ls hP hS hl => lv_land G.1 G.2.1 hd (k H locs ls hP hS hl)
theorem v_lshr (G : vG p s m args meth c X sh0 own cc nL ret) {x : Int64} {y : Int32} (hd : decode cc pc = .ok (.lshr, 1))  (k : V p l e d s m args below meth c X nL ρ S (pc + 1) lv (.long (x >>> (y.toInt64 &&& 63)) :: st) K) : V p l e d s m args below meth c X nL ρ S pc lv (.int y :: .long x :: st) K := fun H locs ls hP hS hl => lv_lshr G.1 G.2.1 hd rfl (k H locs ls hP hS hl)
theorem v_lcmp (G : vG p s m args meth c X sh0 own cc nL ret) {x y : Int64} (hd : decode cc pc = .ok (.lcmp, 1))  (k : V p l e d s m args below meth c X nL ρ S (pc + 1) lv (.int (lg_cmp x y) :: st) K) : V p l e d s m args below meth c X nL ρ S pc lv (.long y :: .long x :: st) K := fun H locs ls hP hS hl => W.lcmp G.1 G.2.1 hd (k H locs ls hP hS hl)
theorem v_i2l (G : vG p s m args meth c X sh0 own cc nL ret) {x : Int32} (hd : decode cc pc = .ok (.i2l, 1))  (k : V p l e d s m args below meth c X nL ρ S (pc + 1) lv (.long x.toInt64 :: st) K) : V p l e d s m args below meth c X nL ρ S pc lv (.int x :: st) K := fun H locs ls hP hS hl => lv_i2l G.1 G.2.1 hd rfl (k H locs ls hP hS hl)
theorem v_l2i (G : vG p s m args meth c X sh0 own cc nL ret) {x : Int64} (hd : decode cc pc = .ok (.l2i, 1))  (k : V p l e d s m args below meth c X nL ρ S (pc + 1) lv (.int x.toInt32 :: st) K) : V p l e d s m args below meth c X nL ρ S pc lv (.long x :: st) K := fun H locs ls hP hS hl => lv_l2i G.1 G.2.1 hd rfl (k H locs ls hP hS hl)
theorem v_i2b (G : vG p s m args meth c X sh0 own cc nL ret) {x : Int32} (hd : decode cc pc = .ok (.i2b, 1))  (k : V p l e d s m args below meth c X nL ρ S (pc + 1) lv (.int x.toInt8.toInt32 :: st) K) : V p l e d s m args below meth c X nL ρ S pc lv (.int x :: st) K := fun H locs ls hP hS hl => lv_i2b G.1 G.2.1 hd rfl (k H locs ls hP hS hl)
theorem v_i2s (G : vG p s m args meth c X sh0 own cc nL ret) {x : Int32} (hd : decode cc pc = .ok (.i2s, 1))  (k : V p l e d s m args below meth c X nL ρ S (pc + 1) lv (.int x.toInt16.toInt32 :: st) K) : V p l e d s m args below meth c X nL ρ S pc lv (.int x :: st) K := fun H locs ls hP hS hl => lv_i2s G.1 G.2.1 hd rfl (k H locs ls hP hS hl)
theorem v_dup (G : vG p s m args meth c X sh0 own cc nL ret) {a : Value} (hd : decode cc pc = .ok (.dup, 1)) (ha : a.category = 1) (k : V p l e d s m args below meth c X nL ρ S (pc + 1) lv (a :: a :: st) K) : V p l e d s m args below meth c X nL ρ S pc lv (a :: st) K := fun H locs ls hP hS hl => lv_dup G.1 G.2.1 hd ha (k H locs ls hP hS hl)
theorem v_dup2 (G : vG p s m args meth c X sh0 own cc nL ret) {a b : Value} (hd : decode cc pc = .ok (.dup2, 1)) (ha : a.category = 1) (hb : b.category = 1) (k : V p l e d s m args below meth c X nL ρ S (pc + 1) lv (a :: b :: a :: b :: st) K) : V p l e d s m args below meth c X nL ρ S pc lv (a :: b :: st) K := fun H locs ls hP hS hl => lv_dup2_11 G.1 G.2.1 hd ha hb (k H locs ls hP hS hl)
theorem v_dup_x1 (G : vG p s m args meth c X sh0 own cc nL ret) {a b : Value} (hd : decode cc pc = .ok (.dup_x1, 1)) (ha : a.category = 1) (hb : b.category = 1) (k : V p l e d s m args below meth c X nL ρ S (pc + 1) lv (a :: b :: a :: st) K) : V p l e d s m args below meth c X nL ρ S pc lv (a :: b :: st) K := fun H locs ls hP hS hl => lv_dup_x1 G.1 G.2.1 hd ha hb (k H locs ls hP hS hl)
theorem v_pop (G : vG p s m args meth c X sh0 own cc nL ret) {a : Value} (hd : decode cc pc = .ok (.pop, 1)) (ha : a.category = 1) (k : V p l e d s m args below meth c X nL ρ S (pc + 1) lv (st) K) : V p l e d s m args below meth c X nL ρ S pc lv (a :: st) K := fun H locs ls hP hS hl => lv_pop G.1 G.2.1 hd ha (k H locs ls hP hS hl)
theorem v_if_eq (G : vG p s m args meth c X sh0 own cc nL ret) {x : Int32} {off : Int} {tgt : Nat} {Kt Kf : τ} (hd : decode cc pc = .ok (.ifCond .eq off, 3)) (ht : (pc : Int) + off = (tgt : Int)) (kt : (x = 0) → V p l e d s m args below meth c X nL ρ S tgt lv st Kt) (kf : ¬ (x = 0) → V p l e d s m args below meth c X nL ρ S (pc + 3) lv st Kf) : V p l e d s m args below meth c X nL ρ S pc lv (.int x :: st) (if x = 0 then Kt else Kf) := fun H locs ls hP hS hl => lv_if_eq G.1 G.2.1 hd ht (fun h => by have h := h; rw [if_pos h]; exact kt h H locs ls hP hS hl) (fun h => by have h := h; rw [if_neg h]; exact kf h H locs ls hP hS hl)
theorem v_if_ne (G : vG p s m args meth c X sh0 own cc nL ret) {x : Int32} {off : Int} {tgt : Nat} {Kt Kf : τ} (hd : decode cc pc = .ok (.ifCond .ne off, 3)) (ht : (pc : Int) + off = (tgt : Int)) (kt : ¬ (x = 0) → V p l e d s m args below meth c X nL ρ S tgt lv st Kt) (kf : (x = 0) → V p l e d s m args below meth c X nL ρ S (pc + 3) lv st Kf) : V p l e d s m args below meth c X nL ρ S pc lv (.int x :: st) (if x = 0 then Kf else Kt) := fun H locs ls hP hS hl => lv_if_ne G.1 G.2.1 hd ht (fun h => by have h := h; rw [if_neg h]; exact kt h H locs ls hP hS hl) (fun h => by have h := h; rw [if_pos h]; exact kf h H locs ls hP hS hl)
theorem v_if_lt (G : vG p s m args meth c X sh0 own cc nL ret) {x : Int32} {off : Int} {tgt : Nat} {Kt Kf : τ} (hd : decode cc pc = .ok (.ifCond .lt off, 3)) (ht : (pc : Int) + off = (tgt : Int)) (kt : (x < 0) → V p l e d s m args below meth c X nL ρ S tgt lv st Kt) (kf : ¬ (x < 0) → V p l e d s m args below meth c X nL ρ S (pc + 3) lv st Kf) : V p l e d s m args below meth c X nL ρ S pc lv (.int x :: st) (if x < 0 then Kt else Kf) := fun H locs ls hP hS hl => lv_if_lt G.1 G.2.1 hd ht (fun h => by have h := h; rw [if_pos h]; exact kt h H locs ls hP hS hl) (fun h => by have h := h; rw [if_neg h]; exact kf h H locs ls hP hS hl)
theorem v_if_ge (G : vG p s m args meth c X sh0 own cc nL ret) {x : Int32} {off : Int} {tgt : Nat} {Kt Kf : τ} (hd : decode cc pc = .ok (.ifCond .ge off, 3)) (ht : (pc : Int) + off = (tgt : Int)) (kt : ¬ (x < 0) → V p l e d s m args below meth c X nL ρ S tgt lv st Kt) (kf : (x < 0) → V p l e d s m args below meth c X nL ρ S (pc + 3) lv st Kf) : V p l e d s m args below meth c X nL ρ S pc lv (.int x :: st) (if x < 0 then Kf else Kt) := fun H locs ls hP hS hl => lv_if_ge G.1 G.2.1 hd ht (fun h => by have h := Int32.not_lt.mpr h; rw [if_neg h]; exact kt h H locs ls hP hS hl) (fun h => by have h := Int32.not_le.mp h; rw [if_pos h]; exact kf h H locs ls hP hS hl)
theorem v_if_gt (G : vG p s m args meth c X sh0 own cc nL ret) {x : Int32} {off : Int} {tgt : Nat} {Kt Kf : τ} (hd : decode cc pc = .ok (.ifCond .gt off, 3)) (ht : (pc : Int) + off = (tgt : Int)) (kt : (0 < x) → V p l e d s m args below meth c X nL ρ S tgt lv st Kt) (kf : ¬ (0 < x) → V p l e d s m args below meth c X nL ρ S (pc + 3) lv st Kf) : V p l e d s m args below meth c X nL ρ S pc lv (.int x :: st) (if 0 < x then Kt else Kf) := fun H locs ls hP hS hl => lv_if_gt G.1 G.2.1 hd ht (fun h => by have h := h; rw [if_pos h]; exact kt h H locs ls hP hS hl) (fun h => by have h := h; rw [if_neg h]; exact kf h H locs ls hP hS hl)
theorem v_if_le (G : vG p s m args meth c X sh0 own cc nL ret) {x : Int32} {off : Int} {tgt : Nat} {Kt Kf : τ} (hd : decode cc pc = .ok (.ifCond .le off, 3)) (ht : (pc : Int) + off = (tgt : Int)) (kt : ¬ (0 < x) → V p l e d s m args below meth c X nL ρ S tgt lv st Kt) (kf : (0 < x) → V p l e d s m args below meth c X nL ρ S (pc + 3) lv st Kf) : V p l e d s m args below meth c X nL ρ S pc lv (.int x :: st) (if 0 < x then Kf else Kt) := fun H locs ls hP hS hl => lv_if_le G.1 G.2.1 hd ht (fun h => by have h := Int32.not_lt.mpr h; rw [if_neg h]; exact kt h H locs ls hP hS hl) (fun h => by have h := Int32.not_le.mp h; rw [if_pos h]; exact kf h H locs ls hP hS hl)
theorem v_icmp_eq (G : vG p s m args meth c X sh0 own cc nL ret) {x y : Int32} {off : Int} {tgt : Nat} {Kt Kf : τ} (hd : decode cc pc = .ok (.if_icmp .eq off, 3)) (ht : (pc : Int) + off = (tgt : Int)) (kt : (x = y) → V p l e d s m args below meth c X nL ρ S tgt lv st Kt) (kf : ¬ (x = y) → V p l e d s m args below meth c X nL ρ S (pc + 3) lv st Kf) : V p l e d s m args below meth c X nL ρ S pc lv (.int y :: .int x :: st) (if x = y then Kt else Kf) := fun H locs ls hP hS hl => lv_icmp_eq G.1 G.2.1 hd ht (fun h => by have h := h; rw [if_pos h]; exact kt h H locs ls hP hS hl) (fun h => by have h := h; rw [if_neg h]; exact kf h H locs ls hP hS hl)
theorem v_icmp_ne (G : vG p s m args meth c X sh0 own cc nL ret) {x y : Int32} {off : Int} {tgt : Nat} {Kt Kf : τ} (hd : decode cc pc = .ok (.if_icmp .ne off, 3)) (ht : (pc : Int) + off = (tgt : Int)) (kt : ¬ (x = y) → V p l e d s m args below meth c X nL ρ S tgt lv st Kt) (kf : (x = y) → V p l e d s m args below meth c X nL ρ S (pc + 3) lv st Kf) : V p l e d s m args below meth c X nL ρ S pc lv (.int y :: .int x :: st) (if x = y then Kf else Kt) := fun H locs ls hP hS hl => lv_icmp_ne G.1 G.2.1 hd ht (fun h => by have h := h; rw [if_neg h]; exact kt h H locs ls hP hS hl) (fun h => by have h := h; rw [if_pos h]; exact kf h H locs ls hP hS hl)
theorem v_icmp_lt (G : vG p s m args meth c X sh0 own cc nL ret) {x y : Int32} {off : Int} {tgt : Nat} {Kt Kf : τ} (hd : decode cc pc = .ok (.if_icmp .lt off, 3)) (ht : (pc : Int) + off = (tgt : Int)) (kt : (x < y) → V p l e d s m args below meth c X nL ρ S tgt lv st Kt) (kf : ¬ (x < y) → V p l e d s m args below meth c X nL ρ S (pc + 3) lv st Kf) : V p l e d s m args below meth c X nL ρ S pc lv (.int y :: .int x :: st) (if x < y then Kt else Kf) := fun H locs ls hP hS hl => lv_icmp_lt G.1 G.2.1 hd ht (fun h => by have h := h; rw [if_pos h]; exact kt h H locs ls hP hS hl) (fun h => by have h := h; rw [if_neg h]; exact kf h H locs ls hP hS hl)
theorem v_icmp_ge (G : vG p s m args meth c X sh0 own cc nL ret) {x y : Int32} {off : Int} {tgt : Nat} {Kt Kf : τ} (hd : decode cc pc = .ok (.if_icmp .ge off, 3)) (ht : (pc : Int) + off = (tgt : Int)) (kt : ¬ (x < y) → V p l e d s m args below meth c X nL ρ S tgt lv st Kt) (kf : (x < y) → V p l e d s m args below meth c X nL ρ S (pc + 3) lv st Kf) : V p l e d s m args below meth c X nL ρ S pc lv (.int y :: .int x :: st) (if x < y then Kf else Kt) := fun H locs ls hP hS hl => lv_icmp_ge G.1 G.2.1 hd ht (fun h => by have h := Int32.not_lt.mpr h; rw [if_neg h]; exact kt h H locs ls hP hS hl) (fun h => by have h := Int32.not_le.mp h; rw [if_pos h]; exact kf h H locs ls hP hS hl)
theorem v_icmp_gt (G : vG p s m args meth c X sh0 own cc nL ret) {x y : Int32} {off : Int} {tgt : Nat} {Kt Kf : τ} (hd : decode cc pc = .ok (.if_icmp .gt off, 3)) (ht : (pc : Int) + off = (tgt : Int)) (kt : (y < x) → V p l e d s m args below meth c X nL ρ S tgt lv st Kt) (kf : ¬ (y < x) → V p l e d s m args below meth c X nL ρ S (pc + 3) lv st Kf) : V p l e d s m args below meth c X nL ρ S pc lv (.int y :: .int x :: st) (if y < x then Kt else Kf) := fun H locs ls hP hS hl => lv_icmp_gt G.1 G.2.1 hd ht (fun h => by have h := h; rw [if_pos h]; exact kt h H locs ls hP hS hl) (fun h => by have h := h; rw [if_neg h]; exact kf h H locs ls hP hS hl)
theorem v_icmp_le (G : vG p s m args meth c X sh0 own cc nL ret) {x y : Int32} {off : Int} {tgt : Nat} {Kt Kf : τ} (hd : decode cc pc = .ok (.if_icmp .le off, 3)) (ht : (pc : Int) + off = (tgt : Int)) (kt : ¬ (y < x) → V p l e d s m args below meth c X nL ρ S tgt lv st Kt) (kf : (y < x) → V p l e d s m args below meth c X nL ρ S (pc + 3) lv st Kf) : V p l e d s m args below meth c X nL ρ S pc lv (.int y :: .int x :: st) (if y < x then Kf else Kt) := fun H locs ls hP hS hl => lv_icmp_le G.1 G.2.1 hd ht (fun h => by have h := Int32.not_lt.mpr h; rw [if_neg h]; exact kt h H locs ls hP hS hl) (fun h => by have h := Int32.not_le.mp h; rw [if_pos h]; exact kf h H locs ls hP hS hl)
theorem v_goto (G : vG p s m args meth c X sh0 own cc nL ret) {off : Int} {tgt : Nat} (hd : decode cc pc = .ok (.goto off, 3)) (ht : (pc : Int) + off = (tgt : Int)) (k : V p l e d s m args below meth c X nL ρ S tgt lv st K) : V p l e d s m args below meth c X nL ρ S pc lv st K := fun H locs ls hP hS hl => lv_goto G.1 G.2.1 hd ht (k H locs ls hP hS hl)
theorem v_sw {x : Int32} (n : Int32) {K1 K2 : τ} (k1 : V p l e d s m args below meth c X nL ρ S pc lv (.int n :: st) K1) (k2 : ¬ x = n → V p l e d s m args below meth c X nL ρ S pc lv (.int x :: st) K2) : V p l e d s m args below meth c X nL ρ S pc lv (.int x :: st) (if x = n then K1 else K2) := by
  by_cases h : x = n
  · rw [if_pos h, h]; exact k1
  · rw [if_neg h]; exact k2 h
theorem v_lookup (G : vG p s m args meth c X sh0 own cc nL ret) {x : Int32} {dflt : Int} {ps : Array (Int × Int)} {len : Nat} {off : Int} {tgt : Nat} (hd : decode cc pc = .ok (.lookupswitch dflt ps, len)) (hp : (ps.toList.zip (ps.toList.drop 1)).all (fun (a, next) => a.1 < next.1) = true) (ho : Op.lookupswitch.offset ps.toList dflt x.toInt = off) (ht : (pc : Int) + off = (tgt : Int)) (k : V p l e d s m args below meth c X nL ρ S tgt lv st K) : V p l e d s m args below meth c X nL ρ S pc lv (.int x :: st) K := fun H locs ls hP hS hl => lv_lookup G.1 G.2.1 hd hp ho ht (k H locs ls hP hS hl)
theorem v_tableOut (G : vG p s m args meth c X sh0 own cc nL ret) {x : Int32} {dflt lo hi : Int} {offs : Array Int} {len : Nat} {tgt : Nat} (hd : decode cc pc = .ok (.tableswitch dflt lo hi offs, len)) (h : x.toInt < lo ∨ hi < x.toInt) (ht : (pc : Int) + dflt = (tgt : Int)) (k : V p l e d s m args below meth c X nL ρ S tgt lv st K) : V p l e d s m args below meth c X nL ρ S pc lv (.int x :: st) K := fun H locs ls hP hS hl => lv_tableOut G.1 G.2.1 hd h ht (k H locs ls hP hS hl)
theorem v_tableIn (G : vG p s m args meth c X sh0 own cc nL ret) {x : Int32} {dflt lo hi : Int} {offs : Array Int} {len : Nat} {off : Int} {tgt : Nat} (hd : decode cc pc = .ok (.tableswitch dflt lo hi offs, len)) (h1 : ¬ x.toInt < lo) (h2 : ¬ hi < x.toInt) (ho : offs[(x.toInt - lo).toNat]? = some off) (ht : (pc : Int) + off = (tgt : Int)) (k : V p l e d s m args below meth c X nL ρ S tgt lv st K) : V p l e d s m args below meth c X nL ρ S pc lv (.int x :: st) K := fun H locs ls hP hS hl => lv_tableIn G.1 G.2.1 hd h1 h2 ho ht (k H locs ls hP hS hl)
theorem v_namei {x : Int32} {kf : Int32 → τ} (k : ∀ y : Int32, y = x → V p l e d s m args below meth c X nL ρ S pc lv (.int y :: st) (kf y)) : V p l e d s m args below meth c X nL ρ S pc lv (.int x :: st) (bnx x kf) := k x rfl
theorem v_namel {x : Int64} {kf : Int64 → τ} (k : ∀ y : Int64, y = x → V p l e d s m args below meth c X nL ρ S pc lv (.long y :: st) (kf y)) : V p l e d s m args below meth c X nL ρ S pc lv (.long x :: st) (bnl x kf) := k x rfl
theorem v_geti (G : vG p s m args meth c X sh0 own cc nL ret) {C : String} {T : u_T} {N ci i k j : Nat} {fl : List sh_F} (hin : ∀ w ∈ u_ws C T N, w ∈ tw) (hc : cls[ci]? = some (C, T, N)) (hs : sh0[k]? = some (.inr (ci, fl))) (hf : fl[j]? = some (none)) (hj : j < N) (hw : Cond.fieldLink own i (T j).1 (T j).2.1 (T j).2.2.1 ∈ tw)  (hd : decode cc pc = .ok (.getfield i, 3)) (k1 : V p l e d s m args below meth c X nL ρ S (pc + 3) lv (.int (S k j) :: st) K) : V p l e d s m args below meth c X nL ρ S pc lv (.ref (adr X k) :: st) K := fun H locs ls hP hS hl => va_get (D := X.1) (fs := sh_fs X (S k) fl) G.1 G.2.1 G.2.2.2.2.1 hin G.2.2.2.1 G.2.2.2.2.2.1.1 hP k (by rw [sh_w_at (by rw [G.2.2.2.2.2.2.2.1]; exact hs)]; rfl) hc j hj (G.2.2.2.2.1 _ hw) (fun _ h9 => h9) (by rw [sh_fs_at hf]; exact congrArg some rfl) hd (k1 H locs ls hP hS hl)
theorem v_getr (G : vG p s m args meth c X sh0 own cc nL ret) {C : String} {T : u_T} {N ci i k j : Nat} {fl : List sh_F} {r : Nat} (hin : ∀ w ∈ u_ws C T N, w ∈ tw) (hc : cls[ci]? = some (C, T, N)) (hs : sh0[k]? = some (.inr (ci, fl))) (hf : fl[j]? = some (some (r, false))) (hj : j < N) (hw : Cond.fieldLink own i (T j).1 (T j).2.1 (T j).2.2.1 ∈ tw)  (hd : decode cc pc = .ok (.getfield i, 3)) (k1 : V p l e d s m args below meth c X nL ρ S (pc + 3) lv (.ref (adr X r) :: st) K) : V p l e d s m args below meth c X nL ρ S pc lv (.ref (adr X k) :: st) K := fun H locs ls hP hS hl => va_get (D := X.1) (fs := sh_fs X (S k) fl) G.1 G.2.1 G.2.2.2.2.1 hin G.2.2.2.1 G.2.2.2.2.2.1.1 hP k (by rw [sh_w_at (by rw [G.2.2.2.2.2.2.2.1]; exact hs)]; rfl) hc j hj (G.2.2.2.2.1 _ hw) (fun _ h9 => h9) (by rw [sh_fs_at hf]; exact congrArg some rfl) hd (k1 H locs ls hP hS hl)
theorem v_getq (G : vG p s m args meth c X sh0 own cc nL ret) {C : String} {T : u_T} {N ci i k j : Nat} {fl : List sh_F} {r : Nat} (hin : ∀ w ∈ u_ws C T N, w ∈ tw) (hc : cls[ci]? = some (C, T, N)) (hs : sh0[k]? = some (.inr (ci, fl))) (hf : fl[j]? = some (some (r, true))) (hj : j < N) (hw : Cond.fieldLink own i (T j).1 (T j).2.1 (T j).2.2.1 ∈ tw) (hz : ¬ S k j = 0) (hd : decode cc pc = .ok (.getfield i, 3)) (k1 : V p l e d s m args below meth c X nL ρ S (pc + 3) lv (.ref (adr X r) :: st) K) : V p l e d s m args below meth c X nL ρ S pc lv (.ref (adr X k) :: st) K := fun H locs ls hP hS hl => va_get (D := X.1) (fs := sh_fs X (S k) fl) G.1 G.2.1 G.2.2.2.2.1 hin G.2.2.2.1 G.2.2.2.2.2.1.1 hP k (by rw [sh_w_at (by rw [G.2.2.2.2.2.2.2.1]; exact hs)]; rfl) hc j hj (G.2.2.2.2.1 _ hw) (fun _ h9 => h9) (by rw [sh_fs_at hf]; exact congrArg some (by show (if _ then _ else _) = _; rw [if_neg hz])) hd (k1 H locs ls hP hS hl)
theorem v_puti (G : vG p s m args meth c X sh0 own cc nL ret) {C : String} {T : u_T} {N ci i k j : Nat} {fl : List sh_F} {v : Int32} {ty0 : Nat → FieldType} {kf : St → τ} (hin : ∀ w ∈ u_ws C T N, w ∈ tw) (hc : cls[ci]? = some (C, T, N)) (hs : sh0[k]? = some (.inr (ci, fl))) (hty : ∀ k, k < N → parseFieldDescriptor (T k).2.2.1 = some (ty0 k)) (hnm : ∀ a, a < N → ∀ b, b < N → a ≠ b → (T a).2.1 ≠ (T b).2.1) (hf : fl[j]? = some none) (hj : j < N) (hfin : (T j).2.2.2 = false) (hn : narrow (ty0 j) (.int v) = .int v) (hfit : fits (ty0 j) (.int v) = true) (hw : Cond.fieldLink own i (T j).1 (T j).2.1 (T j).2.2.1 ∈ tw) (hd : decode cc pc = .ok (.putfield i, 3)) (k1 : ∀ S1 : St, S1 = st_up S k j v → V p l e d s m args below meth c X nL ρ S1 (pc + 3) lv st (kf S1)) : V p l e d s m args below meth c X nL ρ S pc lv (.int v :: .ref (adr X k) :: st) (bnv (st_up S k j v) kf) := by
  intro H locs ls hP hS hl
  have hs' : (shp X)[k]? = some (.inr (ci, fl)) := by rw [G.2.2.2.2.2.2.2.1]; exact hs
  refine va_put (D := X.1) (fs := sh_fs X (S k) fl) (ty := ty0 j) G.1 G.2.1 G.2.2.2.2.1 hin ty0 hty hnm G.2.2.2.1 G.2.2.2.2.2.1.1 hP (sh_D G.2.2.2.2.2.2.1 S s.heap.size) hS k (by rw [sh_w_at hs']; rfl) hc j hj (G.2.2.2.2.1 _ hw) (fun _ h9 => h9) hfin (hty j hj) hn hfit (by rw [sh_fs_len]; exact (List.getElem?_eq_some_iff.mp hf).1) hd (fun H1 locs1 hP1 _ hS1 => ?_)
  have e1 : (sh_fs X (S k) fl).set j (.int v) = sh_fs X (upd (S k) j v) fl := sh_fs_set (t := none) hf v
  rw [e1] at hP1
  have e2 : (sh_w X S).set k (adr X k, .inr (ci, sh_fs X (upd (S k) j v) fl)) = sh_w X (st_up S k j v) := sh_set (d := .inr (ci, fl)) hs' j v
  rw [e2] at hP1
  exact k1 _ rfl H1 locs1 ls hP1 hS1 hl
theorem v_getNi (G : vG p s m args meth c X sh0 own cc nL ret) {C : String} {T : u_T} {N ci i k j : Nat} {fl : List sh_F} (hin : ∀ w ∈ u_ws C T N, w ∈ tw) (hc : cls[ci]? = some (C, T, N)) (hs : sh0[k]? = some (.inr (ci, fl))) (hf : fl[j]? = some (none)) (hj : j < N) {host : String} (hw : (own, i, (T j).1, (T j).2.1, (T j).2.2.1, host) ∈ tnF)  (hd : decode cc pc = .ok (.getfield i, 3)) (k1 : V p l e d s m args below meth c X nL ρ S (pc + 3) lv (.int (S k j) :: st) K) : V p l e d s m args below meth c X nL ρ S pc lv (.ref (adr X k) :: st) K := fun H locs ls hP hS hl => va_getN (D := X.1) (fs := sh_fs X (S k) fl) G.1 G.2.1 G.2.2.2.2.1 hin G.2.2.2.1 G.2.2.2.2.2.1.1 hP k (by rw [sh_w_at (by rw [G.2.2.2.2.2.2.2.1]; exact hs)]; rfl) hc j hj (va_Nw.use rfl (G.2.2.2.2.2.1.2.1 _ hw)) (fun _ h9 => h9) (by rw [sh_fs_at hf]; exact congrArg some rfl) hd (k1 H locs ls hP hS hl)
theorem v_getNr (G : vG p s m args meth c X sh0 own cc nL ret) {C : String} {T : u_T} {N ci i k j : Nat} {fl : List sh_F} {r : Nat} (hin : ∀ w ∈ u_ws C T N, w ∈ tw) (hc : cls[ci]? = some (C, T, N)) (hs : sh0[k]? = some (.inr (ci, fl))) (hf : fl[j]? = some (some (r, false))) (hj : j < N) {host : String} (hw : (own, i, (T j).1, (T j).2.1, (T j).2.2.1, host) ∈ tnF)  (hd : decode cc pc = .ok (.getfield i, 3)) (k1 : V p l e d s m args below meth c X nL ρ S (pc + 3) lv (.ref (adr X r) :: st) K) : V p l e d s m args below meth c X nL ρ S pc lv (.ref (adr X k) :: st) K := fun H locs ls hP hS hl => va_getN (D := X.1) (fs := sh_fs X (S k) fl) G.1 G.2.1 G.2.2.2.2.1 hin G.2.2.2.1 G.2.2.2.2.2.1.1 hP k (by rw [sh_w_at (by rw [G.2.2.2.2.2.2.2.1]; exact hs)]; rfl) hc j hj (va_Nw.use rfl (G.2.2.2.2.2.1.2.1 _ hw)) (fun _ h9 => h9) (by rw [sh_fs_at hf]; exact congrArg some rfl) hd (k1 H locs ls hP hS hl)
theorem v_getNq (G : vG p s m args meth c X sh0 own cc nL ret) {C : String} {T : u_T} {N ci i k j : Nat} {fl : List sh_F} {r : Nat} (hin : ∀ w ∈ u_ws C T N, w ∈ tw) (hc : cls[ci]? = some (C, T, N)) (hs : sh0[k]? = some (.inr (ci, fl))) (hf : fl[j]? = some (some (r, true))) (hj : j < N) {host : String} (hw : (own, i, (T j).1, (T j).2.1, (T j).2.2.1, host) ∈ tnF) (hz : ¬ S k j = 0) (hd : decode cc pc = .ok (.getfield i, 3)) (k1 : V p l e d s m args below meth c X nL ρ S (pc + 3) lv (.ref (adr X r) :: st) K) : V p l e d s m args below meth c X nL ρ S pc lv (.ref (adr X k) :: st) K := fun H locs ls hP hS hl => va_getN (D := X.1) (fs := sh_fs X (S k) fl) G.1 G.2.1 G.2.2.2.2.1 hin G.2.2.2.1 G.2.2.2.2.2.1.1 hP k (by rw [sh_w_at (by rw [G.2.2.2.2.2.2.2.1]; exact hs)]; rfl) hc j hj (va_Nw.use rfl (G.2.2.2.2.2.1.2.1 _ hw)) (fun _ h9 => h9) (by rw [sh_fs_at hf]; exact congrArg some (by show (if _ then _ else _) = _; rw [if_neg hz])) hd (k1 H locs ls hP hS hl)
theorem v_putNi (G : vG p s m args meth c X sh0 own cc nL ret) {C : String} {T : u_T} {N ci i k j : Nat} {fl : List sh_F} {v : Int32} {ty0 : Nat → FieldType} {kf : St → τ} (hin : ∀ w ∈ u_ws C T N, w ∈ tw) (hc : cls[ci]? = some (C, T, N)) (hs : sh0[k]? = some (.inr (ci, fl))) (hty : ∀ k, k < N → parseFieldDescriptor (T k).2.2.1 = some (ty0 k)) (hnm : ∀ a, a < N → ∀ b, b < N → a ≠ b → (T a).2.1 ≠ (T b).2.1) (hf : fl[j]? = some none) (hj : j < N) (hfin : (T j).2.2.2 = false) (hn : narrow (ty0 j) (.int v) = .int v) (hfit : fits (ty0 j) (.int v) = true) {host : String} (hw : (own, i, (T j).1, (T j).2.1, (T j).2.2.1, host) ∈ tnF) (hd : decode cc pc = .ok (.putfield i, 3)) (k1 : ∀ S1 : St, S1 = st_up S k j v → V p l e d s m args below meth c X nL ρ S1 (pc + 3) lv st (kf S1)) : V p l e d s m args below meth c X nL ρ S pc lv (.int v :: .ref (adr X k) :: st) (bnv (st_up S k j v) kf) := by
  intro H locs ls hP hS hl
  have hs' : (shp X)[k]? = some (.inr (ci, fl)) := by rw [G.2.2.2.2.2.2.2.1]; exact hs
  refine va_putN (D := X.1) (fs := sh_fs X (S k) fl) (ty := ty0 j) G.1 G.2.1 G.2.2.2.2.1 hin ty0 hty hnm G.2.2.2.1 G.2.2.2.2.2.1.1 hP (sh_D G.2.2.2.2.2.2.1 S s.heap.size) hS k (by rw [sh_w_at hs']; rfl) hc j hj (va_Nw.use rfl (G.2.2.2.2.2.1.2.1 _ hw)) (fun _ h9 => h9) hfin (hty j hj) hn hfit (by rw [sh_fs_len]; exact (List.getElem?_eq_some_iff.mp hf).1) hd (fun H1 locs1 hP1 _ hS1 => ?_)
  have e1 : (sh_fs X (S k) fl).set j (.int v) = sh_fs X (upd (S k) j v) fl := sh_fs_set (t := none) hf v
  rw [e1] at hP1
  have e2 : (sh_w X S).set k (adr X k, .inr (ci, sh_fs X (upd (S k) j v) fl)) = sh_w X (st_up S k j v) := sh_set (d := .inr (ci, fl)) hs' j v
  rw [e2] at hP1
  exact k1 _ rfl H1 locs1 ls hP1 hS1 hl
theorem v_putq (G : vG p s m args meth c X sh0 own cc nL ret) {C : String} {T : u_T} {N ci i k j r : Nat} {fl : List sh_F} {ty0 : Nat → FieldType} {kf : St → τ} (hin : ∀ w ∈ u_ws C T N, w ∈ tw) (hc : cls[ci]? = some (C, T, N)) (hs : sh0[k]? = some (.inr (ci, fl))) (hty : ∀ k, k < N → parseFieldDescriptor (T k).2.2.1 = some (ty0 k)) (hnm : ∀ a, a < N → ∀ b, b < N → a ≠ b → (T a).2.1 ≠ (T b).2.1) (hf : fl[j]? = some (some (r, true))) (hj : j < N) (hfin : (T j).2.2.2 = false) (hn : ∀ a : Nat, narrow (ty0 j) (.ref a) = .ref a) (hfit : ∀ a : Nat, fits (ty0 j) (.ref a) = true) (hw : Cond.fieldLink own i (T j).1 (T j).2.1 (T j).2.2.1 ∈ tw) (hd : decode cc pc = .ok (.putfield i, 3)) (k1 : ∀ S1 : St, S1 = st_up S k j 1 → V p l e d s m args below meth c X nL ρ S1 (pc + 3) lv st (kf S1)) : V p l e d s m args below meth c X nL ρ S pc lv (.ref (adr X r) :: .ref (adr X k) :: st) (bnv (st_up S k j 1) kf) := by
  intro H locs ls hP hS hl
  have hs' : (shp X)[k]? = some (.inr (ci, fl)) := by rw [G.2.2.2.2.2.2.2.1]; exact hs
  refine va_put (D := X.1) (fs := sh_fs X (S k) fl) (ty := ty0 j) G.1 G.2.1 G.2.2.2.2.1 hin ty0 hty hnm G.2.2.2.1 G.2.2.2.2.2.1.1 hP (sh_D G.2.2.2.2.2.2.1 S s.heap.size) hS k (by rw [sh_w_at hs']; rfl) hc j hj (G.2.2.2.2.1 _ hw) (fun _ h9 => h9) hfin (hty j hj) (hn _) (hfit _) (by rw [sh_fs_len]; exact (List.getElem?_eq_some_iff.mp hf).1) hd (fun H1 locs1 hP1 _ hS1 => ?_)
  have e0 : sh_v X 1 (some (r, true)) = .ref (adr X r) := by simp [sh_v]
  have e1 : (sh_fs X (S k) fl).set j (.ref (adr X r)) = sh_fs X (upd (S k) j 1) fl := by rw [← e0]; exact sh_fs_set (t := some (r, true)) hf 1
  rw [e1] at hP1
  have e2 : (sh_w X S).set k (adr X k, .inr (ci, sh_fs X (upd (S k) j 1) fl)) = sh_w X (st_up S k j 1) := sh_set (d := .inr (ci, fl)) hs' j 1
  rw [e2] at hP1
  exact k1 _ rfl H1 locs1 ls hP1 hS1 hl
theorem v_iald (G : vG p s m args meth c X sh0 own cc nL ret) {k n : Nat} {i : Int32} (hs : sh0[k]? = some (.inl (0, n))) (hin : vp_in i n) (hd : decode cc pc = .ok (.iaload, 1)) (k1 : V p l e d s m args below meth c X nL ρ S (pc + 1) lv (.int (S k i.toNatClampNeg) :: st) K) : V p l e d s m args below meth c X nL ρ S pc lv (.int i :: .ref (adr X k) :: st) K := fun H locs ls hP hS hl => va_iald (D := X.1) (f := S k) (n := n) (cA := cyr X 0) G.1 G.2.1 G.2.2.2.2.2.1.1 hP k 0 (by rw [sh_w_at (by rw [G.2.2.2.2.2.2.2.1]; exact hs)]; rfl) rfl hin hd (k1 H locs ls hP hS hl)
theorem v_iast (G : vG p s m args meth c X sh0 own cc nL ret) {k n : Nat} {i x : Int32} {kf : St → τ} (hs : sh0[k]? = some (.inl (0, n))) (hin : vp_in i n) (hd : decode cc pc = .ok (.iastore, 1)) (k1 : ∀ S1 : St, S1 = st_up S k i.toNatClampNeg (x) → V p l e d s m args below meth c X nL ρ S1 (pc + 1) lv st (kf S1)) : V p l e d s m args below meth c X nL ρ S pc lv (.int x :: .int i :: .ref (adr X k) :: st) (bnv (st_up S k i.toNatClampNeg (x)) kf) := by
  intro H locs ls hP hS hl
  have hs' : (shp X)[k]? = some (.inl (0, n)) := by rw [G.2.2.2.2.2.2.2.1]; exact hs
  refine va_iast (D := X.1) (f := S k) (n := n) (cA := cyr X 0) G.1 G.2.1 G.2.2.2.2.2.1.1 hP (sh_D G.2.2.2.2.2.2.1 S s.heap.size) hS k 0 (by rw [sh_w_at hs']; rfl) rfl hin hd (fun H1 locs1 hP1 _ hS1 => ?_)
  have e2 : (sh_w X S).set k (adr X k, .inl (cyr X 0, n, .inl (upd (S k) i.toNatClampNeg (x)))) = sh_w X (st_up S k i.toNatClampNeg (x)) := sh_set (d := .inl (0, n)) hs' _ _
  rw [e2] at hP1
  exact k1 _ rfl H1 locs1 ls hP1 hS1 hl
theorem v_bald (G : vG p s m args meth c X sh0 own cc nL ret) {k n : Nat} {i : Int32} (hs : sh0[k]? = some (.inl (1, n))) (hin : vp_in i n) (hd : decode cc pc = .ok (.baload, 1)) (k1 : V p l e d s m args below meth c X nL ρ S (pc + 1) lv (.int (S k i.toNatClampNeg) :: st) K) : V p l e d s m args below meth c X nL ρ S pc lv (.int i :: .ref (adr X k) :: st) K := fun H locs ls hP hS hl => va_bald (D := X.1) (f := S k) (n := n) (cA := cyr X 1) G.1 G.2.1 G.2.2.2.2.2.1.1 hP k 1 (by rw [sh_w_at (by rw [G.2.2.2.2.2.2.2.1]; exact hs)]; rfl) rfl hin hd (k1 H locs ls hP hS hl)
theorem v_bast (G : vG p s m args meth c X sh0 own cc nL ret) {k n : Nat} {i x : Int32} {kf : St → τ} (hs : sh0[k]? = some (.inl (1, n))) (hin : vp_in i n) (hd : decode cc pc = .ok (.bastore, 1)) (k1 : ∀ S1 : St, S1 = st_up S k i.toNatClampNeg (vp_nar .byte x) → V p l e d s m args below meth c X nL ρ S1 (pc + 1) lv st (kf S1)) : V p l e d s m args below meth c X nL ρ S pc lv (.int x :: .int i :: .ref (adr X k) :: st) (bnv (st_up S k i.toNatClampNeg (vp_nar .byte x)) kf) := by
  intro H locs ls hP hS hl
  have hs' : (shp X)[k]? = some (.inl (1, n)) := by rw [G.2.2.2.2.2.2.2.1]; exact hs
  refine va_bast (D := X.1) (f := S k) (n := n) (cA := cyr X 1) G.1 G.2.1 G.2.2.2.2.2.1.1 hP (sh_D G.2.2.2.2.2.2.1 S s.heap.size) hS k 1 (by rw [sh_w_at hs']; rfl) rfl hin hd (fun H1 locs1 hP1 _ hS1 => ?_)
  have e2 : (sh_w X S).set k (adr X k, .inl (cyr X 1, n, .inl (upd (S k) i.toNatClampNeg (vp_nar .byte x)))) = sh_w X (st_up S k i.toNatClampNeg (vp_nar .byte x)) := sh_set (d := .inl (1, n)) hs' _ _
  rw [e2] at hP1
  exact k1 _ rfl H1 locs1 ls hP1 hS1 hl
theorem v_zald (G : vG p s m args meth c X sh0 own cc nL ret) {k n : Nat} {i : Int32} (hs : sh0[k]? = some (.inl (2, n))) (hin : vp_in i n) (hd : decode cc pc = .ok (.baload, 1)) (k1 : V p l e d s m args below meth c X nL ρ S (pc + 1) lv (.int (S k i.toNatClampNeg) :: st) K) : V p l e d s m args below meth c X nL ρ S pc lv (.int i :: .ref (adr X k) :: st) K := fun H locs ls hP hS hl => va_zald (D := X.1) (f := S k) (n := n) (cA := cyr X 2) G.1 G.2.1 G.2.2.2.2.2.1.1 hP k 2 (by rw [sh_w_at (by rw [G.2.2.2.2.2.2.2.1]; exact hs)]; rfl) rfl hin hd (k1 H locs ls hP hS hl)
theorem v_zast (G : vG p s m args meth c X sh0 own cc nL ret) {k n : Nat} {i x : Int32} {kf : St → τ} (hs : sh0[k]? = some (.inl (2, n))) (hin : vp_in i n) (hd : decode cc pc = .ok (.bastore, 1)) (k1 : ∀ S1 : St, S1 = st_up S k i.toNatClampNeg (vp_nar .boolean x) → V p l e d s m args below meth c X nL ρ S1 (pc + 1) lv st (kf S1)) : V p l e d s m args below meth c X nL ρ S pc lv (.int x :: .int i :: .ref (adr X k) :: st) (bnv (st_up S k i.toNatClampNeg (vp_nar .boolean x)) kf) := by
  intro H locs ls hP hS hl
  have hs' : (shp X)[k]? = some (.inl (2, n)) := by rw [G.2.2.2.2.2.2.2.1]; exact hs
  refine va_zast (D := X.1) (f := S k) (n := n) (cA := cyr X 2) G.1 G.2.1 G.2.2.2.2.2.1.1 hP (sh_D G.2.2.2.2.2.2.1 S s.heap.size) hS k 2 (by rw [sh_w_at hs']; rfl) rfl hin hd (fun H1 locs1 hP1 _ hS1 => ?_)
  have e2 : (sh_w X S).set k (adr X k, .inl (cyr X 2, n, .inl (upd (S k) i.toNatClampNeg (vp_nar .boolean x)))) = sh_w X (st_up S k i.toNatClampNeg (vp_nar .boolean x)) := sh_set (d := .inl (2, n)) hs' _ _
  rw [e2] at hP1
  exact k1 _ rfl H1 locs1 ls hP1 hS1 hl
theorem v_alen (G : vG p s m args meth c X sh0 own cc nL ret) {k n t : Nat} {ty : FieldType} (hs : sh0[k]? = some (.inl (t, n))) (ht : (tys3 X)[t]? = some (cyr X t, ty)) (hd : decode cc pc = .ok (.arraylength, 1)) (k1 : V p l e d s m args below meth c X nL ρ S (pc + 1) lv (.int (nI n) :: st) K) : V p l e d s m args below meth c X nL ρ S pc lv (.ref (adr X k) :: st) K := fun H locs ls hP hS hl => va_alen (D := X.1) (x := (n, .inl (S k))) (cA := cyr X t) G.1 G.2.1 G.2.2.2.2.2.1.1 hP k t (by rw [sh_w_at (by rw [G.2.2.2.2.2.2.2.1]; exact hs)]; rfl) ht rfl hd (k1 H locs ls hP hS hl)
theorem v_iret (G : vG p s m args meth c X sh0 own cc nL ret) {r : Int32} (hr : ret = some .int) (h : (ρ K) = (some (.int r), S)) (hd : decode cc pc = .ok (.ireturn, 1)) : V p l e d s m args below meth c X nL ρ S pc lv [.int r] K := by
  intro H locs ls hP hS hl
  have hlk : meth.locks = false := G.2.2.2.2.2.2.2.2.2
  exact W.iret (v := r) G.1 G.2.1 (G.2.2.2.2.2.2.2.2.1.trans hr) (fun t ht hW => ⟨by rw [h], by rw [h, ht]; exact hP, hS.F ht⟩) hS.2.2 hd
theorem v_zret (G : vG p s m args meth c X sh0 own cc nL ret) {r : Int32} (hr : ret = some .boolean) (hn : narrow .boolean (.int r) = .int r) (h : (ρ K) = (some (.int r), S)) (hd : decode cc pc = .ok (.ireturn, 1)) : V p l e d s m args below meth c X nL ρ S pc lv [.int r] K := by
  intro H locs ls hP hS hl
  have hlk : meth.locks = false := G.2.2.2.2.2.2.2.2.2
  exact W.zret (v := r) G.1 G.2.1 (G.2.2.2.2.2.2.2.2.1.trans hr) hn (fun t ht hW => ⟨by rw [h], by rw [h, ht]; exact hP, hS.F ht⟩) hS.2.2 hd
theorem v_vret (G : vG p s m args meth c X sh0 own cc nL ret) (hr : ret = none) (h : (ρ K) = (none, S)) (hd : decode cc pc = .ok (.return_, 1)) : V p l e d s m args below meth c X nL ρ S pc lv [] K := by
  intro H locs ls hP hS hl
  have hlk : meth.locks = false := G.2.2.2.2.2.2.2.2.2
  exact W.vret G.1 G.2.1 (G.2.2.2.2.2.2.2.2.1.trans hr) (fun t ht hW => ⟨by rw [h], by rw [h, ht]; exact hP, hS.F ht⟩) hS.2.2 hd
theorem v_aret (G : vG p s m args meth c X sh0 own cc nL ret) {r : Nat} {n : String} (hr : ret = some (.object n)) (h : (ρ K) = (some (.ref r), S)) (hd : decode cc pc = .ok (.areturn, 1)) : V p l e d s m args below meth c X nL ρ S pc lv [.ref r] K := by
  intro H locs ls hP hS hl
  have hlk : meth.locks = false := G.2.2.2.2.2.2.2.2.2
  exact W.aret (v := .ref r) G.1 G.2.1 (G.2.2.2.2.2.2.2.2.1.trans hr) (Or.inl ⟨n, rfl⟩) (Or.inr ⟨r, rfl⟩) (fun t ht hW => ⟨by rw [h], by rw [h, ht]; exact hP, hS.F ht⟩) hS.2.2 hd
theorem vP_blind (X : vD) (sz : Nat) (As : List Value) (S : St) : FrameBlind (vP X sz As S) := fun a U g mk q => by
  obtain ⟨q0, q1, qP, qK⟩ := q
  exact ⟨q0, q1, qP, sh_K.same (s := U) rfl qK⟩
theorem v_back {locs : List Loc} {H : Heap} {K1 : Option Value × St} {a : Array Value} {st0 : List Value} {ls : Array Slot} {Q : State → Prop} (hr : va_Run p l e (rmd d) s m args below meth c H locs 0 0 0 0 (F0 m pc ls st0) st (vQ X H.size K1 a) (sh_A X H.size)) (hS : va_S (sh_A X s.heap.size) s.heap H locs)
    (kk : ∀ (H1 : Heap) (locs1 : List Loc), sh_P X K1.2 H1 → va_S (sh_A X s.heap.size) s.heap H1 locs1 → W p l e (rmd d) s m args below meth c H1 locs1 0 0 Q (F0 m (pc + 3) ls (K1.1.toList ++ st))) : W p l e (rmd d) s m args below meth c H locs 0 0 Q (F0 m pc ls st0) := by
  intro T hT X0
  obtain ⟨v, st₀, t, T', L, h0, X', hL, e1, e2, ⟨hv, hP1, hz, hk⟩, stp⟩ := hr T hT X0
  rw [h0] at hz hk
  have hv2 : v = K1.1 := by injection hv
  subst hv2
  have hA : ∀ q, sh_A X H.size q → sh_A X s.heap.size q := fun q h => h.elim Or.inl (fun z => Or.inr (Nat.le_trans hS.1 z))
  obtain ⟨t2, a1, b1⟩ := kk T'.heap (locs ++ L) (by rw [e1]; exact hP1) ⟨Nat.le_trans hS.1 (by rw [e1]; exact hz), fun q h1 h2 => by rw [e1, hk q (Nat.lt_of_lt_of_le h1 hS.1) (fun z => h2 (hA q z))]; exact hS.2.1 q h1 h2, fun q hq => by
      rcases List.mem_append.mp hq with h | h
      · exact hS.2.2 q h
      · exact hA _ (hL q h)⟩ T' rfl X'
  exact ⟨t2, stp t2 a1, b1⟩
theorem sh_recv {H : Heap} {C : String} {T : u_T} {N ci k : Nat} {fl : List sh_F} (G : vG p s m args meth c X sh0 own cc nL ret) (hP : sh_P X S H) (hc : cls[ci]? = some (C, T, N)) (hs : sh0[k]? = some (.inr (ci, fl))) : ∃ cellB : Cell, H[adr X k]? = some cellB ∧ cellB.vm.isStatics = false ∧ s.vm.findClass C = some cellB.cls :=
  va_recv (q := (C, T, N)) (fs := sh_fs X (S k) fl) G.2.2.2.2.2.1.1 hP hc (by rw [sh_w_at (by rw [G.2.2.2.2.2.2.2.1]; exact hs)]; rfl)
/-- an instance method of an object of the world -/
theorem v_callV (G : vG p s m args meth c X sh0 own cc nL ret) {y : MethodName} {cc' : ByteArray} {n' : Nat} {ret' : Option FieldType} {d' i k ci : Nat} {T : u_T} {N : Nat} {fl : List sh_F} {As st0 : List Value} {K1 : Option Value × St} (hC : Con l X y cc' n' ret' d' (.ref (adr X k) :: As) S K1) (hdd : d' + 1 ≤ d) (hnl : n' ≤ 17) (hc : cls[ci]? = some (y.cls, T, N)) (hs : sh0[k]? = some (.inr (ci, fl))) (w1 : Cond.methodLink own i y ∈ tw) (w2 : Cond.instanceMethod y ∈ tw) (w3 : Cond.selects y.cls y y ∈ tw) (w4 : Cond.initialized y.cls ∈ tw) (w5 : Cond.code y cc' n' ret' ∈ tw)
    (hy : y.cls ≠ "java/lang/invoke/MethodHandle" ∧ y.cls ≠ "java/lang/invoke/VarHandle" ∧ (parseMethodDescriptor y.desc).map (fun d => d.parameters.length) = some As.length) (hst : st0 = As.reverse ++ .ref (adr X k) :: st) (hrm : (st.map fun v => v.category).sum ≤ 8) (hd : decode cc pc = .ok (.invokevirtual i, 3)) (k1 : V p l e d s m args below meth c X nL ρ K1.2 (pc + 3) lv (K1.1.toList ++ st) K) : V p l e d s m args below meth c X nL ρ S pc lv st0 K := by
  intro H locs ls hP hS hl
  obtain ⟨g1, g2, g3, g4, g5, g6, g7, g8, g9, g10⟩ := id G
  have cb : CallB (rmd d) s args own i y cc' n' ret' (uw y cc' n' ret') (rmd d') 0 0 As.length := callB_of As.length g5 (lw_goodIn w5) rfl rfl rfl (g5 _ w4) (g5 _ w1) hy ⟨hdd, by show 8 + (n' + 11) + 36 * d' ≤ 36 * d; omega⟩
  have hp : PreV s H y.cls (adr X k) (vP X H.size (.ref (adr X k) :: As) S) As := ⟨vP_blind _ _ _ _, sh_recv (S := S) G hP hc hs, fun U hU hW => ⟨rfl, by rw [hU], by rw [hU]; exact hP, sh_K.warm hW g6⟩⟩
  refine v_back (K1 := K1) (st := st) (ls := ls) (pc := pc) (va_runV (As := As) (rest := st) ⟨g1, g2, g3, g4, g5⟩ (hC H.size) ⟨cb, g5 _ w2, g5 _ w3⟩ hp rfl rfl hl.1 hst (lv_room hrm) hd ⟨Nat.le_refl _, Nat.le_refl _⟩) hS ?_
  exact fun H1 locs1 hP1 hS1 => k1 H1 locs1 ls hP1 hS1 hl
/-- a static method -/
theorem v_callS (G : vG p s m args meth c X sh0 own cc nL ret) {y : MethodName} {cc' : ByteArray} {n' : Nat} {ret' : Option FieldType} {d' i : Nat} {As st0 : List Value} {K1 : Option Value × St} (hC : Con l X y cc' n' ret' d' As S K1) (hdd : d' + 1 ≤ d) (hnl : n' ≤ 17) (w1 : Cond.methodLink own i y ∈ tw) (w2 : Cond.static y ∈ tw) (w4 : Cond.initialized y.cls ∈ tw) (w5 : Cond.code y cc' n' ret' ∈ tw)
    (hy : y.cls ≠ "java/lang/invoke/MethodHandle" ∧ y.cls ≠ "java/lang/invoke/VarHandle" ∧ (parseMethodDescriptor y.desc).map (fun d => d.parameters.length) = some As.length) (hst : st0 = As.reverse ++ st) (hrm : (st.map fun v => v.category).sum ≤ 8) (hd : decode cc pc = .ok (.invokestatic i, 3)) (k1 : V p l e d s m args below meth c X nL ρ K1.2 (pc + 3) lv (K1.1.toList ++ st) K) : V p l e d s m args below meth c X nL ρ S pc lv st0 K := by
  intro H locs ls hP hS hl
  obtain ⟨g1, g2, g3, g4, g5, g6, g7, g8, g9, g10⟩ := id G
  have cb : CallB (rmd d) s args own i y cc' n' ret' (uw y cc' n' ret') (rmd d') 0 0 As.length := callB_of As.length g5 (lw_goodIn w5) rfl rfl rfl (g5 _ w4) (g5 _ w1) hy ⟨hdd, by show 8 + (n' + 11) + 36 * d' ≤ 36 * d; omega⟩
  have hp : PreS s H (vP X H.size As S) As := ⟨vP_blind _ _ _ _, fun U hU hW => ⟨rfl, by rw [hU], by rw [hU]; exact hP, sh_K.warm hW g6⟩⟩
  refine v_back (K1 := K1) (st := st) (ls := ls) (pc := pc) (va_runS (As := As) (rest := st) ⟨g1, g2, g3, g4, g5⟩ (hC H.size) ⟨cb, g5 _ w2⟩ hp rfl rfl hl.1 hst (lv_room hrm) hd ⟨Nat.le_refl _, Nat.le_refl _⟩) hS ?_
  exact fun H1 locs1 hP1 hS1 => k1 H1 locs1 ls hP1 hS1 hl
/-- behind a call that changes the state: the pure term goes on with its answer -/
theorem v_bnd {q : Int32 × St} {kf : Int32 → St → τ} (k : ∀ (r : Int32) (S1 : St), q = (r, S1) → V p l e d s m args below meth c X nL ρ S1 pc lv (.int r :: st) (kf r S1)) : V p l e d s m args below meth c X nL ρ q.2 pc lv (.int q.1 :: st) (bnd q kf) := k q.1 q.2 rfl
theorem v_bnv {S0 : St} {kf : St → τ} (k : ∀ S1 : St, S1 = S0 → V p l e d s m args below meth c X nL ρ S1 pc lv st (kf S1)) : V p l e d s m args below meth c X nL ρ S0 pc lv st (bnv S0 kf) := k S0 rfl
end ROWS
theorem vi_mask {x y : Int32} {n : Nat} (k : Nat) (hm : y.toBitVec.toNat = 2 ^ k - 1) (hk : k ≤ 30) (hn : 2 ^ k ≤ n) : vp_in (x &&& y) n := by
  have h := pk_andIn x k hm hk
  exact fun q => h (q.elim Or.inl (fun z => Or.inr (Nat.le_trans hn z)))
theorem vi_lit {i : Nat} {n : Nat} (h : i < n) (hn : n < 2 ^ 31) : vp_in (nI i) n := vp_in_nI h hn
theorem vi_br {x : Int32} {n : Nat} (h0 : ¬ x < 0) (h : x < nI n) (hn : n < 2 ^ 31) : vp_in x n := by
  refine vp_in_iff.mpr ⟨?_, ?_⟩
  · have := Int32.not_lt.mp h0
    rwa [Int32.le_iff_toInt_le, Int32.toInt_zero] at this
  · rwa [Int32.lt_iff_toInt_lt, nI_toInt hn] at h
end

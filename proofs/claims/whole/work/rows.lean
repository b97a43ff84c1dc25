section
-- ===== PART A: goes FIRST, ahead of the names: the tables' words, and 'selects' of the private methods out of them =====
/-- a private method of a class that the tables say can be made, by its rows of tables_1 -/
def lw_okq (q : MethodName × Nat) : Prop := (q.1.cls ≠ "java/lang/invoke/MethodHandle" ∧ q.1.cls ≠ "java/lang/invoke/VarHandle") ∧ Cond.instantiable q.1.cls q.2 ∈ tables_1 ∧ Cond.privateMethod q.1 ∈ tables_1 ∧ Cond.instanceMethod q.1 ∈ tables_1
theorem lw_p0 : lw_okq (⟨"SensorNode$Node", "generation", "()I"⟩, 15) := ⟨⟨by decide +kernel, by decide +kernel⟩, List.mem_of_getElem? (i := 90) (by decide +kernel), List.mem_of_getElem? (i := 346) (by decide +kernel), List.mem_of_getElem? (i := 347) (by decide +kernel)⟩
theorem lw_p1 : lw_okq (⟨"SensorNode$Node", "bufferStart", "(I)I"⟩, 15) := ⟨⟨by decide +kernel, by decide +kernel⟩, List.mem_of_getElem? (i := 90) (by decide +kernel), List.mem_of_getElem? (i := 351) (by decide +kernel), List.mem_of_getElem? (i := 352) (by decide +kernel)⟩
theorem lw_p2 : lw_okq (⟨"SensorNode$Node", "meetLog", "()V"⟩, 15) := ⟨⟨by decide +kernel, by decide +kernel⟩, List.mem_of_getElem? (i := 90) (by decide +kernel), List.mem_of_getElem? (i := 363) (by decide +kernel), List.mem_of_getElem? (i := 364) (by decide +kernel)⟩
theorem lw_p3 : lw_okq (⟨"SensorNode$Node", "entriesThatCount", "()I"⟩, 15) := ⟨⟨by decide +kernel, by decide +kernel⟩, List.mem_of_getElem? (i := 90) (by decide +kernel), List.mem_of_getElem? (i := 367) (by decide +kernel), List.mem_of_getElem? (i := 368) (by decide +kernel)⟩
theorem lw_p4 : lw_okq (⟨"SensorNode$Node", "hasPower", "()Z"⟩, 15) := ⟨⟨by decide +kernel, by decide +kernel⟩, List.mem_of_getElem? (i := 90) (by decide +kernel), List.mem_of_getElem? (i := 379) (by decide +kernel), List.mem_of_getElem? (i := 380) (by decide +kernel)⟩
theorem lw_p5 : lw_okq (⟨"SensorNode$Node", "choose", "()V"⟩, 15) := ⟨⟨by decide +kernel, by decide +kernel⟩, List.mem_of_getElem? (i := 90) (by decide +kernel), List.mem_of_getElem? (i := 391) (by decide +kernel), List.mem_of_getElem? (i := 392) (by decide +kernel)⟩
theorem lw_p6 : lw_okq (⟨"SensorNode$Guest", "trapOfPlace", "(II)I"⟩, 10) := ⟨⟨by decide +kernel, by decide +kernel⟩, List.mem_of_getElem? (i := 123) (by decide +kernel), List.mem_of_getElem? (i := 399) (by decide +kernel), List.mem_of_getElem? (i := 400) (by decide +kernel)⟩
theorem lw_p7 : lw_okq (⟨"SensorNode$Guest", "wordAt", "(I)I"⟩, 10) := ⟨⟨by decide +kernel, by decide +kernel⟩, List.mem_of_getElem? (i := 123) (by decide +kernel), List.mem_of_getElem? (i := 408) (by decide +kernel), List.mem_of_getElem? (i := 409) (by decide +kernel)⟩
theorem lw_p8 : lw_okq (⟨"SensorNode$Guest", "give", "(I)I"⟩, 10) := ⟨⟨by decide +kernel, by decide +kernel⟩, List.mem_of_getElem? (i := 123) (by decide +kernel), List.mem_of_getElem? (i := 416) (by decide +kernel), List.mem_of_getElem? (i := 417) (by decide +kernel)⟩
theorem lw_p9 : lw_okq (⟨"SensorNode$Guest", "jump", "(II)I"⟩, 10) := ⟨⟨by decide +kernel, by decide +kernel⟩, List.mem_of_getElem? (i := 123) (by decide +kernel), List.mem_of_getElem? (i := 424) (by decide +kernel), List.mem_of_getElem? (i := 425) (by decide +kernel)⟩
theorem lw_p10 : lw_okq (⟨"SensorNode$Guest", "branch", "(IIII)I"⟩, 10) := ⟨⟨by decide +kernel, by decide +kernel⟩, List.mem_of_getElem? (i := 123) (by decide +kernel), List.mem_of_getElem? (i := 431) (by decide +kernel), List.mem_of_getElem? (i := 432) (by decide +kernel)⟩
theorem lw_p11 : lw_okq (⟨"SensorNode$Guest", "load", "(II)I"⟩, 10) := ⟨⟨by decide +kernel, by decide +kernel⟩, List.mem_of_getElem? (i := 123) (by decide +kernel), List.mem_of_getElem? (i := 439) (by decide +kernel), List.mem_of_getElem? (i := 440) (by decide +kernel)⟩
theorem lw_p12 : lw_okq (⟨"SensorNode$Guest", "storeAt", "(III)I"⟩, 10) := ⟨⟨by decide +kernel, by decide +kernel⟩, List.mem_of_getElem? (i := 123) (by decide +kernel), List.mem_of_getElem? (i := 444) (by decide +kernel), List.mem_of_getElem? (i := 445) (by decide +kernel)⟩
theorem lw_p13 : lw_okq (⟨"SensorNode$Guest", "withNumber", "(IIII)I"⟩, 10) := ⟨⟨by decide +kernel, by decide +kernel⟩, List.mem_of_getElem? (i := 123) (by decide +kernel), List.mem_of_getElem? (i := 448) (by decide +kernel), List.mem_of_getElem? (i := 449) (by decide +kernel)⟩
theorem lw_p14 : lw_okq (⟨"SensorNode$Guest", "withRegister", "(IIII)I"⟩, 10) := ⟨⟨by decide +kernel, by decide +kernel⟩, List.mem_of_getElem? (i := 123) (by decide +kernel), List.mem_of_getElem? (i := 455) (by decide +kernel), List.mem_of_getElem? (i := 456) (by decide +kernel)⟩
theorem lw_p15 : lw_okq (⟨"SensorNode$Guest", "call", "()I"⟩, 10) := ⟨⟨by decide +kernel, by decide +kernel⟩, List.mem_of_getElem? (i := 123) (by decide +kernel), List.mem_of_getElem? (i := 459) (by decide +kernel), List.mem_of_getElem? (i := 460) (by decide +kernel)⟩
def lw_privs_1 : List (MethodName × Nat) := [(⟨"SensorNode$Node", "generation", "()I"⟩, 15), (⟨"SensorNode$Node", "bufferStart", "(I)I"⟩, 15), (⟨"SensorNode$Node", "meetLog", "()V"⟩, 15), (⟨"SensorNode$Node", "entriesThatCount", "()I"⟩, 15), (⟨"SensorNode$Node", "hasPower", "()Z"⟩, 15), (⟨"SensorNode$Node", "choose", "()V"⟩, 15), (⟨"SensorNode$Guest", "trapOfPlace", "(II)I"⟩, 10), (⟨"SensorNode$Guest", "wordAt", "(I)I"⟩, 10), (⟨"SensorNode$Guest", "give", "(I)I"⟩, 10), (⟨"SensorNode$Guest", "jump", "(II)I"⟩, 10), (⟨"SensorNode$Guest", "branch", "(IIII)I"⟩, 10), (⟨"SensorNode$Guest", "load", "(II)I"⟩, 10), (⟨"SensorNode$Guest", "storeAt", "(III)I"⟩, 10), (⟨"SensorNode$Guest", "withNumber", "(IIII)I"⟩, 10), (⟨"SensorNode$Guest", "withRegister", "(IIII)I"⟩, 10), (⟨"SensorNode$Guest", "call", "()I"⟩, 10)]
theorem lw_r1 : ∀ q ∈ lw_privs_1, lw_okq q := List.forall_mem_cons.mpr ⟨lw_p0, List.forall_mem_cons.mpr ⟨lw_p1, List.forall_mem_cons.mpr ⟨lw_p2, List.forall_mem_cons.mpr ⟨lw_p3, List.forall_mem_cons.mpr ⟨lw_p4, List.forall_mem_cons.mpr ⟨lw_p5, List.forall_mem_cons.mpr ⟨lw_p6, List.forall_mem_cons.mpr ⟨lw_p7, List.forall_mem_cons.mpr ⟨lw_p8, List.forall_mem_cons.mpr ⟨lw_p9, List.forall_mem_cons.mpr ⟨lw_p10, List.forall_mem_cons.mpr ⟨lw_p11, List.forall_mem_cons.mpr ⟨lw_p12, List.forall_mem_cons.mpr ⟨lw_p13, List.forall_mem_cons.mpr ⟨lw_p14, List.forall_mem_cons.mpr ⟨lw_p15, fun _ h => absurd h List.not_mem_nil⟩⟩⟩⟩⟩⟩⟩⟩⟩⟩⟩⟩⟩⟩⟩⟩
theorem lw_p16 : lw_okq (⟨"SensorNode$Guest", "callToSend", "()I"⟩, 10) := ⟨⟨by decide +kernel, by decide +kernel⟩, List.mem_of_getElem? (i := 123) (by decide +kernel), List.mem_of_getElem? (i := 467) (by decide +kernel), List.mem_of_getElem? (i := 468) (by decide +kernel)⟩
theorem lw_p17 : lw_okq (⟨"SensorNode$Node", "needsCheckpoint", "()Z"⟩, 15) := ⟨⟨by decide +kernel, by decide +kernel⟩, List.mem_of_getElem? (i := 90) (by decide +kernel), List.mem_of_getElem? (i := 471) (by decide +kernel), List.mem_of_getElem? (i := 472) (by decide +kernel)⟩
theorem lw_p18 : lw_okq (⟨"SensorNode$Node", "needsEntry", "()Z"⟩, 15) := ⟨⟨by decide +kernel, by decide +kernel⟩, List.mem_of_getElem? (i := 90) (by decide +kernel), List.mem_of_getElem? (i := 479) (by decide +kernel), List.mem_of_getElem? (i := 480) (by decide +kernel)⟩
theorem lw_p19 : lw_okq (⟨"SensorNode$Node", "boot", "()V"⟩, 15) := ⟨⟨by decide +kernel, by decide +kernel⟩, List.mem_of_getElem? (i := 90) (by decide +kernel), List.mem_of_getElem? (i := 487) (by decide +kernel), List.mem_of_getElem? (i := 488) (by decide +kernel)⟩
theorem lw_p20 : lw_okq (⟨"SensorNode$Node", "write", "(II)V"⟩, 15) := ⟨⟨by decide +kernel, by decide +kernel⟩, List.mem_of_getElem? (i := 90) (by decide +kernel), List.mem_of_getElem? (i := 491) (by decide +kernel), List.mem_of_getElem? (i := 492) (by decide +kernel)⟩
theorem lw_p21 : lw_okq (⟨"SensorNode$Node", "checkpoint", "()V"⟩, 15) := ⟨⟨by decide +kernel, by decide +kernel⟩, List.mem_of_getElem? (i := 90) (by decide +kernel), List.mem_of_getElem? (i := 495) (by decide +kernel), List.mem_of_getElem? (i := 496) (by decide +kernel)⟩
theorem lw_p22 : lw_okq (⟨"SensorNode$Node", "instruct", "()V"⟩, 15) := ⟨⟨by decide +kernel, by decide +kernel⟩, List.mem_of_getElem? (i := 90) (by decide +kernel), List.mem_of_getElem? (i := 507) (by decide +kernel), List.mem_of_getElem? (i := 508) (by decide +kernel)⟩
theorem lw_p23 : lw_okq (⟨"SensorNode$Node", "log", "(I)V"⟩, 15) := ⟨⟨by decide +kernel, by decide +kernel⟩, List.mem_of_getElem? (i := 90) (by decide +kernel), List.mem_of_getElem? (i := 529) (by decide +kernel), List.mem_of_getElem? (i := 530) (by decide +kernel)⟩
theorem lw_p24 : lw_okq (⟨"SensorNode$Node", "finish", "()V"⟩, 15) := ⟨⟨by decide +kernel, by decide +kernel⟩, List.mem_of_getElem? (i := 90) (by decide +kernel), List.mem_of_getElem? (i := 533) (by decide +kernel), List.mem_of_getElem? (i := 534) (by decide +kernel)⟩
theorem lw_p25 : lw_okq (⟨"SensorNode$Guest", "putWord", "(II)V"⟩, 10) := ⟨⟨by decide +kernel, by decide +kernel⟩, List.mem_of_getElem? (i := 123) (by decide +kernel), List.mem_of_getElem? (i := 545) (by decide +kernel), List.mem_of_getElem? (i := 546) (by decide +kernel)⟩
theorem lw_p26 : lw_okq (⟨"SensorNode$Radio", "keeps", "(I)Z"⟩, 6) := ⟨⟨by decide +kernel, by decide +kernel⟩, List.mem_of_getElem? (i := 96) (by decide +kernel), List.mem_of_getElem? (i := 608) (by decide +kernel), List.mem_of_getElem? (i := 609) (by decide +kernel)⟩
theorem lw_p27 : lw_okq (⟨"SensorNode$PlainMachine", "begin", "()V"⟩, 6) := ⟨⟨by decide +kernel, by decide +kernel⟩, List.mem_of_getElem? (i := 206) (by decide +kernel), List.mem_of_getElem? (i := 646) (by decide +kernel), List.mem_of_getElem? (i := 647) (by decide +kernel)⟩
theorem lw_p28 : lw_okq (⟨"SensorNodeModel", "four", "(I)V"⟩, 36) := ⟨⟨by decide +kernel, by decide +kernel⟩, List.mem_of_getElem? (i := 697) (by decide +kernel), List.mem_of_getElem? (i := 931) (by decide +kernel), List.mem_of_getElem? (i := 932) (by decide +kernel)⟩
theorem lw_p29 : lw_okq (⟨"SensorNodeModel", "generation", "()I"⟩, 36) := ⟨⟨by decide +kernel, by decide +kernel⟩, List.mem_of_getElem? (i := 697) (by decide +kernel), List.mem_of_getElem? (i := 951) (by decide +kernel), List.mem_of_getElem? (i := 952) (by decide +kernel)⟩
theorem lw_p30 : lw_okq (⟨"SensorNodeModel", "bufferAt", "(I)I"⟩, 36) := ⟨⟨by decide +kernel, by decide +kernel⟩, List.mem_of_getElem? (i := 697) (by decide +kernel), List.mem_of_getElem? (i := 955) (by decide +kernel), List.mem_of_getElem? (i := 956) (by decide +kernel)⟩
theorem lw_p31 : lw_okq (⟨"SensorNodeModel", "forgetEntries", "()V"⟩, 36) := ⟨⟨by decide +kernel, by decide +kernel⟩, List.mem_of_getElem? (i := 697) (by decide +kernel), List.mem_of_getElem? (i := 959) (by decide +kernel), List.mem_of_getElem? (i := 960) (by decide +kernel)⟩
def lw_privs_2 : List (MethodName × Nat) := [(⟨"SensorNode$Guest", "callToSend", "()I"⟩, 10), (⟨"SensorNode$Node", "needsCheckpoint", "()Z"⟩, 15), (⟨"SensorNode$Node", "needsEntry", "()Z"⟩, 15), (⟨"SensorNode$Node", "boot", "()V"⟩, 15), (⟨"SensorNode$Node", "write", "(II)V"⟩, 15), (⟨"SensorNode$Node", "checkpoint", "()V"⟩, 15), (⟨"SensorNode$Node", "instruct", "()V"⟩, 15), (⟨"SensorNode$Node", "log", "(I)V"⟩, 15), (⟨"SensorNode$Node", "finish", "()V"⟩, 15), (⟨"SensorNode$Guest", "putWord", "(II)V"⟩, 10), (⟨"SensorNode$Radio", "keeps", "(I)Z"⟩, 6), (⟨"SensorNode$PlainMachine", "begin", "()V"⟩, 6), (⟨"SensorNodeModel", "four", "(I)V"⟩, 36), (⟨"SensorNodeModel", "generation", "()I"⟩, 36), (⟨"SensorNodeModel", "bufferAt", "(I)I"⟩, 36), (⟨"SensorNodeModel", "forgetEntries", "()V"⟩, 36)]
theorem lw_r2 : ∀ q ∈ lw_privs_2, lw_okq q := List.forall_mem_cons.mpr ⟨lw_p16, List.forall_mem_cons.mpr ⟨lw_p17, List.forall_mem_cons.mpr ⟨lw_p18, List.forall_mem_cons.mpr ⟨lw_p19, List.forall_mem_cons.mpr ⟨lw_p20, List.forall_mem_cons.mpr ⟨lw_p21, List.forall_mem_cons.mpr ⟨lw_p22, List.forall_mem_cons.mpr ⟨lw_p23, List.forall_mem_cons.mpr ⟨lw_p24, List.forall_mem_cons.mpr ⟨lw_p25, List.forall_mem_cons.mpr ⟨lw_p26, List.forall_mem_cons.mpr ⟨lw_p27, List.forall_mem_cons.mpr ⟨lw_p28, List.forall_mem_cons.mpr ⟨lw_p29, List.forall_mem_cons.mpr ⟨lw_p30, List.forall_mem_cons.mpr ⟨lw_p31, fun _ h => absurd h List.not_mem_nil⟩⟩⟩⟩⟩⟩⟩⟩⟩⟩⟩⟩⟩⟩⟩⟩
theorem lw_p32 : lw_okq (⟨"SensorNodeModel", "counting", "()I"⟩, 36) := ⟨⟨by decide +kernel, by decide +kernel⟩, List.mem_of_getElem? (i := 697) (by decide +kernel), List.mem_of_getElem? (i := 964) (by decide +kernel), List.mem_of_getElem? (i := 965) (by decide +kernel)⟩
theorem lw_p33 : lw_okq (⟨"SensorNodeModel", "act", "()V"⟩, 36) := ⟨⟨by decide +kernel, by decide +kernel⟩, List.mem_of_getElem? (i := 697) (by decide +kernel), List.mem_of_getElem? (i := 976) (by decide +kernel), List.mem_of_getElem? (i := 977) (by decide +kernel)⟩
theorem lw_p34 : lw_okq (⟨"SensorNodeModel", "boot", "()V"⟩, 36) := ⟨⟨by decide +kernel, by decide +kernel⟩, List.mem_of_getElem? (i := 697) (by decide +kernel), List.mem_of_getElem? (i := 980) (by decide +kernel), List.mem_of_getElem? (i := 981) (by decide +kernel)⟩
theorem lw_p35 : lw_okq (⟨"SensorNodeModel", "write", "(II)V"⟩, 36) := ⟨⟨by decide +kernel, by decide +kernel⟩, List.mem_of_getElem? (i := 697) (by decide +kernel), List.mem_of_getElem? (i := 984) (by decide +kernel), List.mem_of_getElem? (i := 985) (by decide +kernel)⟩
theorem lw_p36 : lw_okq (⟨"SensorNodeModel", "check", "()V"⟩, 36) := ⟨⟨by decide +kernel, by decide +kernel⟩, List.mem_of_getElem? (i := 697) (by decide +kernel), List.mem_of_getElem? (i := 988) (by decide +kernel), List.mem_of_getElem? (i := 989) (by decide +kernel)⟩
theorem lw_p37 : lw_okq (⟨"SensorNodeModel", "checkWord", "(I)I"⟩, 36) := ⟨⟨by decide +kernel, by decide +kernel⟩, List.mem_of_getElem? (i := 697) (by decide +kernel), List.mem_of_getElem? (i := 992) (by decide +kernel), List.mem_of_getElem? (i := 993) (by decide +kernel)⟩
theorem lw_p38 : lw_okq (⟨"SensorNodeModel", "log", "()V"⟩, 36) := ⟨⟨by decide +kernel, by decide +kernel⟩, List.mem_of_getElem? (i := 697) (by decide +kernel), List.mem_of_getElem? (i := 996) (by decide +kernel), List.mem_of_getElem? (i := 997) (by decide +kernel)⟩
theorem lw_p39 : lw_okq (⟨"SensorNodeModel", "perform", "()V"⟩, 36) := ⟨⟨by decide +kernel, by decide +kernel⟩, List.mem_of_getElem? (i := 697) (by decide +kernel), List.mem_of_getElem? (i := 1000) (by decide +kernel), List.mem_of_getElem? (i := 1001) (by decide +kernel)⟩
theorem lw_p40 : lw_okq (⟨"SensorNodeModel$Guest", "isRam", "(I)Z"⟩, 20) := ⟨⟨by decide +kernel, by decide +kernel⟩, List.mem_of_getElem? (i := 703) (by decide +kernel), List.mem_of_getElem? (i := 1012) (by decide +kernel), List.mem_of_getElem? (i := 1013) (by decide +kernel)⟩
theorem lw_p41 : lw_okq (⟨"SensorNodeModel", "send", "()V"⟩, 36) := ⟨⟨by decide +kernel, by decide +kernel⟩, List.mem_of_getElem? (i := 697) (by decide +kernel), List.mem_of_getElem? (i := 1021) (by decide +kernel), List.mem_of_getElem? (i := 1022) (by decide +kernel)⟩
theorem lw_p42 : lw_okq (⟨"SensorNodeModel", "decide", "()V"⟩, 36) := ⟨⟨by decide +kernel, by decide +kernel⟩, List.mem_of_getElem? (i := 697) (by decide +kernel), List.mem_of_getElem? (i := 1033) (by decide +kernel), List.mem_of_getElem? (i := 1034) (by decide +kernel)⟩
theorem lw_p43 : lw_okq (⟨"SensorNodeModel$Guest", "decode", "(I)V"⟩, 20) := ⟨⟨by decide +kernel, by decide +kernel⟩, List.mem_of_getElem? (i := 703) (by decide +kernel), List.mem_of_getElem? (i := 1046) (by decide +kernel), List.mem_of_getElem? (i := 1047) (by decide +kernel)⟩
theorem lw_p44 : lw_okq (⟨"SensorNodeModel$Guest", "gives", "(I)V"⟩, 20) := ⟨⟨by decide +kernel, by decide +kernel⟩, List.mem_of_getElem? (i := 703) (by decide +kernel), List.mem_of_getElem? (i := 1050) (by decide +kernel), List.mem_of_getElem? (i := 1051) (by decide +kernel)⟩
theorem lw_p45 : lw_okq (⟨"SensorNodeModel$Guest", "goes", "(I)V"⟩, 20) := ⟨⟨by decide +kernel, by decide +kernel⟩, List.mem_of_getElem? (i := 703) (by decide +kernel), List.mem_of_getElem? (i := 1055) (by decide +kernel), List.mem_of_getElem? (i := 1056) (by decide +kernel)⟩
theorem lw_p46 : lw_okq (⟨"SensorNodeModel$Guest", "branch", "(IIII)V"⟩, 20) := ⟨⟨by decide +kernel, by decide +kernel⟩, List.mem_of_getElem? (i := 703) (by decide +kernel), List.mem_of_getElem? (i := 1059) (by decide +kernel), List.mem_of_getElem? (i := 1060) (by decide +kernel)⟩
theorem lw_p47 : lw_okq (⟨"SensorNodeModel$Guest", "loads", "(II)V"⟩, 20) := ⟨⟨by decide +kernel, by decide +kernel⟩, List.mem_of_getElem? (i := 703) (by decide +kernel), List.mem_of_getElem? (i := 1066) (by decide +kernel), List.mem_of_getElem? (i := 1067) (by decide +kernel)⟩
def lw_privs_3 : List (MethodName × Nat) := [(⟨"SensorNodeModel", "counting", "()I"⟩, 36), (⟨"SensorNodeModel", "act", "()V"⟩, 36), (⟨"SensorNodeModel", "boot", "()V"⟩, 36), (⟨"SensorNodeModel", "write", "(II)V"⟩, 36), (⟨"SensorNodeModel", "check", "()V"⟩, 36), (⟨"SensorNodeModel", "checkWord", "(I)I"⟩, 36), (⟨"SensorNodeModel", "log", "()V"⟩, 36), (⟨"SensorNodeModel", "perform", "()V"⟩, 36), (⟨"SensorNodeModel$Guest", "isRam", "(I)Z"⟩, 20), (⟨"SensorNodeModel", "send", "()V"⟩, 36), (⟨"SensorNodeModel", "decide", "()V"⟩, 36), (⟨"SensorNodeModel$Guest", "decode", "(I)V"⟩, 20), (⟨"SensorNodeModel$Guest", "gives", "(I)V"⟩, 20), (⟨"SensorNodeModel$Guest", "goes", "(I)V"⟩, 20), (⟨"SensorNodeModel$Guest", "branch", "(IIII)V"⟩, 20), (⟨"SensorNodeModel$Guest", "loads", "(II)V"⟩, 20)]
theorem lw_r3 : ∀ q ∈ lw_privs_3, lw_okq q := List.forall_mem_cons.mpr ⟨lw_p32, List.forall_mem_cons.mpr ⟨lw_p33, List.forall_mem_cons.mpr ⟨lw_p34, List.forall_mem_cons.mpr ⟨lw_p35, List.forall_mem_cons.mpr ⟨lw_p36, List.forall_mem_cons.mpr ⟨lw_p37, List.forall_mem_cons.mpr ⟨lw_p38, List.forall_mem_cons.mpr ⟨lw_p39, List.forall_mem_cons.mpr ⟨lw_p40, List.forall_mem_cons.mpr ⟨lw_p41, List.forall_mem_cons.mpr ⟨lw_p42, List.forall_mem_cons.mpr ⟨lw_p43, List.forall_mem_cons.mpr ⟨lw_p44, List.forall_mem_cons.mpr ⟨lw_p45, List.forall_mem_cons.mpr ⟨lw_p46, List.forall_mem_cons.mpr ⟨lw_p47, fun _ h => absurd h List.not_mem_nil⟩⟩⟩⟩⟩⟩⟩⟩⟩⟩⟩⟩⟩⟩⟩⟩
theorem lw_p48 : lw_okq (⟨"SensorNodeModel$Guest", "reaches", "(II)Z"⟩, 20) := ⟨⟨by decide +kernel, by decide +kernel⟩, List.mem_of_getElem? (i := 703) (by decide +kernel), List.mem_of_getElem? (i := 1070) (by decide +kernel), List.mem_of_getElem? (i := 1071) (by decide +kernel)⟩
theorem lw_p49 : lw_okq (⟨"SensorNodeModel$Guest", "stores", "(III)V"⟩, 20) := ⟨⟨by decide +kernel, by decide +kernel⟩, List.mem_of_getElem? (i := 703) (by decide +kernel), List.mem_of_getElem? (i := 1075) (by decide +kernel), List.mem_of_getElem? (i := 1076) (by decide +kernel)⟩
theorem lw_p50 : lw_okq (⟨"SensorNodeModel$Guest", "calls", "()V"⟩, 20) := ⟨⟨by decide +kernel, by decide +kernel⟩, List.mem_of_getElem? (i := 703) (by decide +kernel), List.mem_of_getElem? (i := 1085) (by decide +kernel), List.mem_of_getElem? (i := 1086) (by decide +kernel)⟩
def lw_privs_4 : List (MethodName × Nat) := [(⟨"SensorNodeModel$Guest", "reaches", "(II)Z"⟩, 20), (⟨"SensorNodeModel$Guest", "stores", "(III)V"⟩, 20), (⟨"SensorNodeModel$Guest", "calls", "()V"⟩, 20)]
theorem lw_r4 : ∀ q ∈ lw_privs_4, lw_okq q := List.forall_mem_cons.mpr ⟨lw_p48, List.forall_mem_cons.mpr ⟨lw_p49, List.forall_mem_cons.mpr ⟨lw_p50, fun _ h => absurd h List.not_mem_nil⟩⟩⟩
def lw_privs : List (MethodName × Nat) := lw_privs_1 ++ (lw_privs_2 ++ (lw_privs_3 ++ (lw_privs_4)))
def lw_tbl : List Cond := k2_sels lw_privs ++ tables_1
theorem lw_privs_ok : ∀ q ∈ lw_privs, lw_okq q := by
  show ∀ q ∈ lw_privs_1 ++ (lw_privs_2 ++ (lw_privs_3 ++ (lw_privs_4))), lw_okq q
  exact List.forall_mem_append.mpr ⟨lw_r1, List.forall_mem_append.mpr ⟨lw_r2, List.forall_mem_append.mpr ⟨lw_r3, lw_r4⟩⟩⟩
end
section
-- names: classes, fields, methods (by the program that the claim brings), words of the tables by their places
def RX0 : String := "SensorNode$Bytes"
def TX0 : u_T := fun k => match k with
  | _ => ("SensorNode$Bytes", "packed", "[I", true)
def tyX0 : Nat → FieldType := fun k => match k with
  | _ => .array .int
abbrev wsX00 : List Cond := u_ws RX0 TX0 1
theorem nmX0 : ∀ a, a < 1 → ∀ b, b < 1 → a ≠ b → (TX0 a).2.1 ≠ (TX0 b).2.1 := by decide +kernel
theorem tyX0_ok : ∀ k, k < 1 → parseFieldDescriptor (TX0 k).2.2.1 = some (tyX0 k) := by decide +kernel
abbrev cX0_init : ByteArray := prog_2_method_1_code
def yX0_init : MethodName := ⟨RX0, "<init>", "(I)V"⟩
abbrev cX0_get : ByteArray := prog_2_method_2_code
def yX0_get : MethodName := ⟨RX0, "get", "(I)I"⟩
abbrev cX0_put : ByteArray := prog_2_method_3_code
def yX0_put : MethodName := ⟨RX0, "put", "(II)V"⟩
def RX1 : String := "SensorNode$Guest"
def TX1 : u_T := fun k => match k with
  | 0 => ("SensorNode$Guest", "plan", "LSensorNode$Plan;", true)
  | 1 => ("SensorNode$Guest", "own", "[I", true)
  | 2 => ("SensorNode$Guest", "memory", "[I", true)
  | 3 => ("SensorNode$Guest", "store", "[I", true)
  | 4 => ("SensorNode$Guest", "storeStart", "I", false)
  | 5 => ("SensorNode$Guest", "kind", "I", false)
  | 6 => ("SensorNode$Guest", "target", "I", false)
  | 7 => ("SensorNode$Guest", "value", "I", false)
  | 8 => ("SensorNode$Guest", "next", "I", false)
  | _ => ("SensorNode$Guest", "address", "I", false)
def tyX1 : Nat → FieldType := fun k => match k with
  | 0 => .object "SensorNode$Plan"
  | 1 => .array .int
  | 2 => .array .int
  | 3 => .array .int
  | 4 => .int
  | 5 => .int
  | 6 => .int
  | 7 => .int
  | 8 => .int
  | _ => .int
abbrev wsX10 : List Cond := u_ws RX1 TX1 10
theorem nmX1 : ∀ a, a < 10 → ∀ b, b < 10 → a ≠ b → (TX1 a).2.1 ≠ (TX1 b).2.1 := by decide +kernel
theorem tyX1_ok : ∀ k, k < 10 → parseFieldDescriptor (TX1 k).2.2.1 = some (tyX1 k) := by decide +kernel
abbrev cX1_init : ByteArray := prog_3_method_1_code
def yX1_init : MethodName := ⟨RX1, "<init>", "(LSensorNode$Plan;[I)V"⟩
abbrev cX1_setStoreStart : ByteArray := prog_3_method_2_code
def yX1_setStoreStart : MethodName := ⟨RX1, "setStoreStart", "(I)V"⟩
abbrev cX1_owned : ByteArray := prog_3_method_3_code
def yX1_owned : MethodName := ⟨RX1, "owned", "(I)I"⟩
abbrev cX1_saved : ByteArray := prog_3_method_4_code
def yX1_saved : MethodName := ⟨RX1, "saved", "(I)I"⟩
abbrev cX1_restore : ByteArray := prog_3_method_5_code
def yX1_restore : MethodName := ⟨RX1, "restore", "(II)V"⟩
abbrev cX1_look : ByteArray := prog_3_method_6_code
def yX1_look : MethodName := ⟨RX1, "look", "()I"⟩
abbrev cX1_jumpOffset : ByteArray := prog_3_method_7_code
def yX1_jumpOffset : MethodName := ⟨RX1, "jumpOffset", "(I)I"⟩
abbrev cX1_branchOffset : ByteArray := prog_3_method_8_code
def yX1_branchOffset : MethodName := ⟨RX1, "branchOffset", "(I)I"⟩
abbrev cX1_below : ByteArray := prog_3_method_9_code
def yX1_below : MethodName := ⟨RX1, "below", "(II)Z"⟩
abbrev cX1_give : ByteArray := prog_3_method_10_code
def yX1_give : MethodName := ⟨RX1, "give", "(I)I"⟩
abbrev cX1_jump : ByteArray := prog_3_method_11_code
def yX1_jump : MethodName := ⟨RX1, "jump", "(II)I"⟩
abbrev cX1_branch : ByteArray := prog_3_method_12_code
def yX1_branch : MethodName := ⟨RX1, "branch", "(IIII)I"⟩
abbrev cX1_load : ByteArray := prog_3_method_13_code
def yX1_load : MethodName := ⟨RX1, "load", "(II)I"⟩
abbrev cX1_storeAt : ByteArray := prog_3_method_14_code
def yX1_storeAt : MethodName := ⟨RX1, "storeAt", "(III)I"⟩
abbrev cX1_trapOfPlace : ByteArray := prog_3_method_15_code
def yX1_trapOfPlace : MethodName := ⟨RX1, "trapOfPlace", "(II)I"⟩
abbrev cX1_withNumber : ByteArray := prog_3_method_16_code
def yX1_withNumber : MethodName := ⟨RX1, "withNumber", "(IIII)I"⟩
abbrev cX1_withRegister : ByteArray := prog_3_method_17_code
def yX1_withRegister : MethodName := ⟨RX1, "withRegister", "(IIII)I"⟩
abbrev cX1_reckon : ByteArray := prog_3_method_18_code
def yX1_reckon : MethodName := ⟨RX1, "reckon", "(III)I"⟩
abbrev cX1_call : ByteArray := prog_3_method_19_code
def yX1_call : MethodName := ⟨RX1, "call", "()I"⟩
abbrev cX1_callToSend : ByteArray := prog_3_method_20_code
def yX1_callToSend : MethodName := ⟨RX1, "callToSend", "()I"⟩
abbrev cX1_finish : ByteArray := prog_3_method_21_code
def yX1_finish : MethodName := ⟨RX1, "finish", "()V"⟩
abbrev cX1_kind : ByteArray := prog_3_method_22_code
def yX1_kind : MethodName := ⟨RX1, "kind", "()I"⟩
abbrev cX1_cellWritten : ByteArray := prog_3_method_23_code
def yX1_cellWritten : MethodName := ⟨RX1, "cellWritten", "()I"⟩
abbrev cX1_sendLength : ByteArray := prog_3_method_24_code
def yX1_sendLength : MethodName := ⟨RX1, "sendLength", "()I"⟩
abbrev cX1_sendPlace : ByteArray := prog_3_method_25_code
def yX1_sendPlace : MethodName := ⟨RX1, "sendPlace", "()I"⟩
abbrev cX1_inRam : ByteArray := prog_3_method_26_code
def yX1_inRam : MethodName := ⟨RX1, "inRam", "(I)Z"⟩
abbrev cX1_holds : ByteArray := prog_3_method_27_code
def yX1_holds : MethodName := ⟨RX1, "holds", "(II)Z"⟩
abbrev cX1_byteAt : ByteArray := prog_3_method_28_code
def yX1_byteAt : MethodName := ⟨RX1, "byteAt", "(I)I"⟩
abbrev cX1_wordAt : ByteArray := prog_3_method_29_code
def yX1_wordAt : MethodName := ⟨RX1, "wordAt", "(I)I"⟩
abbrev cX1_putWord : ByteArray := prog_3_method_30_code
def yX1_putWord : MethodName := ⟨RX1, "putWord", "(II)V"⟩
def RX2 : String := "SensorNode$Node"
def TX2 : u_T := fun k => match k with
  | 0 => ("SensorNode$Node", "plan", "LSensorNode$Plan;", true)
  | 1 => ("SensorNode$Node", "store", "[I", true)
  | 2 => ("SensorNode$Node", "marks", "[I", true)
  | 3 => ("SensorNode$Node", "counts", "[I", true)
  | 4 => ("SensorNode$Node", "radio", "LSensorNode$Radio;", true)
  | 5 => ("SensorNode$Node", "guest", "LSensorNode$Guest;", true)
  | 6 => ("SensorNode$Node", "mark", "I", false)
  | 7 => ("SensorNode$Node", "state", "I", false)
  | 8 => ("SensorNode$Node", "step", "I", false)
  | 9 => ("SensorNode$Node", "since", "I", false)
  | 10 => ("SensorNode$Node", "size", "I", false)
  | 11 => ("SensorNode$Node", "logStart", "I", false)
  | 12 => ("SensorNode$Node", "guestStart", "I", false)
  | 13 => ("SensorNode$Node", "strays", "I", false)
  | _ => ("SensorNode$Node", "hadPower", "Z", false)
def tyX2 : Nat → FieldType := fun k => match k with
  | 0 => .object "SensorNode$Plan"
  | 1 => .array .int
  | 2 => .array .int
  | 3 => .array .int
  | 4 => .object "SensorNode$Radio"
  | 5 => .object "SensorNode$Guest"
  | 6 => .int
  | 7 => .int
  | 8 => .int
  | 9 => .int
  | 10 => .int
  | 11 => .int
  | 12 => .int
  | 13 => .int
  | _ => .boolean
abbrev wsX20 : List Cond := u_ws RX2 TX2 15
theorem nmX2 : ∀ a, a < 15 → ∀ b, b < 15 → a ≠ b → (TX2 a).2.1 ≠ (TX2 b).2.1 := by decide +kernel
theorem tyX2_ok : ∀ k, k < 15 → parseFieldDescriptor (TX2 k).2.2.1 = some (tyX2 k) := by decide +kernel
abbrev cX2_init : ByteArray := prog_4_method_1_code
def yX2_init : MethodName := ⟨RX2, "<init>", "(LSensorNode$Plan;)V"⟩
abbrev cX2_makeNew : ByteArray := prog_4_method_2_code
def yX2_makeNew : MethodName := ⟨RX2, "makeNew", "()V"⟩
abbrev cX2_hadPower : ByteArray := prog_4_method_3_code
def yX2_hadPower : MethodName := ⟨RX2, "hadPower", "()Z"⟩
abbrev cX2_hasPower : ByteArray := prog_4_method_4_code
def yX2_hasPower : MethodName := ⟨RX2, "hasPower", "()Z"⟩
abbrev cX2_givePower : ByteArray := prog_4_method_5_code
def yX2_givePower : MethodName := ⟨RX2, "givePower", "()Z"⟩
abbrev cX2_meetLog : ByteArray := prog_4_method_6_code
def yX2_meetLog : MethodName := ⟨RX2, "meetLog", "()V"⟩
abbrev cX2_cutPower : ByteArray := prog_4_method_7_code
def yX2_cutPower : MethodName := ⟨RX2, "cutPower", "()Z"⟩
abbrev cX2_act : ByteArray := prog_4_method_8_code
def yX2_act : MethodName := ⟨RX2, "act", "(I)I"⟩
abbrev cX2_choose : ByteArray := prog_4_method_9_code
def yX2_choose : MethodName := ⟨RX2, "choose", "()V"⟩
abbrev cX2_needsCheckpoint : ByteArray := prog_4_method_10_code
def yX2_needsCheckpoint : MethodName := ⟨RX2, "needsCheckpoint", "()Z"⟩
abbrev cX2_needsEntry : ByteArray := prog_4_method_11_code
def yX2_needsEntry : MethodName := ⟨RX2, "needsEntry", "()Z"⟩
abbrev cX2_boot : ByteArray := prog_4_method_12_code
def yX2_boot : MethodName := ⟨RX2, "boot", "()V"⟩
abbrev cX2_checkpoint : ByteArray := prog_4_method_13_code
def yX2_checkpoint : MethodName := ⟨RX2, "checkpoint", "()V"⟩
abbrev cX2_instruct : ByteArray := prog_4_method_14_code
def yX2_instruct : MethodName := ⟨RX2, "instruct", "()V"⟩
abbrev cX2_log : ByteArray := prog_4_method_15_code
def yX2_log : MethodName := ⟨RX2, "log", "(I)V"⟩
abbrev cX2_finish : ByteArray := prog_4_method_16_code
def yX2_finish : MethodName := ⟨RX2, "finish", "()V"⟩
abbrev cX2_write : ByteArray := prog_4_method_17_code
def yX2_write : MethodName := ⟨RX2, "write", "(II)V"⟩
abbrev cX2_generation : ByteArray := prog_4_method_18_code
def yX2_generation : MethodName := ⟨RX2, "generation", "()I"⟩
abbrev cX2_entriesThatCount : ByteArray := prog_4_method_19_code
def yX2_entriesThatCount : MethodName := ⟨RX2, "entriesThatCount", "()I"⟩
abbrev cX2_bufferStart : ByteArray := prog_4_method_20_code
def yX2_bufferStart : MethodName := ⟨RX2, "bufferStart", "(I)I"⟩
abbrev cX2_condition : ByteArray := prog_4_method_21_code
def yX2_condition : MethodName := ⟨RX2, "condition", "()I"⟩
abbrev cX2_owned : ByteArray := prog_4_method_22_code
def yX2_owned : MethodName := ⟨RX2, "owned", "(I)I"⟩
abbrev cX2_ramByte : ByteArray := prog_4_method_23_code
def yX2_ramByte : MethodName := ⟨RX2, "ramByte", "(I)I"⟩
abbrev cX2_size : ByteArray := prog_4_method_24_code
def yX2_size : MethodName := ⟨RX2, "size", "()I"⟩
abbrev cX2_stored : ByteArray := prog_4_method_25_code
def yX2_stored : MethodName := ⟨RX2, "stored", "(I)I"⟩
abbrev cX2_radio : ByteArray := prog_4_method_26_code
def yX2_radio : MethodName := ⟨RX2, "radio", "()LSensorNode$Radio;"⟩
abbrev cX2_counted : ByteArray := prog_4_method_27_code
def yX2_counted : MethodName := ⟨RX2, "counted", "(I)I"⟩
abbrev cX2_strayed : ByteArray := prog_4_method_28_code
def yX2_strayed : MethodName := ⟨RX2, "strayed", "()I"⟩
def RX3 : String := "SensorNode$PlainMachine"
def TX3 : u_T := fun k => match k with
  | 0 => ("SensorNode$PlainMachine", "plan", "LSensorNode$Plan;", true)
  | 1 => ("SensorNode$PlainMachine", "store", "[I", true)
  | 2 => ("SensorNode$PlainMachine", "guest", "LSensorNode$Guest;", true)
  | 3 => ("SensorNode$PlainMachine", "radio", "LSensorNode$Radio;", true)
  | 4 => ("SensorNode$PlainMachine", "ran", "Z", false)
  | _ => ("SensorNode$PlainMachine", "ending", "I", false)
def tyX3 : Nat → FieldType := fun k => match k with
  | 0 => .object "SensorNode$Plan"
  | 1 => .array .int
  | 2 => .object "SensorNode$Guest"
  | 3 => .object "SensorNode$Radio"
  | 4 => .boolean
  | _ => .int
abbrev wsX30 : List Cond := u_ws RX3 TX3 6
theorem nmX3 : ∀ a, a < 6 → ∀ b, b < 6 → a ≠ b → (TX3 a).2.1 ≠ (TX3 b).2.1 := by decide +kernel
theorem tyX3_ok : ∀ k, k < 6 → parseFieldDescriptor (TX3 k).2.2.1 = some (tyX3 k) := by decide +kernel
abbrev cX3_init : ByteArray := prog_5_method_1_code
def yX3_init : MethodName := ⟨RX3, "<init>", "(LSensorNode$Plan;)V"⟩
abbrev cX3_forget : ByteArray := prog_5_method_2_code
def yX3_forget : MethodName := ⟨RX3, "forget", "()V"⟩
abbrev cX3_run : ByteArray := prog_5_method_3_code
def yX3_run : MethodName := ⟨RX3, "run", "(I)I"⟩
abbrev cX3_begin : ByteArray := prog_5_method_4_code
def yX3_begin : MethodName := ⟨RX3, "begin", "()V"⟩
abbrev cX3_owned : ByteArray := prog_5_method_5_code
def yX3_owned : MethodName := ⟨RX3, "owned", "(I)I"⟩
abbrev cX3_memoryByte : ByteArray := prog_5_method_6_code
def yX3_memoryByte : MethodName := ⟨RX3, "memoryByte", "(I)I"⟩
abbrev cX3_radio : ByteArray := prog_5_method_7_code
def yX3_radio : MethodName := ⟨RX3, "radio", "()LSensorNode$Radio;"⟩
def RX4 : String := "SensorNode$Plan"
def TX4 : u_T := fun k => match k with
  | 0 => ("SensorNode$Plan", "image", "[I", true)
  | 1 => ("SensorNode$Plan", "samples", "[I", true)
  | 2 => ("SensorNode$Plan", "samplesTold", "I", false)
  | 3 => ("SensorNode$Plan", "installed", "Z", false)
  | 4 => ("SensorNode$Plan", "ramBytes", "I", false)
  | 5 => ("SensorNode$Plan", "storeBytes", "I", false)
  | 6 => ("SensorNode$Plan", "entries", "I", false)
  | 7 => ("SensorNode$Plan", "interval", "I", false)
  | _ => ("SensorNode$Plan", "start", "I", false)
def tyX4 : Nat → FieldType := fun k => match k with
  | 0 => .array .int
  | 1 => .array .int
  | 2 => .int
  | 3 => .boolean
  | 4 => .int
  | 5 => .int
  | 6 => .int
  | 7 => .int
  | _ => .int
abbrev wsX40 : List Cond := u_ws RX4 TX4 9
theorem nmX4 : ∀ a, a < 9 → ∀ b, b < 9 → a ≠ b → (TX4 a).2.1 ≠ (TX4 b).2.1 := by decide +kernel
theorem tyX4_ok : ∀ k, k < 9 → parseFieldDescriptor (TX4 k).2.2.1 = some (tyX4 k) := by decide +kernel
abbrev cX4_init : ByteArray := prog_6_method_1_code
def yX4_init : MethodName := ⟨RX4, "<init>", "()V"⟩
abbrev cX4_allows : ByteArray := prog_6_method_2_code
def yX4_allows : MethodName := ⟨RX4, "allows", "(IIII)Z"⟩
abbrev cX4_set : ByteArray := prog_6_method_3_code
def yX4_set : MethodName := ⟨RX4, "set", "(IIIII)V"⟩
abbrev cX4_fill : ByteArray := prog_6_method_4_code
def yX4_fill : MethodName := ⟨RX4, "fill", "(LSensorNode$Tray;I)V"⟩
abbrev cX4_copyImage : ByteArray := prog_6_method_5_code
def yX4_copyImage : MethodName := ⟨RX4, "copyImage", "([II)V"⟩
abbrev cX4_addSample : ByteArray := prog_6_method_6_code
def yX4_addSample : MethodName := ⟨RX4, "addSample", "(I)I"⟩
abbrev cX4_sampleAt : ByteArray := prog_6_method_7_code
def yX4_sampleAt : MethodName := ⟨RX4, "sampleAt", "(I)I"⟩
abbrev cX4_bufferWords : ByteArray := prog_6_method_8_code
def yX4_bufferWords : MethodName := ⟨RX4, "bufferWords", "()I"⟩
def RX5 : String := "SensorNode$Radio"
def TX5 : u_T := fun k => match k with
  | 0 => ("SensorNode$Radio", "numbers", "[I", true)
  | 1 => ("SensorNode$Radio", "lengths", "[I", true)
  | 2 => ("SensorNode$Radio", "cuts", "[I", true)
  | 3 => ("SensorNode$Radio", "bytes", "LSensorNode$Bytes;", true)
  | 4 => ("SensorNode$Radio", "total", "I", false)
  | _ => ("SensorNode$Radio", "newest", "I", false)
def tyX5 : Nat → FieldType := fun k => match k with
  | 0 => .array .int
  | 1 => .array .int
  | 2 => .array .int
  | 3 => .object "SensorNode$Bytes"
  | 4 => .int
  | _ => .int
abbrev wsX50 : List Cond := u_ws RX5 TX5 6
theorem nmX5 : ∀ a, a < 6 → ∀ b, b < 6 → a ≠ b → (TX5 a).2.1 ≠ (TX5 b).2.1 := by decide +kernel
theorem tyX5_ok : ∀ k, k < 6 → parseFieldDescriptor (TX5 k).2.2.1 = some (tyX5 k) := by decide +kernel
abbrev cX5_init : ByteArray := prog_7_method_1_code
def yX5_init : MethodName := ⟨RX5, "<init>", "()V"⟩
abbrev cX5_clear : ByteArray := prog_7_method_2_code
def yX5_clear : MethodName := ⟨RX5, "clear", "()V"⟩
abbrev cX5_send : ByteArray := prog_7_method_3_code
def yX5_send : MethodName := ⟨RX5, "send", "(LSensorNode$Guest;II)V"⟩
abbrev cX5_keeps : ByteArray := prog_7_method_4_code
def yX5_keeps : MethodName := ⟨RX5, "keeps", "(I)Z"⟩
abbrev cX5_total : ByteArray := prog_7_method_5_code
def yX5_total : MethodName := ⟨RX5, "total", "()I"⟩
abbrev cX5_newest : ByteArray := prog_7_method_6_code
def yX5_newest : MethodName := ⟨RX5, "newest", "()I"⟩
abbrev cX5_number : ByteArray := prog_7_method_7_code
def yX5_number : MethodName := ⟨RX5, "number", "(I)I"⟩
abbrev cX5_length : ByteArray := prog_7_method_8_code
def yX5_length : MethodName := ⟨RX5, "length", "(I)I"⟩
abbrev cX5_cutsBefore : ByteArray := prog_7_method_9_code
def yX5_cutsBefore : MethodName := ⟨RX5, "cutsBefore", "(I)I"⟩
abbrev cX5_byteOf : ByteArray := prog_7_method_10_code
def yX5_byteOf : MethodName := ⟨RX5, "byteOf", "(II)I"⟩
def RX6 : String := "SensorNode$Tray"
def TX6 : u_T := fun k => match k with
  | 0 => ("SensorNode$Tray", "bytes", "LSensorNode$Bytes;", true)
  | 1 => ("SensorNode$Tray", "size", "I", false)
  | _ => ("SensorNode$Tray", "fed", "I", false)
def tyX6 : Nat → FieldType := fun k => match k with
  | 0 => .object "SensorNode$Bytes"
  | 1 => .int
  | _ => .int
abbrev wsX60 : List Cond := u_ws RX6 TX6 3
theorem nmX6 : ∀ a, a < 3 → ∀ b, b < 3 → a ≠ b → (TX6 a).2.1 ≠ (TX6 b).2.1 := by decide +kernel
theorem tyX6_ok : ∀ k, k < 3 → parseFieldDescriptor (TX6 k).2.2.1 = some (tyX6 k) := by decide +kernel
abbrev cX6_init : ByteArray := prog_8_method_1_code
def yX6_init : MethodName := ⟨RX6, "<init>", "()V"⟩
abbrev cX6_hasRoom : ByteArray := prog_8_method_2_code
def yX6_hasRoom : MethodName := ⟨RX6, "hasRoom", "()Z"⟩
abbrev cX6_size : ByteArray := prog_8_method_3_code
def yX6_size : MethodName := ⟨RX6, "size", "()I"⟩
abbrev cX6_add : ByteArray := prog_8_method_4_code
def yX6_add : MethodName := ⟨RX6, "add", "(I)V"⟩
abbrev cX6_shorten : ByteArray := prog_8_method_5_code
def yX6_shorten : MethodName := ⟨RX6, "shorten", "(I)Z"⟩
abbrev cX6_get : ByteArray := prog_8_method_6_code
def yX6_get : MethodName := ⟨RX6, "get", "(I)I"⟩
def RX7 : String := "SensorNode"
def TX7 : u_T := fun k => match k with
  | 0 => ("SensorNode", "tray", "LSensorNode$Tray;", true)
  | 1 => ("SensorNode", "plan", "LSensorNode$Plan;", true)
  | 2 => ("SensorNode", "node", "LSensorNode$Node;", true)
  | _ => ("SensorNode", "plainMachine", "LSensorNode$PlainMachine;", true)
def tyX7 : Nat → FieldType := fun k => match k with
  | 0 => .object "SensorNode$Tray"
  | 1 => .object "SensorNode$Plan"
  | 2 => .object "SensorNode$Node"
  | _ => .object "SensorNode$PlainMachine"
abbrev wsX70 : List Cond := u_ws RX7 TX7 4
theorem nmX7 : ∀ a, a < 4 → ∀ b, b < 4 → a ≠ b → (TX7 a).2.1 ≠ (TX7 b).2.1 := by decide +kernel
theorem tyX7_ok : ∀ k, k < 4 → parseFieldDescriptor (TX7 k).2.2.1 = some (tyX7 k) := by decide +kernel
abbrev cX7_init : ByteArray := prog_1_method_1_code
def yX7_init : MethodName := ⟨RX7, "<init>", "()V"⟩
abbrev cX7_feed : ByteArray := prog_1_method_2_code
def yX7_feed : MethodName := ⟨RX7, "feed", "(IIIII)I"⟩
abbrev cX7_end : ByteArray := prog_1_method_3_code
def yX7_end : MethodName := ⟨RX7, "end", "(I)Z"⟩
abbrev cX7_install : ByteArray := prog_1_method_4_code
def yX7_install : MethodName := ⟨RX7, "install", "(IIIII)I"⟩
abbrev cX7_sample : ByteArray := prog_1_method_5_code
def yX7_sample : MethodName := ⟨RX7, "sample", "(I)I"⟩
abbrev cX7_on : ByteArray := prog_1_method_6_code
def yX7_on : MethodName := ⟨RX7, "on", "()Z"⟩
abbrev cX7_cut : ByteArray := prog_1_method_7_code
def yX7_cut : MethodName := ⟨RX7, "cut", "()Z"⟩
abbrev cX7_go : ByteArray := prog_1_method_8_code
def yX7_go : MethodName := ⟨RX7, "go", "(I)I"⟩
abbrev cX7_state : ByteArray := prog_1_method_9_code
def yX7_state : MethodName := ⟨RX7, "state", "()I"⟩
abbrev cX7_register : ByteArray := prog_1_method_10_code
def yX7_register : MethodName := ⟨RX7, "register", "(I)I"⟩
abbrev cX7_ram : ByteArray := prog_1_method_11_code
def yX7_ram : MethodName := ⟨RX7, "ram", "(I)I"⟩
abbrev cX7_words : ByteArray := prog_1_method_12_code
def yX7_words : MethodName := ⟨RX7, "words", "()I"⟩
abbrev cX7_word : ByteArray := prog_1_method_13_code
def yX7_word : MethodName := ⟨RX7, "word", "(I)I"⟩
abbrev cX7_frames : ByteArray := prog_1_method_14_code
def yX7_frames : MethodName := ⟨RX7, "frames", "()I"⟩
abbrev cX7_frame : ByteArray := prog_1_method_15_code
def yX7_frame : MethodName := ⟨RX7, "frame", "(II)I"⟩
abbrev cX7_heard : ByteArray := prog_1_method_16_code
def yX7_heard : MethodName := ⟨RX7, "heard", "(II)I"⟩
abbrev cX7_count : ByteArray := prog_1_method_17_code
def yX7_count : MethodName := ⟨RX7, "count", "(I)I"⟩
abbrev cX7_plain : ByteArray := prog_1_method_18_code
def yX7_plain : MethodName := ⟨RX7, "plain", "(I)I"⟩
abbrev cX7_plainly : ByteArray := prog_1_method_19_code
def yX7_plainly : MethodName := ⟨RX7, "plainly", "(I)I"⟩
abbrev cX7_plainByte : ByteArray := prog_1_method_20_code
def yX7_plainByte : MethodName := ⟨RX7, "plainByte", "(I)I"⟩
abbrev cX7_plainFrame : ByteArray := prog_1_method_21_code
def yX7_plainFrame : MethodName := ⟨RX7, "plainFrame", "(I)I"⟩
abbrev cX7_plainHeard : ByteArray := prog_1_method_22_code
def yX7_plainHeard : MethodName := ⟨RX7, "plainHeard", "(II)I"⟩
abbrev cX7_strays : ByteArray := prog_1_method_23_code
def yX7_strays : MethodName := ⟨RX7, "strays", "()I"⟩
def RX8 : String := "SensorNodeModel$Air"
def TX8 : u_T := fun k => match k with
  | 0 => ("SensorNodeModel$Air", "count", "I", false)
  | 1 => ("SensorNodeModel$Air", "number", "[I", true)
  | 2 => ("SensorNodeModel$Air", "length", "[I", true)
  | 3 => ("SensorNodeModel$Air", "before", "[I", true)
  | _ => ("SensorNodeModel$Air", "bytes", "[B", true)
def tyX8 : Nat → FieldType := fun k => match k with
  | 0 => .int
  | 1 => .array .int
  | 2 => .array .int
  | 3 => .array .int
  | _ => .array .byte
abbrev wsX80 : List Cond := u_ws RX8 TX8 5
theorem nmX8 : ∀ a, a < 5 → ∀ b, b < 5 → a ≠ b → (TX8 a).2.1 ≠ (TX8 b).2.1 := by decide +kernel
theorem tyX8_ok : ∀ k, k < 5 → parseFieldDescriptor (TX8 k).2.2.1 = some (tyX8 k) := by decide +kernel
abbrev cX8_init : ByteArray := prog_11_method_1_code
def yX8_init : MethodName := ⟨RX8, "<init>", "()V"⟩
abbrev cX8_has : ByteArray := prog_11_method_2_code
def yX8_has : MethodName := ⟨RX8, "has", "(I)Z"⟩
abbrev cX8_at : ByteArray := prog_11_method_3_code
def yX8_at : MethodName := ⟨RX8, "at", "(II)I"⟩
def RX9 : String := "SensorNodeModel$Guest"
def TX9 : u_T := fun k => match k with
  | 0 => ("SensorNodeModel$Guest", "x", "[I", true)
  | 1 => ("SensorNodeModel$Guest", "pc", "I", false)
  | 2 => ("SensorNodeModel$Guest", "index", "I", false)
  | 3 => ("SensorNodeModel$Guest", "sent", "I", false)
  | 4 => ("SensorNodeModel$Guest", "count", "I", false)
  | 5 => ("SensorNodeModel$Guest", "ram", "[I", true)
  | 6 => ("SensorNodeModel$Guest", "\x72", "I", false)
  | 7 => ("SensorNodeModel$Guest", "g", "I", false)
  | 8 => ("SensorNodeModel$Guest", "own", "[I", false)
  | 9 => ("SensorNodeModel$Guest", "from", "I", false)
  | 10 => ("SensorNodeModel$Guest", "samples", "[I", true)
  | 11 => ("SensorNodeModel$Guest", "sampleCount", "I", false)
  | 12 => ("SensorNodeModel$Guest", "ends", "I", false)
  | 13 => ("SensorNodeModel$Guest", "effect", "I", false)
  | 14 => ("SensorNodeModel$Guest", "target", "I", false)
  | 15 => ("SensorNodeModel$Guest", "value", "I", false)
  | 16 => ("SensorNodeModel$Guest", "place", "I", false)
  | 17 => ("SensorNodeModel$Guest", "wide", "I", false)
  | 18 => ("SensorNodeModel$Guest", "writesRegister", "Z", false)
  | _ => ("SensorNodeModel$Guest", "writesRam", "Z", false)
def tyX9 : Nat → FieldType := fun k => match k with
  | 0 => .array .int
  | 1 => .int
  | 2 => .int
  | 3 => .int
  | 4 => .int
  | 5 => .array .int
  | 6 => .int
  | 7 => .int
  | 8 => .array .int
  | 9 => .int
  | 10 => .array .int
  | 11 => .int
  | 12 => .int
  | 13 => .int
  | 14 => .int
  | 15 => .int
  | 16 => .int
  | 17 => .int
  | 18 => .boolean
  | _ => .boolean
abbrev wsX90 : List Cond := u_ws RX9 TX9 20
theorem nmX9 : ∀ a, a < 20 → ∀ b, b < 20 → a ≠ b → (TX9 a).2.1 ≠ (TX9 b).2.1 := by decide +kernel
theorem tyX9_ok : ∀ k, k < 20 → parseFieldDescriptor (TX9 k).2.2.1 = some (tyX9 k) := by decide +kernel
abbrev cX9_init : ByteArray := prog_12_method_1_code
def yX9_init : MethodName := ⟨RX9, "<init>", "([I)V"⟩
abbrev cX9_begin : ByteArray := prog_12_method_2_code
def yX9_begin : MethodName := ⟨RX9, "begin", "(III)V"⟩
abbrev cX9_isIn : ByteArray := prog_12_method_3_code
def yX9_isIn : MethodName := ⟨RX9, "isIn", "(IJ)Z"⟩
abbrev cX9_isRam : ByteArray := prog_12_method_4_code
def yX9_isRam : MethodName := ⟨RX9, "isRam", "(I)Z"⟩
abbrev cX9_wordAt : ByteArray := prog_12_method_5_code
def yX9_wordAt : MethodName := ⟨RX9, "wordAt", "(I)I"⟩
abbrev cX9_byteAt : ByteArray := prog_12_method_6_code
def yX9_byteAt : MethodName := ⟨RX9, "byteAt", "(I)I"⟩
abbrev cX9_bits : ByteArray := prog_12_method_7_code
def yX9_bits : MethodName := ⟨RX9, "bits", "(III)I"⟩
abbrev cX9_look : ByteArray := prog_12_method_8_code
def yX9_look : MethodName := ⟨RX9, "look", "()V"⟩
abbrev cX9_decode : ByteArray := prog_12_method_9_code
def yX9_decode : MethodName := ⟨RX9, "decode", "(I)V"⟩
abbrev cX9_gives : ByteArray := prog_12_method_10_code
def yX9_gives : MethodName := ⟨RX9, "gives", "(I)V"⟩
abbrev cX9_goes : ByteArray := prog_12_method_11_code
def yX9_goes : MethodName := ⟨RX9, "goes", "(I)V"⟩
abbrev cX9_isBelow : ByteArray := prog_12_method_12_code
def yX9_isBelow : MethodName := ⟨RX9, "isBelow", "(II)Z"⟩
abbrev cX9_shifted : ByteArray := prog_12_method_13_code
def yX9_shifted : MethodName := ⟨RX9, "shifted", "(IIII)I"⟩
abbrev cX9_worked : ByteArray := prog_12_method_14_code
def yX9_worked : MethodName := ⟨RX9, "worked", "(III)I"⟩
abbrev cX9_branch : ByteArray := prog_12_method_15_code
def yX9_branch : MethodName := ⟨RX9, "branch", "(IIII)V"⟩
abbrev cX9_reaches : ByteArray := prog_12_method_16_code
def yX9_reaches : MethodName := ⟨RX9, "reaches", "(II)Z"⟩
abbrev cX9_loads : ByteArray := prog_12_method_17_code
def yX9_loads : MethodName := ⟨RX9, "loads", "(II)V"⟩
abbrev cX9_stores : ByteArray := prog_12_method_18_code
def yX9_stores : MethodName := ⟨RX9, "stores", "(III)V"⟩
abbrev cX9_calls : ByteArray := prog_12_method_19_code
def yX9_calls : MethodName := ⟨RX9, "calls", "()V"⟩
abbrev cX9_perform : ByteArray := prog_12_method_20_code
def yX9_perform : MethodName := ⟨RX9, "perform", "()V"⟩
abbrev cX9_sendTo : ByteArray := prog_12_method_21_code
def yX9_sendTo : MethodName := ⟨RX9, "sendTo", "(LSensorNodeModel$Air;I)V"⟩
def RX10 : String := "SensorNodeModel"
def TX10 : u_T := fun k => match k with
  | 0 => ("SensorNodeModel", "isInstalled", "Z", false)
  | 1 => ("SensorNodeModel", "wasOn", "Z", false)
  | 2 => ("SensorNodeModel", "power", "Z", false)
  | 3 => ("SensorNodeModel", "\x72", "I", false)
  | 4 => ("SensorNodeModel", "g", "I", false)
  | 5 => ("SensorNodeModel", "l", "I", false)
  | 6 => ("SensorNodeModel", "k", "I", false)
  | 7 => ("SensorNodeModel", "pcAtFirst", "I", false)
  | 8 => ("SensorNodeModel", "size", "I", false)
  | 9 => ("SensorNodeModel", "entriesAt", "I", false)
  | 10 => ("SensorNodeModel", "guestAt", "I", false)
  | 11 => ("SensorNodeModel", "store", "[I", true)
  | 12 => ("SensorNodeModel", "image", "[I", true)
  | 13 => ("SensorNodeModel", "samples", "[I", true)
  | 14 => ("SensorNodeModel", "node", "LSensorNodeModel$Guest;", true)
  | 15 => ("SensorNodeModel", "plain", "LSensorNodeModel$Guest;", true)
  | 16 => ("SensorNodeModel", "plainWords", "[I", true)
  | 17 => ("SensorNodeModel", "wasPlain", "Z", false)
  | 18 => ("SensorNodeModel", "heard", "LSensorNodeModel$Air;", false)
  | 19 => ("SensorNodeModel", "plainHeard", "LSensorNodeModel$Air;", true)
  | 20 => ("SensorNodeModel", "since", "I", false)
  | 21 => ("SensorNodeModel", "ended", "I", false)
  | 22 => ("SensorNodeModel", "doing", "I", false)
  | 23 => ("SensorNodeModel", "step", "I", false)
  | 24 => ("SensorNodeModel", "hasEntry", "[Z", true)
  | 25 => ("SensorNodeModel", "acts", "I", false)
  | 26 => ("SensorNodeModel", "written", "I", false)
  | 27 => ("SensorNodeModel", "undone", "I", false)
  | 28 => ("SensorNodeModel", "done", "I", false)
  | 29 => ("SensorNodeModel", "checkpoints", "I", false)
  | 30 => ("SensorNodeModel", "cuts", "I", false)
  | 31 => ("SensorNodeModel", "rolled", "I", false)
  | 32 => ("SensorNodeModel", "strays", "I", false)
  | 33 => ("SensorNodeModel", "tray", "[B", true)
  | 34 => ("SensorNodeModel", "trayed", "I", false)
  | _ => ("SensorNodeModel", "fed", "I", false)
def tyX10 : Nat → FieldType := fun k => match k with
  | 0 => .boolean
  | 1 => .boolean
  | 2 => .boolean
  | 3 => .int
  | 4 => .int
  | 5 => .int
  | 6 => .int
  | 7 => .int
  | 8 => .int
  | 9 => .int
  | 10 => .int
  | 11 => .array .int
  | 12 => .array .int
  | 13 => .array .int
  | 14 => .object "SensorNodeModel$Guest"
  | 15 => .object "SensorNodeModel$Guest"
  | 16 => .array .int
  | 17 => .boolean
  | 18 => .object "SensorNodeModel$Air"
  | 19 => .object "SensorNodeModel$Air"
  | 20 => .int
  | 21 => .int
  | 22 => .int
  | 23 => .int
  | 24 => .array .boolean
  | 25 => .int
  | 26 => .int
  | 27 => .int
  | 28 => .int
  | 29 => .int
  | 30 => .int
  | 31 => .int
  | 32 => .int
  | 33 => .array .byte
  | 34 => .int
  | _ => .int
abbrev wsX100 : List Cond := u_ws RX10 TX10 36
theorem nmX10 : ∀ a, a < 36 → ∀ b, b < 36 → a ≠ b → (TX10 a).2.1 ≠ (TX10 b).2.1 := by decide +kernel
theorem tyX10_ok : ∀ k, k < 36 → parseFieldDescriptor (TX10 k).2.2.1 = some (tyX10 k) := by decide +kernel
abbrev cX10_init : ByteArray := prog_10_method_1_code
def yX10_init : MethodName := ⟨RX10, "<init>", "()V"⟩
abbrev cX10_four : ByteArray := prog_10_method_3_code
def yX10_four : MethodName := ⟨RX10, "four", "(I)V"⟩
abbrev cX10_feed : ByteArray := prog_10_method_4_code
def yX10_feed : MethodName := ⟨RX10, "feed", "(IIIII)I"⟩
abbrev cX10_end : ByteArray := prog_10_method_5_code
def yX10_end : MethodName := ⟨RX10, "end", "(I)Z"⟩
abbrev cX10_install : ByteArray := prog_10_method_6_code
def yX10_install : MethodName := ⟨RX10, "install", "(IIIII)I"⟩
abbrev cX10_sample : ByteArray := prog_10_method_7_code
def yX10_sample : MethodName := ⟨RX10, "sample", "(I)I"⟩
abbrev cX10_generation : ByteArray := prog_10_method_8_code
def yX10_generation : MethodName := ⟨RX10, "generation", "()I"⟩
abbrev cX10_bufferAt : ByteArray := prog_10_method_9_code
def yX10_bufferAt : MethodName := ⟨RX10, "bufferAt", "(I)I"⟩
abbrev cX10_counting : ByteArray := prog_10_method_10_code
def yX10_counting : MethodName := ⟨RX10, "counting", "()I"⟩
abbrev cX10_on : ByteArray := prog_10_method_11_code
def yX10_on : MethodName := ⟨RX10, "on", "()Z"⟩
abbrev cX10_forgetEntries : ByteArray := prog_10_method_12_code
def yX10_forgetEntries : MethodName := ⟨RX10, "forgetEntries", "()V"⟩
abbrev cX10_cut : ByteArray := prog_10_method_13_code
def yX10_cut : MethodName := ⟨RX10, "cut", "()Z"⟩
abbrev cX10_go : ByteArray := prog_10_method_14_code
def yX10_go : MethodName := ⟨RX10, "go", "(I)I"⟩
abbrev cX10_write : ByteArray := prog_10_method_15_code
def yX10_write : MethodName := ⟨RX10, "write", "(II)V"⟩
abbrev cX10_act : ByteArray := prog_10_method_16_code
def yX10_act : MethodName := ⟨RX10, "act", "()V"⟩
abbrev cX10_boot : ByteArray := prog_10_method_17_code
def yX10_boot : MethodName := ⟨RX10, "boot", "()V"⟩
abbrev cX10_decide : ByteArray := prog_10_method_18_code
def yX10_decide : MethodName := ⟨RX10, "decide", "()V"⟩
abbrev cX10_perform : ByteArray := prog_10_method_19_code
def yX10_perform : MethodName := ⟨RX10, "perform", "()V"⟩
abbrev cX10_checkWord : ByteArray := prog_10_method_20_code
def yX10_checkWord : MethodName := ⟨RX10, "checkWord", "(I)I"⟩
abbrev cX10_check : ByteArray := prog_10_method_21_code
def yX10_check : MethodName := ⟨RX10, "check", "()V"⟩
abbrev cX10_log : ByteArray := prog_10_method_22_code
def yX10_log : MethodName := ⟨RX10, "log", "()V"⟩
abbrev cX10_send : ByteArray := prog_10_method_23_code
def yX10_send : MethodName := ⟨RX10, "send", "()V"⟩
abbrev cX10_state : ByteArray := prog_10_method_24_code
def yX10_state : MethodName := ⟨RX10, "state", "()I"⟩
abbrev cX10_told : ByteArray := prog_10_method_25_code
def yX10_told : MethodName := ⟨RX10, "told", "(LSensorNodeModel$Guest;I)I"⟩
abbrev cX10_register : ByteArray := prog_10_method_26_code
def yX10_register : MethodName := ⟨RX10, "register", "(I)I"⟩
abbrev cX10_ram : ByteArray := prog_10_method_27_code
def yX10_ram : MethodName := ⟨RX10, "ram", "(I)I"⟩
abbrev cX10_words : ByteArray := prog_10_method_28_code
def yX10_words : MethodName := ⟨RX10, "words", "()I"⟩
abbrev cX10_word : ByteArray := prog_10_method_29_code
def yX10_word : MethodName := ⟨RX10, "word", "(I)I"⟩
abbrev cX10_frames : ByteArray := prog_10_method_30_code
def yX10_frames : MethodName := ⟨RX10, "frames", "()I"⟩
abbrev cX10_frame : ByteArray := prog_10_method_31_code
def yX10_frame : MethodName := ⟨RX10, "frame", "(II)I"⟩
abbrev cX10_heard : ByteArray := prog_10_method_32_code
def yX10_heard : MethodName := ⟨RX10, "heard", "(II)I"⟩
abbrev cX10_count : ByteArray := prog_10_method_33_code
def yX10_count : MethodName := ⟨RX10, "count", "(I)I"⟩
abbrev cX10_plain : ByteArray := prog_10_method_34_code
def yX10_plain : MethodName := ⟨RX10, "plain", "(I)I"⟩
abbrev cX10_plainly : ByteArray := prog_10_method_35_code
def yX10_plainly : MethodName := ⟨RX10, "plainly", "(I)I"⟩
abbrev cX10_plainByte : ByteArray := prog_10_method_36_code
def yX10_plainByte : MethodName := ⟨RX10, "plainByte", "(I)I"⟩
abbrev cX10_plainFrame : ByteArray := prog_10_method_37_code
def yX10_plainFrame : MethodName := ⟨RX10, "plainFrame", "(I)I"⟩
abbrev cX10_plainHeard : ByteArray := prog_10_method_38_code
def yX10_plainHeard : MethodName := ⟨RX10, "plainHeard", "(II)I"⟩
abbrev cX10_strays : ByteArray := prog_10_method_39_code
def yX10_strays : MethodName := ⟨RX10, "strays", "()I"⟩
def RL : String := "SensorNodeLaw"
abbrev cL_law : ByteArray := code
def yL_law : MethodName := ⟨RL, "law", "([I)Z"⟩
abbrev cls : List vw_C := [(RX0, TX0, 1), (RX1, TX1, 10), (RX2, TX2, 15), (RX3, TX3, 6), (RX4, TX4, 9), (RX5, TX5, 6), (RX6, TX6, 3), (RX7, TX7, 4), (RX8, TX8, 5), (RX9, TX9, 20), (RX10, TX10, 36)]
def tw : List Cond := lw_tbl.filter goodWord
theorem tb1 {w : Cond} (i : Nat) (hi : tables_1_1[i]? = some w) (hg : goodWord w = true := by rfl) : w ∈ tw := by
  have h := List.mem_of_getElem? hi
  exact List.mem_filter.mpr ⟨List.mem_append_right _ (List.mem_append_left _ h), hg⟩
theorem tb2 {w : Cond} (i : Nat) (hi : tables_1_2[i]? = some w) (hg : goodWord w = true := by rfl) : w ∈ tw := by
  have h := List.mem_of_getElem? hi
  exact List.mem_filter.mpr ⟨List.mem_append_right _ (List.mem_append_right _ (List.mem_append_left _ h)), hg⟩
theorem tb3 {w : Cond} (i : Nat) (hi : tables_1_3[i]? = some w) (hg : goodWord w = true := by rfl) : w ∈ tw := by
  have h := List.mem_of_getElem? hi
  exact List.mem_filter.mpr ⟨List.mem_append_right _ (List.mem_append_right _ (List.mem_append_right _ (List.mem_append_left _ h))), hg⟩
theorem tb4 {w : Cond} (i : Nat) (hi : tables_1_4[i]? = some w) (hg : goodWord w = true := by rfl) : w ∈ tw := by
  have h := List.mem_of_getElem? hi
  exact List.mem_filter.mpr ⟨List.mem_append_right _ (List.mem_append_right _ (List.mem_append_right _ (List.mem_append_right _ (List.mem_append_left _ h)))), hg⟩
theorem tb5 {w : Cond} (i : Nat) (hi : tables_1_5[i]? = some w) (hg : goodWord w = true := by rfl) : w ∈ tw := by
  have h := List.mem_of_getElem? hi
  exact List.mem_filter.mpr ⟨List.mem_append_right _ (List.mem_append_right _ (List.mem_append_right _ (List.mem_append_right _ (List.mem_append_right _ h)))), hg⟩
theorem tb0 {w : Cond} (i : Nat) (hi : (k2_sels lw_privs)[i]? = some w) (hg : goodWord w = true := by rfl) : w ∈ tw := List.mem_filter.mpr ⟨List.mem_append_left _ (List.mem_of_getElem? hi), hg⟩
end
section
theorem w1_0 : (Cond.initialized RL) ∈ tw := tb1 0 rfl
theorem w1_1 : (Cond.initialized RX7) ∈ tw := tb1 1 rfl
theorem w1_2 : (Cond.initialized RX6) ∈ tw := tb1 2 rfl
theorem w1_3 : (Cond.initialized RX0) ∈ tw := tb1 3 rfl
theorem w1_4 : (Cond.initialized RX4) ∈ tw := tb1 4 rfl
theorem w1_5 : (Cond.initialized RX2) ∈ tw := tb1 5 rfl
theorem w1_6 : (Cond.initialized RX5) ∈ tw := tb1 6 rfl
theorem w1_7 : (Cond.initialized RX1) ∈ tw := tb1 7 rfl
theorem w1_8 : (Cond.initialized RX3) ∈ tw := tb1 8 rfl
theorem w1_9 : (Cond.initialized RX10) ∈ tw := tb1 9 rfl
theorem w1_10 : (Cond.initialized RX9) ∈ tw := tb1 10 rfl
theorem w1_11 : (Cond.initialized RX8) ∈ tw := tb1 11 rfl
theorem w1_12 : (Cond.classLink RL 7 RX7) ∈ tw := tb1 12 rfl
theorem w1_13 : (Cond.instantiable RX7 4) ∈ tw := tb1 13 rfl
theorem w1_14 : (Cond.methodLink RL 9 yX7_init) ∈ tw := tb1 14 rfl
theorem w1_15 : (Cond.instanceMethod yX7_init) ∈ tw := tb1 15 rfl
theorem w1_16 : (Cond.code yX7_init prog_1_method_1_code 1 (none : Option Jvm.ClassFile.FieldType)) ∈ tw := tb1 16 rfl
theorem w1_17 : (Cond.methodLink RX7 1 ⟨"java/lang/Object", "<init>", "()V"⟩) ∈ tw := tb1 17 rfl
theorem w1_18 : (Cond.instanceMethod ⟨"java/lang/Object", "<init>", "()V"⟩) ∈ tw := tb1 18 rfl
theorem w1_19 : (Cond.code ⟨"java/lang/Object", "<init>", "()V"⟩ object_method_1_code 1 (none : Option Jvm.ClassFile.FieldType)) ∈ tw := tb1 19 rfl
theorem w1_20 : (Cond.classLink RX7 7 RX6) ∈ tw := tb1 20 rfl
theorem w1_21 : (Cond.instantiable RX6 3) ∈ tw := tb1 21 rfl
theorem w1_23 : (Cond.instanceMethod yX6_init) ∈ tw := tb1 23 rfl
theorem w1_24 : (Cond.code yX6_init prog_8_method_1_code 1 (none : Option Jvm.ClassFile.FieldType)) ∈ tw := tb1 24 rfl
theorem w1_25 : (Cond.methodLink RX6 3 ⟨"java/lang/Object", "<init>", "()V"⟩) ∈ tw := tb1 25 rfl
theorem w1_26 : (Cond.classLink RX6 9 RX0) ∈ tw := tb1 26 rfl
theorem w1_27 : (Cond.instantiable RX0 1) ∈ tw := tb1 27 rfl
theorem w1_28 : (Cond.methodLink RX6 11 yX0_init) ∈ tw := tb1 28 rfl
theorem w1_29 : (Cond.instanceMethod yX0_init) ∈ tw := tb1 29 rfl
theorem w1_30 : (Cond.code yX0_init prog_2_method_1_code 2 (none : Option Jvm.ClassFile.FieldType)) ∈ tw := tb1 30 rfl
theorem w1_31 : (Cond.methodLink RX0 1 ⟨"java/lang/Object", "<init>", "()V"⟩) ∈ tw := tb1 31 rfl
theorem w1_32 : (Cond.fieldLink "SensorNode$Bytes" 7 "SensorNode$Bytes" "packed" "[I") ∈ tw := tb1 32 rfl
theorem w1_33 : (Cond.laysFinal "SensorNode$Bytes" "SensorNode$Bytes" "packed" "[I") ∈ tw := tb1 33 rfl
theorem w1_36 : (Cond.arrayClass .int) ∈ tw := tb1 36 rfl
theorem w1_37 : (Cond.fieldLink "SensorNode$Tray" 14 "SensorNode$Tray" "bytes" "LSensorNode$Bytes;") ∈ tw := tb1 37 rfl
theorem w1_38 : (Cond.fieldLink "SensorNode$Tray" 20 "SensorNode$Tray" "size" "I") ∈ tw := tb1 38 rfl
theorem w1_39 : (Cond.fieldLink "SensorNode$Tray" 24 "SensorNode$Tray" "fed" "I") ∈ tw := tb1 39 rfl
theorem w1_40 : (Cond.laysFinal "SensorNode$Tray" "SensorNode$Tray" "bytes" "LSensorNode$Bytes;") ∈ tw := tb1 40 rfl
theorem w1_42 : (Cond.lays "SensorNode$Tray" "SensorNode$Tray" "size" "I") ∈ tw := tb1 42 rfl
theorem w1_44 : (Cond.lays "SensorNode$Tray" "SensorNode$Tray" "fed" "I") ∈ tw := tb1 44 rfl
theorem w1_47 : (Cond.classLink RX7 16 RX4) ∈ tw := tb1 47 rfl
theorem w1_48 : (Cond.instantiable RX4 9) ∈ tw := tb1 48 rfl
theorem w1_50 : (Cond.instanceMethod yX4_init) ∈ tw := tb1 50 rfl
theorem w1_51 : (Cond.code yX4_init prog_6_method_1_code 1 (none : Option Jvm.ClassFile.FieldType)) ∈ tw := tb1 51 rfl
theorem w1_52 : (Cond.methodLink RX4 3 ⟨"java/lang/Object", "<init>", "()V"⟩) ∈ tw := tb1 52 rfl
theorem w1_53 : (Cond.fieldLink "SensorNode$Plan" 9 "SensorNode$Plan" "image" "[I") ∈ tw := tb1 53 rfl
theorem w1_54 : (Cond.fieldLink "SensorNode$Plan" 15 "SensorNode$Plan" "samples" "[I") ∈ tw := tb1 54 rfl
theorem w1_55 : (Cond.fieldLink "SensorNode$Plan" 39 "SensorNode$Plan" "samplesTold" "I") ∈ tw := tb1 55 rfl
theorem w1_56 : (Cond.fieldLink "SensorNode$Plan" 19 "SensorNode$Plan" "installed" "Z") ∈ tw := tb1 56 rfl
theorem w1_58 : (Cond.fieldLink "SensorNode$Plan" 23 "SensorNode$Plan" "ramBytes" "I") ∈ tw := tb1 58 rfl
theorem w1_61 : (Cond.fieldLink "SensorNode$Plan" 27 "SensorNode$Plan" "storeBytes" "I") ∈ tw := tb1 61 rfl
theorem w1_64 : (Cond.fieldLink "SensorNode$Plan" 30 "SensorNode$Plan" "entries" "I") ∈ tw := tb1 64 rfl
theorem w1_65 : (Cond.fieldLink "SensorNode$Plan" 33 "SensorNode$Plan" "interval" "I") ∈ tw := tb1 65 rfl
theorem w1_68 : (Cond.fieldLink "SensorNode$Plan" 36 "SensorNode$Plan" "start" "I") ∈ tw := tb1 68 rfl
theorem w1_70 : (Cond.laysFinal "SensorNode$Plan" "SensorNode$Plan" "image" "[I") ∈ tw := tb1 70 rfl
theorem w1_72 : (Cond.laysFinal "SensorNode$Plan" "SensorNode$Plan" "samples" "[I") ∈ tw := tb1 72 rfl
theorem w1_74 : (Cond.lays "SensorNode$Plan" "SensorNode$Plan" "samplesTold" "I") ∈ tw := tb1 74 rfl
theorem w1_76 : (Cond.lays "SensorNode$Plan" "SensorNode$Plan" "installed" "Z") ∈ tw := tb1 76 rfl
theorem w1_78 : (Cond.lays "SensorNode$Plan" "SensorNode$Plan" "ramBytes" "I") ∈ tw := tb1 78 rfl
theorem w1_80 : (Cond.lays "SensorNode$Plan" "SensorNode$Plan" "storeBytes" "I") ∈ tw := tb1 80 rfl
theorem w1_82 : (Cond.lays "SensorNode$Plan" "SensorNode$Plan" "entries" "I") ∈ tw := tb1 82 rfl
theorem w1_84 : (Cond.lays "SensorNode$Plan" "SensorNode$Plan" "interval" "I") ∈ tw := tb1 84 rfl
theorem w1_86 : (Cond.lays "SensorNode$Plan" "SensorNode$Plan" "start" "I") ∈ tw := tb1 86 rfl
theorem w1_89 : (Cond.classLink RX7 23 RX2) ∈ tw := tb1 89 rfl
theorem w1_90 : (Cond.instantiable RX2 15) ∈ tw := tb1 90 rfl
theorem w1_91 : (Cond.methodLink RX7 25 yX2_init) ∈ tw := tb1 91 rfl
theorem w1_92 : (Cond.instanceMethod yX2_init) ∈ tw := tb1 92 rfl
theorem w1_93 : (Cond.code yX2_init prog_4_method_1_code 2 (none : Option Jvm.ClassFile.FieldType)) ∈ tw := tb1 93 rfl
theorem w1_94 : (Cond.methodLink RX2 3 ⟨"java/lang/Object", "<init>", "()V"⟩) ∈ tw := tb1 94 rfl
theorem w1_95 : (Cond.classLink RX2 21 RX5) ∈ tw := tb1 95 rfl
theorem w1_96 : (Cond.instantiable RX5 6) ∈ tw := tb1 96 rfl
theorem w1_98 : (Cond.instanceMethod yX5_init) ∈ tw := tb1 98 rfl
theorem w1_99 : (Cond.code yX5_init prog_7_method_1_code 1 (none : Option Jvm.ClassFile.FieldType)) ∈ tw := tb1 99 rfl
theorem w1_100 : (Cond.methodLink RX5 3 ⟨"java/lang/Object", "<init>", "()V"⟩) ∈ tw := tb1 100 rfl
theorem w1_101 : (Cond.classLink RX5 21 RX0) ∈ tw := tb1 101 rfl
theorem w1_102 : (Cond.methodLink RX5 23 yX0_init) ∈ tw := tb1 102 rfl
theorem w1_103 : (Cond.fieldLink "SensorNode$Radio" 9 "SensorNode$Radio" "numbers" "[I") ∈ tw := tb1 103 rfl
theorem w1_104 : (Cond.fieldLink "SensorNode$Radio" 15 "SensorNode$Radio" "lengths" "[I") ∈ tw := tb1 104 rfl
theorem w1_105 : (Cond.fieldLink "SensorNode$Radio" 18 "SensorNode$Radio" "cuts" "[I") ∈ tw := tb1 105 rfl
theorem w1_106 : (Cond.fieldLink "SensorNode$Radio" 26 "SensorNode$Radio" "bytes" "LSensorNode$Bytes;") ∈ tw := tb1 106 rfl
theorem w1_107 : (Cond.fieldLink "SensorNode$Radio" 30 "SensorNode$Radio" "total" "I") ∈ tw := tb1 107 rfl
theorem w1_108 : (Cond.fieldLink "SensorNode$Radio" 34 "SensorNode$Radio" "newest" "I") ∈ tw := tb1 108 rfl
theorem w1_109 : (Cond.laysFinal "SensorNode$Radio" "SensorNode$Radio" "numbers" "[I") ∈ tw := tb1 109 rfl
theorem w1_111 : (Cond.laysFinal "SensorNode$Radio" "SensorNode$Radio" "lengths" "[I") ∈ tw := tb1 111 rfl
theorem w1_113 : (Cond.laysFinal "SensorNode$Radio" "SensorNode$Radio" "cuts" "[I") ∈ tw := tb1 113 rfl
theorem w1_115 : (Cond.laysFinal "SensorNode$Radio" "SensorNode$Radio" "bytes" "LSensorNode$Bytes;") ∈ tw := tb1 115 rfl
theorem w1_117 : (Cond.lays "SensorNode$Radio" "SensorNode$Radio" "total" "I") ∈ tw := tb1 117 rfl
theorem w1_119 : (Cond.lays "SensorNode$Radio" "SensorNode$Radio" "newest" "I") ∈ tw := tb1 119 rfl
theorem w1_122 : (Cond.classLink RX2 32 RX1) ∈ tw := tb1 122 rfl
theorem w1_123 : (Cond.instantiable RX1 10) ∈ tw := tb1 123 rfl
theorem w1_124 : (Cond.methodLink RX2 34 yX1_init) ∈ tw := tb1 124 rfl
theorem w1_125 : (Cond.instanceMethod yX1_init) ∈ tw := tb1 125 rfl
theorem w1_126 : (Cond.code yX1_init prog_3_method_1_code 3 (none : Option Jvm.ClassFile.FieldType)) ∈ tw := tb1 126 rfl
theorem w1_127 : (Cond.methodLink RX1 3 ⟨"java/lang/Object", "<init>", "()V"⟩) ∈ tw := tb1 127 rfl
theorem w1_128 : (Cond.fieldLink "SensorNode$Guest" 18 "SensorNode$Guest" "plan" "LSensorNode$Plan;") ∈ tw := tb1 128 rfl
theorem w1_129 : (Cond.fieldLink "SensorNode$Guest" 9 "SensorNode$Guest" "own" "[I") ∈ tw := tb1 129 rfl
theorem w1_130 : (Cond.fieldLink "SensorNode$Guest" 15 "SensorNode$Guest" "memory" "[I") ∈ tw := tb1 130 rfl
theorem w1_131 : (Cond.fieldLink "SensorNode$Guest" 22 "SensorNode$Guest" "store" "[I") ∈ tw := tb1 131 rfl
theorem w1_132 : (Cond.fieldLink "SensorNode$Guest" 25 "SensorNode$Guest" "storeStart" "I") ∈ tw := tb1 132 rfl
theorem w1_133 : (Cond.fieldLink "SensorNode$Guest" 33 "SensorNode$Guest" "kind" "I") ∈ tw := tb1 133 rfl
theorem w1_134 : (Cond.fieldLink "SensorNode$Guest" 36 "SensorNode$Guest" "target" "I") ∈ tw := tb1 134 rfl
theorem w1_135 : (Cond.fieldLink "SensorNode$Guest" 39 "SensorNode$Guest" "value" "I") ∈ tw := tb1 135 rfl
theorem w1_136 : (Cond.fieldLink "SensorNode$Guest" 42 "SensorNode$Guest" "next" "I") ∈ tw := tb1 136 rfl
theorem w1_137 : (Cond.fieldLink "SensorNode$Guest" 96 "SensorNode$Guest" "address" "I") ∈ tw := tb1 137 rfl
theorem w1_138 : (Cond.laysFinal "SensorNode$Guest" "SensorNode$Guest" "plan" "LSensorNode$Plan;") ∈ tw := tb1 138 rfl
theorem w1_140 : (Cond.laysFinal "SensorNode$Guest" "SensorNode$Guest" "own" "[I") ∈ tw := tb1 140 rfl
theorem w1_142 : (Cond.laysFinal "SensorNode$Guest" "SensorNode$Guest" "memory" "[I") ∈ tw := tb1 142 rfl
theorem w1_144 : (Cond.laysFinal "SensorNode$Guest" "SensorNode$Guest" "store" "[I") ∈ tw := tb1 144 rfl
theorem w1_146 : (Cond.lays "SensorNode$Guest" "SensorNode$Guest" "storeStart" "I") ∈ tw := tb1 146 rfl
theorem w1_148 : (Cond.lays "SensorNode$Guest" "SensorNode$Guest" "kind" "I") ∈ tw := tb1 148 rfl
theorem w1_150 : (Cond.lays "SensorNode$Guest" "SensorNode$Guest" "target" "I") ∈ tw := tb1 150 rfl
theorem w1_152 : (Cond.lays "SensorNode$Guest" "SensorNode$Guest" "value" "I") ∈ tw := tb1 152 rfl
theorem w1_154 : (Cond.lays "SensorNode$Guest" "SensorNode$Guest" "next" "I") ∈ tw := tb1 154 rfl
theorem w1_156 : (Cond.lays "SensorNode$Guest" "SensorNode$Guest" "address" "I") ∈ tw := tb1 156 rfl
theorem w1_159 : (Cond.fieldLink "SensorNode$Node" 28 "SensorNode$Node" "plan" "LSensorNode$Plan;") ∈ tw := tb1 159 rfl
theorem w1_160 : (Cond.fieldLink "SensorNode$Node" 11 "SensorNode$Node" "store" "[I") ∈ tw := tb1 160 rfl
theorem w1_161 : (Cond.fieldLink "SensorNode$Node" 15 "SensorNode$Node" "marks" "[I") ∈ tw := tb1 161 rfl
theorem w1_162 : (Cond.fieldLink "SensorNode$Node" 18 "SensorNode$Node" "counts" "[I") ∈ tw := tb1 162 rfl
theorem w1_163 : (Cond.fieldLink "SensorNode$Node" 24 "SensorNode$Node" "radio" "LSensorNode$Radio;") ∈ tw := tb1 163 rfl
theorem w1_164 : (Cond.fieldLink "SensorNode$Node" 37 "SensorNode$Node" "guest" "LSensorNode$Guest;") ∈ tw := tb1 164 rfl
theorem w1_165 : (Cond.fieldLink "SensorNode$Node" 93 "SensorNode$Node" "mark" "I") ∈ tw := tb1 165 rfl
theorem w1_166 : (Cond.fieldLink "SensorNode$Node" 41 "SensorNode$Node" "state" "I") ∈ tw := tb1 166 rfl
theorem w1_167 : (Cond.fieldLink "SensorNode$Node" 90 "SensorNode$Node" "step" "I") ∈ tw := tb1 167 rfl
theorem w1_168 : (Cond.fieldLink "SensorNode$Node" 83 "SensorNode$Node" "since" "I") ∈ tw := tb1 168 rfl
theorem w1_169 : (Cond.fieldLink "SensorNode$Node" 63 "SensorNode$Node" "size" "I") ∈ tw := tb1 169 rfl
theorem w1_170 : (Cond.fieldLink "SensorNode$Node" 51 "SensorNode$Node" "logStart" "I") ∈ tw := tb1 170 rfl
theorem w1_171 : (Cond.fieldLink "SensorNode$Node" 57 "SensorNode$Node" "guestStart" "I") ∈ tw := tb1 171 rfl
theorem w1_172 : (Cond.fieldLink "SensorNode$Node" 80 "SensorNode$Node" "strays" "I") ∈ tw := tb1 172 rfl
theorem w1_173 : (Cond.fieldLink "SensorNode$Node" 86 "SensorNode$Node" "hadPower" "Z") ∈ tw := tb1 173 rfl
theorem w1_174 : (Cond.laysFinal "SensorNode$Node" "SensorNode$Node" "plan" "LSensorNode$Plan;") ∈ tw := tb1 174 rfl
theorem w1_176 : (Cond.laysFinal "SensorNode$Node" "SensorNode$Node" "store" "[I") ∈ tw := tb1 176 rfl
theorem w1_178 : (Cond.laysFinal "SensorNode$Node" "SensorNode$Node" "marks" "[I") ∈ tw := tb1 178 rfl
theorem w1_180 : (Cond.laysFinal "SensorNode$Node" "SensorNode$Node" "counts" "[I") ∈ tw := tb1 180 rfl
theorem w1_182 : (Cond.laysFinal "SensorNode$Node" "SensorNode$Node" "radio" "LSensorNode$Radio;") ∈ tw := tb1 182 rfl
theorem w1_184 : (Cond.laysFinal "SensorNode$Node" "SensorNode$Node" "guest" "LSensorNode$Guest;") ∈ tw := tb1 184 rfl
theorem w1_186 : (Cond.lays "SensorNode$Node" "SensorNode$Node" "mark" "I") ∈ tw := tb1 186 rfl
theorem w1_188 : (Cond.lays "SensorNode$Node" "SensorNode$Node" "state" "I") ∈ tw := tb1 188 rfl
theorem w1_190 : (Cond.lays "SensorNode$Node" "SensorNode$Node" "step" "I") ∈ tw := tb1 190 rfl
theorem w1_192 : (Cond.lays "SensorNode$Node" "SensorNode$Node" "since" "I") ∈ tw := tb1 192 rfl
theorem w1_194 : (Cond.lays "SensorNode$Node" "SensorNode$Node" "size" "I") ∈ tw := tb1 194 rfl
theorem w1_196 : (Cond.lays "SensorNode$Node" "SensorNode$Node" "logStart" "I") ∈ tw := tb1 196 rfl
theorem w1_198 : (Cond.lays "SensorNode$Node" "SensorNode$Node" "guestStart" "I") ∈ tw := tb1 198 rfl
theorem w1_200 : (Cond.lays "SensorNode$Node" "SensorNode$Node" "strays" "I") ∈ tw := tb1 200 rfl
theorem w1_202 : (Cond.lays "SensorNode$Node" "SensorNode$Node" "hadPower" "Z") ∈ tw := tb1 202 rfl
theorem w1_205 : (Cond.classLink RX7 32 RX3) ∈ tw := tb1 205 rfl
theorem w1_206 : (Cond.instantiable RX3 6) ∈ tw := tb1 206 rfl
theorem w1_207 : (Cond.methodLink RX7 34 yX3_init) ∈ tw := tb1 207 rfl
theorem w1_208 : (Cond.instanceMethod yX3_init) ∈ tw := tb1 208 rfl
theorem w1_209 : (Cond.code yX3_init prog_5_method_1_code 2 (none : Option Jvm.ClassFile.FieldType)) ∈ tw := tb1 209 rfl
theorem w1_210 : (Cond.methodLink RX3 3 ⟨"java/lang/Object", "<init>", "()V"⟩) ∈ tw := tb1 210 rfl
theorem w1_211 : (Cond.classLink RX3 15 RX5) ∈ tw := tb1 211 rfl
theorem w1_213 : (Cond.classLink RX3 26 RX1) ∈ tw := tb1 213 rfl
theorem w1_214 : (Cond.methodLink RX3 28 yX1_init) ∈ tw := tb1 214 rfl
theorem w1_215 : (Cond.fieldLink "SensorNode$PlainMachine" 22 "SensorNode$PlainMachine" "plan" "LSensorNode$Plan;") ∈ tw := tb1 215 rfl
theorem w1_216 : (Cond.fieldLink "SensorNode$PlainMachine" 9 "SensorNode$PlainMachine" "store" "[I") ∈ tw := tb1 216 rfl
theorem w1_217 : (Cond.fieldLink "SensorNode$PlainMachine" 31 "SensorNode$PlainMachine" "guest" "LSensorNode$Guest;") ∈ tw := tb1 217 rfl
theorem w1_218 : (Cond.fieldLink "SensorNode$PlainMachine" 18 "SensorNode$PlainMachine" "radio" "LSensorNode$Radio;") ∈ tw := tb1 218 rfl
theorem w1_219 : (Cond.fieldLink "SensorNode$PlainMachine" 35 "SensorNode$PlainMachine" "ran" "Z") ∈ tw := tb1 219 rfl
theorem w1_220 : (Cond.fieldLink "SensorNode$PlainMachine" 39 "SensorNode$PlainMachine" "ending" "I") ∈ tw := tb1 220 rfl
theorem w1_221 : (Cond.laysFinal "SensorNode$PlainMachine" "SensorNode$PlainMachine" "plan" "LSensorNode$Plan;") ∈ tw := tb1 221 rfl
theorem w1_223 : (Cond.laysFinal "SensorNode$PlainMachine" "SensorNode$PlainMachine" "store" "[I") ∈ tw := tb1 223 rfl
theorem w1_225 : (Cond.laysFinal "SensorNode$PlainMachine" "SensorNode$PlainMachine" "guest" "LSensorNode$Guest;") ∈ tw := tb1 225 rfl
theorem w1_227 : (Cond.laysFinal "SensorNode$PlainMachine" "SensorNode$PlainMachine" "radio" "LSensorNode$Radio;") ∈ tw := tb1 227 rfl
theorem w1_229 : (Cond.lays "SensorNode$PlainMachine" "SensorNode$PlainMachine" "ran" "Z") ∈ tw := tb1 229 rfl
theorem w1_231 : (Cond.lays "SensorNode$PlainMachine" "SensorNode$PlainMachine" "ending" "I") ∈ tw := tb1 231 rfl
theorem w1_234 : (Cond.fieldLink "SensorNode" 10 "SensorNode" "tray" "LSensorNode$Tray;") ∈ tw := tb1 234 rfl
theorem w1_235 : (Cond.fieldLink "SensorNode" 19 "SensorNode" "plan" "LSensorNode$Plan;") ∈ tw := tb1 235 rfl
theorem w1_236 : (Cond.fieldLink "SensorNode" 28 "SensorNode" "node" "LSensorNode$Node;") ∈ tw := tb1 236 rfl
theorem w1_237 : (Cond.fieldLink "SensorNode" 35 "SensorNode" "plainMachine" "LSensorNode$PlainMachine;") ∈ tw := tb1 237 rfl
theorem w1_238 : (Cond.laysFinal "SensorNode" "SensorNode" "tray" "LSensorNode$Tray;") ∈ tw := tb1 238 rfl
theorem w2_0 : (Cond.laysFinal "SensorNode" "SensorNode" "plan" "LSensorNode$Plan;") ∈ tw := tb2 0 rfl
theorem w2_2 : (Cond.laysFinal "SensorNode" "SensorNode" "node" "LSensorNode$Node;") ∈ tw := tb2 2 rfl
theorem w2_4 : (Cond.laysFinal "SensorNode" "SensorNode" "plainMachine" "LSensorNode$PlainMachine;") ∈ tw := tb2 4 rfl
theorem w2_7 : (Cond.methodLink RL 13 yX7_feed) ∈ tw := tb2 7 rfl
theorem w2_8 : (Cond.instanceMethod yX7_feed) ∈ tw := tb2 8 rfl
theorem w2_9 : (Cond.selects RX7 yX7_feed yX7_feed) ∈ tw := tb2 9 rfl
theorem w2_10 : (Cond.code yX7_feed prog_1_method_2_code 6 (some .int)) ∈ tw := tb2 10 rfl
theorem w2_11 : (Cond.methodLink RX7 39 yX6_hasRoom) ∈ tw := tb2 11 rfl
theorem w2_12 : (Cond.instanceMethod yX6_hasRoom) ∈ tw := tb2 12 rfl
theorem w2_13 : (Cond.selects RX6 yX6_hasRoom yX6_hasRoom) ∈ tw := tb2 13 rfl
theorem w2_14 : (Cond.code yX6_hasRoom prog_8_method_2_code 1 (some .boolean)) ∈ tw := tb2 14 rfl
theorem w2_15 : (Cond.constant RX6 27 (65536)) ∈ tw := tb2 15 rfl
theorem w2_16 : (Cond.methodLink RX7 43 yX6_add) ∈ tw := tb2 16 rfl
theorem w2_17 : (Cond.instanceMethod yX6_add) ∈ tw := tb2 17 rfl
theorem w2_18 : (Cond.selects RX6 yX6_add yX6_add) ∈ tw := tb2 18 rfl
theorem w2_19 : (Cond.code yX6_add prog_8_method_4_code 3 (none : Option Jvm.ClassFile.FieldType)) ∈ tw := tb2 19 rfl
theorem w2_20 : (Cond.methodLink RX6 28 yX0_put) ∈ tw := tb2 20 rfl
theorem w2_21 : (Cond.instanceMethod yX0_put) ∈ tw := tb2 21 rfl
theorem w2_22 : (Cond.selects RX0 yX0_put yX0_put) ∈ tw := tb2 22 rfl
theorem w2_23 : (Cond.code yX0_put prog_2_method_3_code 5 (none : Option Jvm.ClassFile.FieldType)) ∈ tw := tb2 23 rfl
theorem w2_24 : (Cond.methodLink RX7 47 yX6_size) ∈ tw := tb2 24 rfl
theorem w2_25 : (Cond.instanceMethod yX6_size) ∈ tw := tb2 25 rfl
theorem w2_26 : (Cond.selects RX6 yX6_size yX6_size) ∈ tw := tb2 26 rfl
theorem w2_27 : (Cond.code yX6_size prog_8_method_3_code 1 (some .int)) ∈ tw := tb2 27 rfl
theorem w2_28 : (Cond.methodLink RL 18 yX7_end) ∈ tw := tb2 28 rfl
theorem w2_29 : (Cond.instanceMethod yX7_end) ∈ tw := tb2 29 rfl
theorem w2_30 : (Cond.selects RX7 yX7_end yX7_end) ∈ tw := tb2 30 rfl
theorem w2_31 : (Cond.code yX7_end prog_1_method_3_code 2 (some .boolean)) ∈ tw := tb2 31 rfl
theorem w2_32 : (Cond.methodLink RX7 51 yX6_shorten) ∈ tw := tb2 32 rfl
theorem w2_33 : (Cond.instanceMethod yX6_shorten) ∈ tw := tb2 33 rfl
theorem w2_34 : (Cond.selects RX6 yX6_shorten yX6_shorten) ∈ tw := tb2 34 rfl
theorem w2_35 : (Cond.code yX6_shorten prog_8_method_5_code 2 (some .boolean)) ∈ tw := tb2 35 rfl
theorem w2_36 : (Cond.methodLink RL 23 yX7_install) ∈ tw := tb2 36 rfl
theorem w2_37 : (Cond.instanceMethod yX7_install) ∈ tw := tb2 37 rfl
theorem w2_38 : (Cond.selects RX7 yX7_install yX7_install) ∈ tw := tb2 38 rfl
theorem w2_39 : (Cond.code yX7_install prog_1_method_4_code 7 (some .int)) ∈ tw := tb2 39 rfl
theorem w2_40 : (Cond.methodLink RX7 55 yX4_allows) ∈ tw := tb2 40 rfl
theorem w2_41 : (Cond.static yX4_allows) ∈ tw := tb2 41 rfl
theorem w2_42 : (Cond.code yX4_allows prog_6_method_2_code 4 (some .boolean)) ∈ tw := tb2 42 rfl
theorem w2_43 : (Cond.constant RX4 18 (65536)) ∈ tw := tb2 43 rfl
theorem w2_44 : (Cond.methodLink RX7 59 yX4_set) ∈ tw := tb2 44 rfl
theorem w2_45 : (Cond.instanceMethod yX4_set) ∈ tw := tb2 45 rfl
theorem w2_46 : (Cond.selects RX4 yX4_set yX4_set) ∈ tw := tb2 46 rfl
theorem w2_47 : (Cond.code yX4_set prog_6_method_3_code 6 (none : Option Jvm.ClassFile.FieldType)) ∈ tw := tb2 47 rfl
theorem w2_48 : (Cond.methodLink RX7 63 yX4_fill) ∈ tw := tb2 48 rfl
theorem w2_49 : (Cond.instanceMethod yX4_fill) ∈ tw := tb2 49 rfl
theorem w2_50 : (Cond.selects RX4 yX4_fill yX4_fill) ∈ tw := tb2 50 rfl
theorem w2_51 : (Cond.code yX4_fill prog_6_method_4_code 4 (none : Option Jvm.ClassFile.FieldType)) ∈ tw := tb2 51 rfl
theorem w2_52 : (Cond.methodLink RX4 42 yX6_get) ∈ tw := tb2 52 rfl
theorem w2_53 : (Cond.instanceMethod yX6_get) ∈ tw := tb2 53 rfl
theorem w2_54 : (Cond.selects RX6 yX6_get yX6_get) ∈ tw := tb2 54 rfl
theorem w2_55 : (Cond.code yX6_get prog_8_method_6_code 2 (some .int)) ∈ tw := tb2 55 rfl
theorem w2_56 : (Cond.methodLink RX6 32 yX0_get) ∈ tw := tb2 56 rfl
theorem w2_57 : (Cond.instanceMethod yX0_get) ∈ tw := tb2 57 rfl
theorem w2_58 : (Cond.selects RX0 yX0_get yX0_get) ∈ tw := tb2 58 rfl
theorem w2_59 : (Cond.code yX0_get prog_2_method_2_code 3 (some .int)) ∈ tw := tb2 59 rfl
theorem w2_60 : (Cond.methodLink RX7 67 yX2_makeNew) ∈ tw := tb2 60 rfl
theorem w2_61 : (Cond.instanceMethod yX2_makeNew) ∈ tw := tb2 61 rfl
theorem w2_62 : (Cond.selects RX2 yX2_makeNew yX2_makeNew) ∈ tw := tb2 62 rfl
theorem w2_63 : (Cond.code yX2_makeNew prog_4_method_2_code 2 (none : Option Jvm.ClassFile.FieldType)) ∈ tw := tb2 63 rfl
theorem w2_64 : (Cond.methodLink RX2 45 yX4_bufferWords) ∈ tw := tb2 64 rfl
theorem w2_65 : (Cond.instanceMethod yX4_bufferWords) ∈ tw := tb2 65 rfl
theorem w2_66 : (Cond.selects RX4 yX4_bufferWords yX4_bufferWords) ∈ tw := tb2 66 rfl
theorem w2_67 : (Cond.code yX4_bufferWords prog_6_method_8_code 1 (some .int)) ∈ tw := tb2 67 rfl
theorem w2_68 : (Cond.methodLink RX2 69 yX4_copyImage) ∈ tw := tb2 68 rfl
theorem w2_69 : (Cond.instanceMethod yX4_copyImage) ∈ tw := tb2 69 rfl
theorem w2_70 : (Cond.selects RX4 yX4_copyImage yX4_copyImage) ∈ tw := tb2 70 rfl
theorem w2_71 : (Cond.code yX4_copyImage prog_6_method_5_code 5 (none : Option Jvm.ClassFile.FieldType)) ∈ tw := tb2 71 rfl
theorem w2_72 : (Cond.methodLink RX2 73 yX1_setStoreStart) ∈ tw := tb2 72 rfl
theorem w2_73 : (Cond.instanceMethod yX1_setStoreStart) ∈ tw := tb2 73 rfl
theorem w2_74 : (Cond.selects RX1 yX1_setStoreStart yX1_setStoreStart) ∈ tw := tb2 74 rfl
theorem w2_75 : (Cond.code yX1_setStoreStart prog_3_method_2_code 2 (none : Option Jvm.ClassFile.FieldType)) ∈ tw := tb2 75 rfl
theorem w2_76 : (Cond.methodLink RX2 77 yX5_clear) ∈ tw := tb2 76 rfl
theorem w2_77 : (Cond.instanceMethod yX5_clear) ∈ tw := tb2 77 rfl
theorem w2_78 : (Cond.selects RX5 yX5_clear yX5_clear) ∈ tw := tb2 78 rfl
theorem w2_79 : (Cond.code yX5_clear prog_7_method_2_code 1 (none : Option Jvm.ClassFile.FieldType)) ∈ tw := tb2 79 rfl
theorem w2_80 : (Cond.methodLink RX7 70 yX3_forget) ∈ tw := tb2 80 rfl
theorem w2_81 : (Cond.instanceMethod yX3_forget) ∈ tw := tb2 81 rfl
theorem w2_82 : (Cond.selects RX3 yX3_forget yX3_forget) ∈ tw := tb2 82 rfl
theorem w2_83 : (Cond.code yX3_forget prog_5_method_2_code 1 (none : Option Jvm.ClassFile.FieldType)) ∈ tw := tb2 83 rfl
theorem w2_84 : (Cond.methodLink RX3 43 yX5_clear) ∈ tw := tb2 84 rfl
theorem w2_85 : (Cond.methodLink RL 27 yX7_sample) ∈ tw := tb2 85 rfl
theorem w2_86 : (Cond.instanceMethod yX7_sample) ∈ tw := tb2 86 rfl
theorem w2_87 : (Cond.selects RX7 yX7_sample yX7_sample) ∈ tw := tb2 87 rfl
theorem w2_88 : (Cond.code yX7_sample prog_1_method_5_code 2 (some .int)) ∈ tw := tb2 88 rfl
theorem w2_89 : (Cond.methodLink RX7 73 yX2_hadPower) ∈ tw := tb2 89 rfl
theorem w2_90 : (Cond.instanceMethod yX2_hadPower) ∈ tw := tb2 90 rfl
theorem w2_91 : (Cond.selects RX2 yX2_hadPower yX2_hadPower) ∈ tw := tb2 91 rfl
theorem w2_92 : (Cond.code yX2_hadPower prog_4_method_3_code 1 (some .boolean)) ∈ tw := tb2 92 rfl
theorem w2_93 : (Cond.methodLink RX7 76 yX4_addSample) ∈ tw := tb2 93 rfl
theorem w2_94 : (Cond.instanceMethod yX4_addSample) ∈ tw := tb2 94 rfl
theorem w2_95 : (Cond.selects RX4 yX4_addSample yX4_addSample) ∈ tw := tb2 95 rfl
theorem w2_96 : (Cond.code yX4_addSample prog_6_method_6_code 2 (some .int)) ∈ tw := tb2 96 rfl
theorem w2_97 : (Cond.methodLink RL 32 yX7_on) ∈ tw := tb2 97 rfl
theorem w2_98 : (Cond.instanceMethod yX7_on) ∈ tw := tb2 98 rfl
theorem w2_99 : (Cond.selects RX7 yX7_on yX7_on) ∈ tw := tb2 99 rfl
theorem w2_100 : (Cond.code yX7_on prog_1_method_6_code 1 (some .boolean)) ∈ tw := tb2 100 rfl
theorem w2_101 : (Cond.methodLink RX7 80 yX2_givePower) ∈ tw := tb2 101 rfl
theorem w2_102 : (Cond.instanceMethod yX2_givePower) ∈ tw := tb2 102 rfl
theorem w2_103 : (Cond.selects RX2 yX2_givePower yX2_givePower) ∈ tw := tb2 103 rfl
theorem w2_104 : (Cond.code yX2_givePower prog_4_method_5_code 3 (some .boolean)) ∈ tw := tb2 104 rfl
theorem w2_105 : (Cond.methodLink RX2 96 yX2_generation) ∈ tw := tb2 105 rfl
theorem w2_107 : (Cond.instanceMethod yX2_generation) ∈ tw := tb2 107 rfl
theorem w2_108 : (Cond.code yX2_generation prog_4_method_18_code 1 (some .int)) ∈ tw := tb2 108 rfl
theorem w2_109 : (Cond.constant RX2 113 (65535)) ∈ tw := tb2 109 rfl
theorem w2_110 : (Cond.methodLink RX2 99 yX2_bufferStart) ∈ tw := tb2 110 rfl
theorem w2_112 : (Cond.instanceMethod yX2_bufferStart) ∈ tw := tb2 112 rfl
theorem w2_113 : (Cond.code yX2_bufferStart prog_4_method_20_code 2 (some .int)) ∈ tw := tb2 113 rfl
theorem w2_114 : (Cond.methodLink RX2 103 yX2_stored) ∈ tw := tb2 114 rfl
theorem w2_115 : (Cond.instanceMethod yX2_stored) ∈ tw := tb2 115 rfl
theorem w2_116 : (Cond.selects RX2 yX2_stored yX2_stored) ∈ tw := tb2 116 rfl
theorem w2_117 : (Cond.code yX2_stored prog_4_method_25_code 2 (some .int)) ∈ tw := tb2 117 rfl
theorem w2_118 : (Cond.methodLink RX2 106 yX1_restore) ∈ tw := tb2 118 rfl
theorem w2_119 : (Cond.instanceMethod yX1_restore) ∈ tw := tb2 119 rfl
theorem w2_120 : (Cond.selects RX1 yX1_restore yX1_restore) ∈ tw := tb2 120 rfl
theorem w2_121 : (Cond.code yX1_restore prog_3_method_5_code 4 (none : Option Jvm.ClassFile.FieldType)) ∈ tw := tb2 121 rfl
theorem w2_122 : (Cond.methodLink RX2 110 yX2_meetLog) ∈ tw := tb2 122 rfl
theorem w2_124 : (Cond.instanceMethod yX2_meetLog) ∈ tw := tb2 124 rfl
theorem w2_125 : (Cond.code yX2_meetLog prog_4_method_6_code 2 (none : Option Jvm.ClassFile.FieldType)) ∈ tw := tb2 125 rfl
theorem w2_126 : (Cond.methodLink RX2 114 yX2_entriesThatCount) ∈ tw := tb2 126 rfl
theorem w2_128 : (Cond.instanceMethod yX2_entriesThatCount) ∈ tw := tb2 128 rfl
theorem w2_129 : (Cond.code yX2_entriesThatCount prog_4_method_19_code 1 (some .int)) ∈ tw := tb2 129 rfl
theorem w2_130 : (Cond.methodLink RL 37 yX7_cut) ∈ tw := tb2 130 rfl
theorem w2_131 : (Cond.instanceMethod yX7_cut) ∈ tw := tb2 131 rfl
theorem w2_132 : (Cond.selects RX7 yX7_cut yX7_cut) ∈ tw := tb2 132 rfl
theorem w2_133 : (Cond.code yX7_cut prog_1_method_7_code 1 (some .boolean)) ∈ tw := tb2 133 rfl
theorem w2_134 : (Cond.methodLink RX7 83 yX2_cutPower) ∈ tw := tb2 134 rfl
theorem w2_135 : (Cond.instanceMethod yX2_cutPower) ∈ tw := tb2 135 rfl
theorem w2_136 : (Cond.selects RX2 yX2_cutPower yX2_cutPower) ∈ tw := tb2 136 rfl
theorem w2_137 : (Cond.code yX2_cutPower prog_4_method_7_code 1 (some .boolean)) ∈ tw := tb2 137 rfl
theorem w2_138 : (Cond.methodLink RX2 117 yX2_hasPower) ∈ tw := tb2 138 rfl
theorem w2_140 : (Cond.instanceMethod yX2_hasPower) ∈ tw := tb2 140 rfl
theorem w2_141 : (Cond.code yX2_hasPower prog_4_method_4_code 1 (some .boolean)) ∈ tw := tb2 141 rfl
theorem w2_142 : (Cond.methodLink RL 41 yX7_go) ∈ tw := tb2 142 rfl
theorem w2_143 : (Cond.instanceMethod yX7_go) ∈ tw := tb2 143 rfl
theorem w2_144 : (Cond.selects RX7 yX7_go yX7_go) ∈ tw := tb2 144 rfl
theorem w2_145 : (Cond.code yX7_go prog_1_method_8_code 2 (some .int)) ∈ tw := tb2 145 rfl
theorem w2_146 : (Cond.methodLink RX7 86 yX2_act) ∈ tw := tb2 146 rfl
theorem w2_147 : (Cond.instanceMethod yX2_act) ∈ tw := tb2 147 rfl
theorem w2_148 : (Cond.selects RX2 yX2_act yX2_act) ∈ tw := tb2 148 rfl
theorem w2_149 : (Cond.code yX2_act prog_4_method_8_code 3 (some .int)) ∈ tw := tb2 149 rfl
theorem w2_150 : (Cond.methodLink RX2 121 yX2_choose) ∈ tw := tb2 150 rfl
theorem w2_152 : (Cond.instanceMethod yX2_choose) ∈ tw := tb2 152 rfl
theorem w2_153 : (Cond.code yX2_choose prog_4_method_9_code 2 (none : Option Jvm.ClassFile.FieldType)) ∈ tw := tb2 153 rfl
theorem w2_154 : (Cond.methodLink RX2 136 yX1_look) ∈ tw := tb2 154 rfl
theorem w2_155 : (Cond.instanceMethod yX1_look) ∈ tw := tb2 155 rfl
theorem w2_156 : (Cond.selects RX1 yX1_look yX1_look) ∈ tw := tb2 156 rfl
theorem w2_157 : (Cond.code yX1_look prog_3_method_6_code 8 (some .int)) ∈ tw := tb2 157 rfl
theorem w2_158 : (Cond.methodLink RX1 45 yX1_trapOfPlace) ∈ tw := tb2 158 rfl
theorem w2_160 : (Cond.instanceMethod yX1_trapOfPlace) ∈ tw := tb2 160 rfl
theorem w2_161 : (Cond.code yX1_trapOfPlace prog_3_method_15_code 3 (some .int)) ∈ tw := tb2 161 rfl
theorem w2_162 : (Cond.methodLink RX1 99 yX1_holds) ∈ tw := tb2 162 rfl
theorem w2_163 : (Cond.instanceMethod yX1_holds) ∈ tw := tb2 163 rfl
theorem w2_164 : (Cond.selects RX1 yX1_holds yX1_holds) ∈ tw := tb2 164 rfl
theorem w2_165 : (Cond.code yX1_holds prog_3_method_27_code 4 (some .boolean)) ∈ tw := tb2 165 rfl
theorem w2_166 : (Cond.constant RX1 117 (1073741824)) ∈ tw := tb2 166 rfl
theorem w2_167 : (Cond.methodLink RX1 49 yX1_wordAt) ∈ tw := tb2 167 rfl
theorem w2_169 : (Cond.instanceMethod yX1_wordAt) ∈ tw := tb2 169 rfl
theorem w2_170 : (Cond.code yX1_wordAt prog_3_method_29_code 3 (some .int)) ∈ tw := tb2 170 rfl
theorem w2_171 : (Cond.methodLink RX1 92 yX1_inRam) ∈ tw := tb2 171 rfl
theorem w2_172 : (Cond.instanceMethod yX1_inRam) ∈ tw := tb2 172 rfl
theorem w2_173 : (Cond.selects RX1 yX1_inRam yX1_inRam) ∈ tw := tb2 173 rfl
theorem w2_174 : (Cond.code yX1_inRam prog_3_method_26_code 2 (some .boolean)) ∈ tw := tb2 174 rfl
theorem w2_175 : (Cond.methodLink RX1 52 yX1_give) ∈ tw := tb2 175 rfl
theorem w2_177 : (Cond.instanceMethod yX1_give) ∈ tw := tb2 177 rfl
theorem w2_178 : (Cond.code yX1_give prog_3_method_10_code 2 (some .int)) ∈ tw := tb2 178 rfl
theorem w2_179 : (Cond.methodLink RX1 55 yX1_jumpOffset) ∈ tw := tb2 179 rfl
theorem w2_180 : (Cond.static yX1_jumpOffset) ∈ tw := tb2 180 rfl
theorem w2_181 : (Cond.code yX1_jumpOffset prog_3_method_7_code 1 (some .int)) ∈ tw := tb2 181 rfl
theorem w2_182 : (Cond.constant RX1 85 (1044480)) ∈ tw := tb2 182 rfl
theorem w2_183 : (Cond.methodLink RX1 58 yX1_jump) ∈ tw := tb2 183 rfl
theorem w2_185 : (Cond.instanceMethod yX1_jump) ∈ tw := tb2 185 rfl
theorem w2_186 : (Cond.code yX1_jump prog_3_method_11_code 3 (some .int)) ∈ tw := tb2 186 rfl
theorem w2_187 : (Cond.methodLink RX1 61 yX1_branchOffset) ∈ tw := tb2 187 rfl
theorem w2_188 : (Cond.static yX1_branchOffset) ∈ tw := tb2 188 rfl
theorem w2_189 : (Cond.code yX1_branchOffset prog_3_method_8_code 1 (some .int)) ∈ tw := tb2 189 rfl
theorem w2_190 : (Cond.methodLink RX1 64 yX1_branch) ∈ tw := tb2 190 rfl
theorem w2_192 : (Cond.instanceMethod yX1_branch) ∈ tw := tb2 192 rfl
theorem w2_193 : (Cond.code yX1_branch prog_3_method_12_code 7 (some .int)) ∈ tw := tb2 193 rfl
theorem w2_194 : (Cond.methodLink RX1 87 yX1_below) ∈ tw := tb2 194 rfl
theorem w2_195 : (Cond.static yX1_below) ∈ tw := tb2 195 rfl
theorem w2_196 : (Cond.code yX1_below prog_3_method_9_code 2 (some .boolean)) ∈ tw := tb2 196 rfl
theorem w2_197 : (Cond.constant RX1 86 (-2147483648)) ∈ tw := tb2 197 rfl
theorem w2_198 : (Cond.methodLink RX1 68 yX1_load) ∈ tw := tb2 198 rfl
theorem w2_200 : (Cond.instanceMethod yX1_load) ∈ tw := tb2 200 rfl
theorem w2_201 : (Cond.code yX1_load prog_3_method_13_code 5 (some .int)) ∈ tw := tb2 201 rfl
theorem w2_202 : (Cond.constant RX1 91 (65535)) ∈ tw := tb2 202 rfl
theorem w2_203 : (Cond.methodLink RX1 71 yX1_storeAt) ∈ tw := tb2 203 rfl
theorem w2_205 : (Cond.instanceMethod yX1_storeAt) ∈ tw := tb2 205 rfl
theorem w2_206 : (Cond.code yX1_storeAt prog_3_method_14_code 7 (some .int)) ∈ tw := tb2 206 rfl
theorem w2_207 : (Cond.methodLink RX1 75 yX1_withNumber) ∈ tw := tb2 207 rfl
theorem w2_209 : (Cond.instanceMethod yX1_withNumber) ∈ tw := tb2 209 rfl
theorem w2_210 : (Cond.code yX1_withNumber prog_3_method_16_code 5 (some .int)) ∈ tw := tb2 210 rfl
theorem w2_211 : (Cond.methodLink RX1 102 yX1_reckon) ∈ tw := tb2 211 rfl
theorem w2_212 : (Cond.static yX1_reckon) ∈ tw := tb2 212 rfl
theorem w2_213 : (Cond.code yX1_reckon prog_3_method_18_code 3 (some .int)) ∈ tw := tb2 213 rfl
theorem w2_214 : (Cond.methodLink RX1 78 yX1_withRegister) ∈ tw := tb2 214 rfl
theorem w2_216 : (Cond.instanceMethod yX1_withRegister) ∈ tw := tb2 216 rfl
theorem w2_217 : (Cond.code yX1_withRegister prog_3_method_17_code 5 (some .int)) ∈ tw := tb2 217 rfl
theorem w2_218 : (Cond.methodLink RX1 81 yX1_call) ∈ tw := tb2 218 rfl
theorem w2_220 : (Cond.instanceMethod yX1_call) ∈ tw := tb2 220 rfl
theorem w2_221 : (Cond.code yX1_call prog_3_method_19_code 1 (some .int)) ∈ tw := tb2 221 rfl
theorem w2_222 : (Cond.methodLink RX1 105 yX4_sampleAt) ∈ tw := tb2 222 rfl
theorem w2_223 : (Cond.instanceMethod yX4_sampleAt) ∈ tw := tb2 223 rfl
theorem w2_224 : (Cond.selects RX4 yX4_sampleAt yX4_sampleAt) ∈ tw := tb2 224 rfl
theorem w2_225 : (Cond.code yX4_sampleAt prog_6_method_7_code 2 (some .int)) ∈ tw := tb2 225 rfl
theorem w2_226 : (Cond.methodLink RX1 110 yX1_callToSend) ∈ tw := tb2 226 rfl
theorem w2_228 : (Cond.instanceMethod yX1_callToSend) ∈ tw := tb2 228 rfl
theorem w2_229 : (Cond.code yX1_callToSend prog_3_method_20_code 2 (some .int)) ∈ tw := tb2 229 rfl
theorem w2_230 : (Cond.methodLink RX2 139 yX2_needsCheckpoint) ∈ tw := tb2 230 rfl
theorem w2_232 : (Cond.instanceMethod yX2_needsCheckpoint) ∈ tw := tb2 232 rfl
theorem w2_233 : (Cond.code yX2_needsCheckpoint prog_4_method_10_code 1 (some .boolean)) ∈ tw := tb2 233 rfl
theorem w2_234 : (Cond.methodLink RX2 142 yX1_kind) ∈ tw := tb2 234 rfl
theorem w2_235 : (Cond.instanceMethod yX1_kind) ∈ tw := tb2 235 rfl
theorem w2_236 : (Cond.selects RX1 yX1_kind yX1_kind) ∈ tw := tb2 236 rfl
theorem w2_237 : (Cond.code yX1_kind prog_3_method_22_code 1 (some .int)) ∈ tw := tb2 237 rfl
theorem w2_238 : (Cond.methodLink RX2 145 yX2_needsEntry) ∈ tw := tb2 238 rfl
theorem w3_0 : (Cond.instanceMethod yX2_needsEntry) ∈ tw := tb3 0 rfl
theorem w3_1 : (Cond.code yX2_needsEntry prog_4_method_11_code 2 (some .boolean)) ∈ tw := tb3 1 rfl
theorem w3_2 : (Cond.methodLink RX2 148 yX1_cellWritten) ∈ tw := tb3 2 rfl
theorem w3_3 : (Cond.instanceMethod yX1_cellWritten) ∈ tw := tb3 3 rfl
theorem w3_4 : (Cond.selects RX1 yX1_cellWritten yX1_cellWritten) ∈ tw := tb3 4 rfl
theorem w3_5 : (Cond.code yX1_cellWritten prog_3_method_23_code 1 (some .int)) ∈ tw := tb3 5 rfl
theorem w3_6 : (Cond.methodLink RX2 124 yX2_boot) ∈ tw := tb3 6 rfl
theorem w3_8 : (Cond.instanceMethod yX2_boot) ∈ tw := tb3 8 rfl
theorem w3_9 : (Cond.code yX2_boot prog_4_method_12_code 4 (none : Option Jvm.ClassFile.FieldType)) ∈ tw := tb3 9 rfl
theorem w3_10 : (Cond.methodLink RX2 151 yX2_write) ∈ tw := tb3 10 rfl
theorem w3_12 : (Cond.instanceMethod yX2_write) ∈ tw := tb3 12 rfl
theorem w3_13 : (Cond.code yX2_write prog_4_method_17_code 3 (none : Option Jvm.ClassFile.FieldType)) ∈ tw := tb3 13 rfl
theorem w3_14 : (Cond.methodLink RX2 127 yX2_checkpoint) ∈ tw := tb3 14 rfl
theorem w3_16 : (Cond.instanceMethod yX2_checkpoint) ∈ tw := tb3 16 rfl
theorem w3_17 : (Cond.code yX2_checkpoint prog_4_method_13_code 3 (none : Option Jvm.ClassFile.FieldType)) ∈ tw := tb3 17 rfl
theorem w3_18 : (Cond.methodLink RX2 154 yX1_saved) ∈ tw := tb3 18 rfl
theorem w3_19 : (Cond.instanceMethod yX1_saved) ∈ tw := tb3 19 rfl
theorem w3_20 : (Cond.selects RX1 yX1_saved yX1_saved) ∈ tw := tb3 20 rfl
theorem w3_21 : (Cond.code yX1_saved prog_3_method_4_code 3 (some .int)) ∈ tw := tb3 21 rfl
theorem w3_22 : (Cond.methodLink RX1 29 yX1_owned) ∈ tw := tb3 22 rfl
theorem w3_23 : (Cond.instanceMethod yX1_owned) ∈ tw := tb3 23 rfl
theorem w3_24 : (Cond.selects RX1 yX1_owned yX1_owned) ∈ tw := tb3 24 rfl
theorem w3_25 : (Cond.code yX1_owned prog_3_method_3_code 2 (some .int)) ∈ tw := tb3 25 rfl
theorem w3_26 : (Cond.methodLink RX2 130 yX2_instruct) ∈ tw := tb3 26 rfl
theorem w3_28 : (Cond.instanceMethod yX2_instruct) ∈ tw := tb3 28 rfl
theorem w3_29 : (Cond.code yX2_instruct prog_4_method_14_code 3 (none : Option Jvm.ClassFile.FieldType)) ∈ tw := tb3 29 rfl
theorem w3_30 : (Cond.methodLink RX2 157 yX1_owned) ∈ tw := tb3 30 rfl
theorem w3_31 : (Cond.methodLink RX2 160 yX5_send) ∈ tw := tb3 31 rfl
theorem w3_32 : (Cond.instanceMethod yX5_send) ∈ tw := tb3 32 rfl
theorem w3_33 : (Cond.selects RX5 yX5_send yX5_send) ∈ tw := tb3 33 rfl
theorem w3_34 : (Cond.code yX5_send prog_7_method_3_code 6 (none : Option Jvm.ClassFile.FieldType)) ∈ tw := tb3 34 rfl
theorem w3_35 : (Cond.methodLink RX5 37 yX1_sendLength) ∈ tw := tb3 35 rfl
theorem w3_36 : (Cond.instanceMethod yX1_sendLength) ∈ tw := tb3 36 rfl
theorem w3_37 : (Cond.selects RX1 yX1_sendLength yX1_sendLength) ∈ tw := tb3 37 rfl
theorem w3_38 : (Cond.code yX1_sendLength prog_3_method_24_code 1 (some .int)) ∈ tw := tb3 38 rfl
theorem w3_39 : (Cond.methodLink RX5 43 yX1_sendPlace) ∈ tw := tb3 39 rfl
theorem w3_40 : (Cond.instanceMethod yX1_sendPlace) ∈ tw := tb3 40 rfl
theorem w3_41 : (Cond.selects RX1 yX1_sendPlace yX1_sendPlace) ∈ tw := tb3 41 rfl
theorem w3_42 : (Cond.code yX1_sendPlace prog_3_method_25_code 1 (some .int)) ∈ tw := tb3 42 rfl
theorem w3_43 : (Cond.methodLink RX5 46 yX1_byteAt) ∈ tw := tb3 43 rfl
theorem w3_44 : (Cond.instanceMethod yX1_byteAt) ∈ tw := tb3 44 rfl
theorem w3_45 : (Cond.selects RX1 yX1_byteAt yX1_byteAt) ∈ tw := tb3 45 rfl
theorem w3_46 : (Cond.code yX1_byteAt prog_3_method_28_code 2 (some .int)) ∈ tw := tb3 46 rfl
theorem w3_47 : (Cond.methodLink RX5 50 yX0_put) ∈ tw := tb3 47 rfl
theorem w3_48 : (Cond.methodLink RX2 164 yX2_log) ∈ tw := tb3 48 rfl
theorem w3_50 : (Cond.instanceMethod yX2_log) ∈ tw := tb3 50 rfl
theorem w3_51 : (Cond.code yX2_log prog_4_method_15_code 3 (none : Option Jvm.ClassFile.FieldType)) ∈ tw := tb3 51 rfl
theorem w3_52 : (Cond.methodLink RX2 167 yX2_finish) ∈ tw := tb3 52 rfl
theorem w3_54 : (Cond.instanceMethod yX2_finish) ∈ tw := tb3 54 rfl
theorem w3_55 : (Cond.code yX2_finish prog_4_method_16_code 1 (none : Option Jvm.ClassFile.FieldType)) ∈ tw := tb3 55 rfl
theorem w3_56 : (Cond.methodLink RX2 170 yX5_newest) ∈ tw := tb3 56 rfl
theorem w3_57 : (Cond.instanceMethod yX5_newest) ∈ tw := tb3 57 rfl
theorem w3_58 : (Cond.selects RX5 yX5_newest yX5_newest) ∈ tw := tb3 58 rfl
theorem w3_59 : (Cond.code yX5_newest prog_7_method_6_code 1 (some .int)) ∈ tw := tb3 59 rfl
theorem w3_60 : (Cond.methodLink RX2 173 yX1_finish) ∈ tw := tb3 60 rfl
theorem w3_61 : (Cond.instanceMethod yX1_finish) ∈ tw := tb3 61 rfl
theorem w3_62 : (Cond.selects RX1 yX1_finish yX1_finish) ∈ tw := tb3 62 rfl
theorem w3_63 : (Cond.code yX1_finish prog_3_method_21_code 1 (none : Option Jvm.ClassFile.FieldType)) ∈ tw := tb3 63 rfl
theorem w3_64 : (Cond.methodLink RX1 113 yX1_putWord) ∈ tw := tb3 64 rfl
theorem w3_66 : (Cond.instanceMethod yX1_putWord) ∈ tw := tb3 66 rfl
theorem w3_67 : (Cond.code yX1_putWord prog_3_method_30_code 4 (none : Option Jvm.ClassFile.FieldType)) ∈ tw := tb3 67 rfl
theorem w3_68 : (Cond.methodLink RL 45 yX7_state) ∈ tw := tb3 68 rfl
theorem w3_69 : (Cond.instanceMethod yX7_state) ∈ tw := tb3 69 rfl
theorem w3_70 : (Cond.selects RX7 yX7_state yX7_state) ∈ tw := tb3 70 rfl
theorem w3_71 : (Cond.code yX7_state prog_1_method_9_code 1 (some .int)) ∈ tw := tb3 71 rfl
theorem w3_72 : (Cond.methodLink RX7 89 yX2_condition) ∈ tw := tb3 72 rfl
theorem w3_73 : (Cond.instanceMethod yX2_condition) ∈ tw := tb3 73 rfl
theorem w3_74 : (Cond.selects RX2 yX2_condition yX2_condition) ∈ tw := tb3 74 rfl
theorem w3_75 : (Cond.code yX2_condition prog_4_method_21_code 1 (some .int)) ∈ tw := tb3 75 rfl
theorem w3_76 : (Cond.methodLink RL 50 yX7_register) ∈ tw := tb3 76 rfl
theorem w3_77 : (Cond.instanceMethod yX7_register) ∈ tw := tb3 77 rfl
theorem w3_78 : (Cond.selects RX7 yX7_register yX7_register) ∈ tw := tb3 78 rfl
theorem w3_79 : (Cond.code yX7_register prog_1_method_10_code 2 (some .int)) ∈ tw := tb3 79 rfl
theorem w3_80 : (Cond.methodLink RX7 92 yX2_owned) ∈ tw := tb3 80 rfl
theorem w3_81 : (Cond.instanceMethod yX2_owned) ∈ tw := tb3 81 rfl
theorem w3_82 : (Cond.selects RX2 yX2_owned yX2_owned) ∈ tw := tb3 82 rfl
theorem w3_83 : (Cond.code yX2_owned prog_4_method_22_code 2 (some .int)) ∈ tw := tb3 83 rfl
theorem w3_84 : (Cond.methodLink RL 54 yX7_ram) ∈ tw := tb3 84 rfl
theorem w3_85 : (Cond.instanceMethod yX7_ram) ∈ tw := tb3 85 rfl
theorem w3_86 : (Cond.selects RX7 yX7_ram yX7_ram) ∈ tw := tb3 86 rfl
theorem w3_87 : (Cond.code yX7_ram prog_1_method_11_code 2 (some .int)) ∈ tw := tb3 87 rfl
theorem w3_88 : (Cond.methodLink RX7 95 yX2_ramByte) ∈ tw := tb3 88 rfl
theorem w3_89 : (Cond.instanceMethod yX2_ramByte) ∈ tw := tb3 89 rfl
theorem w3_90 : (Cond.selects RX2 yX2_ramByte yX2_ramByte) ∈ tw := tb3 90 rfl
theorem w3_91 : (Cond.code yX2_ramByte prog_4_method_23_code 2 (some .int)) ∈ tw := tb3 91 rfl
theorem w3_92 : (Cond.methodLink RX2 174 yX1_inRam) ∈ tw := tb3 92 rfl
theorem w3_93 : (Cond.methodLink RX2 178 yX1_byteAt) ∈ tw := tb3 93 rfl
theorem w3_94 : (Cond.methodLink RL 58 yX7_words) ∈ tw := tb3 94 rfl
theorem w3_95 : (Cond.instanceMethod yX7_words) ∈ tw := tb3 95 rfl
theorem w3_96 : (Cond.selects RX7 yX7_words yX7_words) ∈ tw := tb3 96 rfl
theorem w3_97 : (Cond.code yX7_words prog_1_method_12_code 1 (some .int)) ∈ tw := tb3 97 rfl
theorem w3_98 : (Cond.methodLink RX7 98 yX2_size) ∈ tw := tb3 98 rfl
theorem w3_99 : (Cond.instanceMethod yX2_size) ∈ tw := tb3 99 rfl
theorem w3_100 : (Cond.selects RX2 yX2_size yX2_size) ∈ tw := tb3 100 rfl
theorem w3_101 : (Cond.code yX2_size prog_4_method_24_code 1 (some .int)) ∈ tw := tb3 101 rfl
theorem w3_102 : (Cond.methodLink RL 62 yX7_word) ∈ tw := tb3 102 rfl
theorem w3_103 : (Cond.instanceMethod yX7_word) ∈ tw := tb3 103 rfl
theorem w3_104 : (Cond.selects RX7 yX7_word yX7_word) ∈ tw := tb3 104 rfl
theorem w3_105 : (Cond.code yX7_word prog_1_method_13_code 2 (some .int)) ∈ tw := tb3 105 rfl
theorem w3_106 : (Cond.methodLink RX7 99 yX2_stored) ∈ tw := tb3 106 rfl
theorem w3_107 : (Cond.methodLink RL 66 yX7_frames) ∈ tw := tb3 107 rfl
theorem w3_108 : (Cond.instanceMethod yX7_frames) ∈ tw := tb3 108 rfl
theorem w3_109 : (Cond.selects RX7 yX7_frames yX7_frames) ∈ tw := tb3 109 rfl
theorem w3_110 : (Cond.code yX7_frames prog_1_method_14_code 1 (some .int)) ∈ tw := tb3 110 rfl
theorem w3_111 : (Cond.methodLink RX7 102 yX2_radio) ∈ tw := tb3 111 rfl
theorem w3_112 : (Cond.instanceMethod yX2_radio) ∈ tw := tb3 112 rfl
theorem w3_113 : (Cond.selects RX2 yX2_radio yX2_radio) ∈ tw := tb3 113 rfl
theorem w3_114 : (Cond.code yX2_radio prog_4_method_26_code 1 (some (.object RX5))) ∈ tw := tb3 114 rfl
theorem w3_115 : (Cond.methodLink RX7 106 yX5_total) ∈ tw := tb3 115 rfl
theorem w3_116 : (Cond.instanceMethod yX5_total) ∈ tw := tb3 116 rfl
theorem w3_117 : (Cond.selects RX5 yX5_total yX5_total) ∈ tw := tb3 117 rfl
theorem w3_118 : (Cond.code yX5_total prog_7_method_5_code 1 (some .int)) ∈ tw := tb3 118 rfl
theorem w3_119 : (Cond.methodLink RL 70 yX7_frame) ∈ tw := tb3 119 rfl
theorem w3_120 : (Cond.instanceMethod yX7_frame) ∈ tw := tb3 120 rfl
theorem w3_121 : (Cond.selects RX7 yX7_frame yX7_frame) ∈ tw := tb3 121 rfl
theorem w3_122 : (Cond.code yX7_frame prog_1_method_15_code 3 (some .int)) ∈ tw := tb3 122 rfl
theorem w3_123 : (Cond.methodLink RX7 111 yX5_number) ∈ tw := tb3 123 rfl
theorem w3_124 : (Cond.instanceMethod yX5_number) ∈ tw := tb3 124 rfl
theorem w3_125 : (Cond.selects RX5 yX5_number yX5_number) ∈ tw := tb3 125 rfl
theorem w3_126 : (Cond.code yX5_number prog_7_method_7_code 2 (some .int)) ∈ tw := tb3 126 rfl
theorem w3_127 : (Cond.methodLink RX5 54 yX5_keeps) ∈ tw := tb3 127 rfl
theorem w3_129 : (Cond.instanceMethod yX5_keeps) ∈ tw := tb3 129 rfl
theorem w3_130 : (Cond.code yX5_keeps prog_7_method_4_code 2 (some .boolean)) ∈ tw := tb3 130 rfl
theorem w3_131 : (Cond.methodLink RX7 114 yX5_length) ∈ tw := tb3 131 rfl
theorem w3_132 : (Cond.instanceMethod yX5_length) ∈ tw := tb3 132 rfl
theorem w3_133 : (Cond.selects RX5 yX5_length yX5_length) ∈ tw := tb3 133 rfl
theorem w3_134 : (Cond.code yX5_length prog_7_method_8_code 2 (some .int)) ∈ tw := tb3 134 rfl
theorem w3_135 : (Cond.methodLink RX7 117 yX5_cutsBefore) ∈ tw := tb3 135 rfl
theorem w3_136 : (Cond.instanceMethod yX5_cutsBefore) ∈ tw := tb3 136 rfl
theorem w3_137 : (Cond.selects RX5 yX5_cutsBefore yX5_cutsBefore) ∈ tw := tb3 137 rfl
theorem w3_138 : (Cond.code yX5_cutsBefore prog_7_method_9_code 2 (some .int)) ∈ tw := tb3 138 rfl
theorem w3_139 : (Cond.methodLink RL 75 yX7_heard) ∈ tw := tb3 139 rfl
theorem w3_140 : (Cond.instanceMethod yX7_heard) ∈ tw := tb3 140 rfl
theorem w3_141 : (Cond.selects RX7 yX7_heard yX7_heard) ∈ tw := tb3 141 rfl
theorem w3_142 : (Cond.code yX7_heard prog_1_method_16_code 3 (some .int)) ∈ tw := tb3 142 rfl
theorem w3_143 : (Cond.methodLink RX7 120 yX5_byteOf) ∈ tw := tb3 143 rfl
theorem w3_144 : (Cond.instanceMethod yX5_byteOf) ∈ tw := tb3 144 rfl
theorem w3_145 : (Cond.selects RX5 yX5_byteOf yX5_byteOf) ∈ tw := tb3 145 rfl
theorem w3_146 : (Cond.code yX5_byteOf prog_7_method_10_code 3 (some .int)) ∈ tw := tb3 146 rfl
theorem w3_147 : (Cond.methodLink RX5 58 yX5_length) ∈ tw := tb3 147 rfl
theorem w3_148 : (Cond.methodLink RX5 61 yX0_get) ∈ tw := tb3 148 rfl
theorem w3_149 : (Cond.methodLink RL 79 yX7_count) ∈ tw := tb3 149 rfl
theorem w3_150 : (Cond.instanceMethod yX7_count) ∈ tw := tb3 150 rfl
theorem w3_151 : (Cond.selects RX7 yX7_count yX7_count) ∈ tw := tb3 151 rfl
theorem w3_152 : (Cond.code yX7_count prog_1_method_17_code 2 (some .int)) ∈ tw := tb3 152 rfl
theorem w3_153 : (Cond.methodLink RX7 124 yX2_counted) ∈ tw := tb3 153 rfl
theorem w3_154 : (Cond.instanceMethod yX2_counted) ∈ tw := tb3 154 rfl
theorem w3_155 : (Cond.selects RX2 yX2_counted yX2_counted) ∈ tw := tb3 155 rfl
theorem w3_156 : (Cond.code yX2_counted prog_4_method_27_code 2 (some .int)) ∈ tw := tb3 156 rfl
theorem w3_157 : (Cond.methodLink RL 83 yX7_plain) ∈ tw := tb3 157 rfl
theorem w3_158 : (Cond.instanceMethod yX7_plain) ∈ tw := tb3 158 rfl
theorem w3_159 : (Cond.selects RX7 yX7_plain yX7_plain) ∈ tw := tb3 159 rfl
theorem w3_160 : (Cond.code yX7_plain prog_1_method_18_code 2 (some .int)) ∈ tw := tb3 160 rfl
theorem w3_161 : (Cond.methodLink RX7 131 yX3_run) ∈ tw := tb3 161 rfl
theorem w3_162 : (Cond.instanceMethod yX3_run) ∈ tw := tb3 162 rfl
theorem w3_163 : (Cond.selects RX3 yX3_run yX3_run) ∈ tw := tb3 163 rfl
theorem w3_164 : (Cond.code yX3_run prog_5_method_3_code 3 (some .int)) ∈ tw := tb3 164 rfl
theorem w3_165 : (Cond.methodLink RX3 46 yX3_begin) ∈ tw := tb3 165 rfl
theorem w3_167 : (Cond.instanceMethod yX3_begin) ∈ tw := tb3 167 rfl
theorem w3_168 : (Cond.code yX3_begin prog_5_method_4_code 2 (none : Option Jvm.ClassFile.FieldType)) ∈ tw := tb3 168 rfl
theorem w3_169 : (Cond.methodLink RX3 67 yX3_forget) ∈ tw := tb3 169 rfl
theorem w3_170 : (Cond.methodLink RX3 70 yX4_bufferWords) ∈ tw := tb3 170 rfl
theorem w3_171 : (Cond.methodLink RX3 78 yX1_restore) ∈ tw := tb3 171 rfl
theorem w3_172 : (Cond.methodLink RX3 82 yX4_copyImage) ∈ tw := tb3 172 rfl
theorem w3_173 : (Cond.methodLink RX3 64 yX1_look) ∈ tw := tb3 173 rfl
theorem w3_174 : (Cond.methodLink RX3 49 yX1_kind) ∈ tw := tb3 174 rfl
theorem w3_175 : (Cond.methodLink RX3 53 yX1_owned) ∈ tw := tb3 175 rfl
theorem w3_176 : (Cond.methodLink RX3 57 yX5_send) ∈ tw := tb3 176 rfl
theorem w3_177 : (Cond.methodLink RX3 61 yX1_finish) ∈ tw := tb3 177 rfl
theorem w3_178 : (Cond.methodLink RL 87 yX7_plainly) ∈ tw := tb3 178 rfl
theorem w3_179 : (Cond.instanceMethod yX7_plainly) ∈ tw := tb3 179 rfl
theorem w3_180 : (Cond.selects RX7 yX7_plainly yX7_plainly) ∈ tw := tb3 180 rfl
theorem w3_181 : (Cond.code yX7_plainly prog_1_method_19_code 2 (some .int)) ∈ tw := tb3 181 rfl
theorem w3_182 : (Cond.methodLink RX7 134 yX3_owned) ∈ tw := tb3 182 rfl
theorem w3_183 : (Cond.instanceMethod yX3_owned) ∈ tw := tb3 183 rfl
theorem w3_184 : (Cond.selects RX3 yX3_owned yX3_owned) ∈ tw := tb3 184 rfl
theorem w3_185 : (Cond.code yX3_owned prog_5_method_5_code 2 (some .int)) ∈ tw := tb3 185 rfl
theorem w3_186 : (Cond.methodLink RL 91 yX7_plainByte) ∈ tw := tb3 186 rfl
theorem w3_187 : (Cond.instanceMethod yX7_plainByte) ∈ tw := tb3 187 rfl
theorem w3_188 : (Cond.selects RX7 yX7_plainByte yX7_plainByte) ∈ tw := tb3 188 rfl
theorem w3_189 : (Cond.code yX7_plainByte prog_1_method_20_code 2 (some .int)) ∈ tw := tb3 189 rfl
theorem w3_190 : (Cond.methodLink RX7 135 yX3_memoryByte) ∈ tw := tb3 190 rfl
theorem w3_191 : (Cond.instanceMethod yX3_memoryByte) ∈ tw := tb3 191 rfl
theorem w3_192 : (Cond.selects RX3 yX3_memoryByte yX3_memoryByte) ∈ tw := tb3 192 rfl
theorem w3_193 : (Cond.code yX3_memoryByte prog_5_method_6_code 2 (some .int)) ∈ tw := tb3 193 rfl
theorem w3_194 : (Cond.methodLink RX3 86 yX1_holds) ∈ tw := tb3 194 rfl
theorem w3_195 : (Cond.methodLink RX3 90 yX1_byteAt) ∈ tw := tb3 195 rfl
theorem w3_196 : (Cond.methodLink RL 95 yX7_plainFrame) ∈ tw := tb3 196 rfl
theorem w3_197 : (Cond.instanceMethod yX7_plainFrame) ∈ tw := tb3 197 rfl
theorem w3_198 : (Cond.selects RX7 yX7_plainFrame yX7_plainFrame) ∈ tw := tb3 198 rfl
theorem w3_199 : (Cond.code yX7_plainFrame prog_1_method_21_code 2 (some .int)) ∈ tw := tb3 199 rfl
theorem w3_200 : (Cond.methodLink RX7 138 yX3_radio) ∈ tw := tb3 200 rfl
theorem w3_201 : (Cond.instanceMethod yX3_radio) ∈ tw := tb3 201 rfl
theorem w3_202 : (Cond.selects RX3 yX3_radio yX3_radio) ∈ tw := tb3 202 rfl
theorem w3_203 : (Cond.code yX3_radio prog_5_method_7_code 1 (some (.object RX5))) ∈ tw := tb3 203 rfl
theorem w3_204 : (Cond.methodLink RL 99 yX7_plainHeard) ∈ tw := tb3 204 rfl
theorem w3_205 : (Cond.instanceMethod yX7_plainHeard) ∈ tw := tb3 205 rfl
theorem w3_206 : (Cond.selects RX7 yX7_plainHeard yX7_plainHeard) ∈ tw := tb3 206 rfl
theorem w3_207 : (Cond.code yX7_plainHeard prog_1_method_22_code 3 (some .int)) ∈ tw := tb3 207 rfl
theorem w3_208 : (Cond.methodLink RL 103 yX7_strays) ∈ tw := tb3 208 rfl
theorem w3_209 : (Cond.instanceMethod yX7_strays) ∈ tw := tb3 209 rfl
theorem w3_210 : (Cond.selects RX7 yX7_strays yX7_strays) ∈ tw := tb3 210 rfl
theorem w3_211 : (Cond.code yX7_strays prog_1_method_23_code 1 (some .int)) ∈ tw := tb3 211 rfl
theorem w3_212 : (Cond.methodLink RX7 139 yX2_strayed) ∈ tw := tb3 212 rfl
theorem w3_213 : (Cond.instanceMethod yX2_strayed) ∈ tw := tb3 213 rfl
theorem w3_214 : (Cond.selects RX2 yX2_strayed yX2_strayed) ∈ tw := tb3 214 rfl
theorem w3_215 : (Cond.code yX2_strayed prog_4_method_28_code 1 (some .int)) ∈ tw := tb3 215 rfl
theorem w3_216 : (Cond.classLink RL 10 RX10) ∈ tw := tb3 216 rfl
theorem w3_217 : (Cond.instantiable RX10 36) ∈ tw := tb3 217 rfl
theorem w3_218 : (Cond.methodLink RL 12 yX10_init) ∈ tw := tb3 218 rfl
theorem w3_219 : (Cond.instanceMethod yX10_init) ∈ tw := tb3 219 rfl
theorem w3_220 : (Cond.code yX10_init prog_10_method_1_code 1 (none : Option Jvm.ClassFile.FieldType)) ∈ tw := tb3 220 rfl
theorem w3_221 : (Cond.methodLink RX10 1 ⟨"java/lang/Object", "<init>", "()V"⟩) ∈ tw := tb3 221 rfl
theorem w3_222 : (Cond.classLink RX10 19 RX9) ∈ tw := tb3 222 rfl
theorem w3_223 : (Cond.instantiable RX9 20) ∈ tw := tb3 223 rfl
theorem w3_224 : (Cond.methodLink RX10 21 yX9_init) ∈ tw := tb3 224 rfl
theorem w3_225 : (Cond.instanceMethod yX9_init) ∈ tw := tb3 225 rfl
theorem w3_226 : (Cond.code yX9_init prog_12_method_1_code 2 (none : Option Jvm.ClassFile.FieldType)) ∈ tw := tb3 226 rfl
theorem w3_227 : (Cond.methodLink RX9 3 ⟨"java/lang/Object", "<init>", "()V"⟩) ∈ tw := tb3 227 rfl
theorem w3_228 : (Cond.fieldLink "SensorNodeModel$Guest" 9 "SensorNodeModel$Guest" "x" "[I") ∈ tw := tb3 228 rfl
theorem w3_229 : (Cond.fieldLink "SensorNodeModel" 154 "SensorNodeModel$Guest" "x" "[I") ∈ tw := tb3 229 rfl
theorem w3_230 : (Cond.fieldLink "SensorNodeModel$Guest" 28 "SensorNodeModel$Guest" "pc" "I") ∈ tw := tb3 230 rfl
theorem w3_231 : (Cond.fieldLink "SensorNodeModel" 157 "SensorNodeModel$Guest" "pc" "I") ∈ tw := tb3 231 rfl
theorem w3_232 : (Cond.fieldLink "SensorNodeModel$Guest" 31 "SensorNodeModel$Guest" "index" "I") ∈ tw := tb3 232 rfl
theorem w3_233 : (Cond.fieldLink "SensorNodeModel" 160 "SensorNodeModel$Guest" "index" "I") ∈ tw := tb3 233 rfl
theorem w3_234 : (Cond.fieldLink "SensorNodeModel$Guest" 34 "SensorNodeModel$Guest" "sent" "I") ∈ tw := tb3 234 rfl
theorem w3_235 : (Cond.fieldLink "SensorNodeModel" 163 "SensorNodeModel$Guest" "sent" "I") ∈ tw := tb3 235 rfl
theorem w3_236 : (Cond.fieldLink "SensorNodeModel$Guest" 37 "SensorNodeModel$Guest" "count" "I") ∈ tw := tb3 236 rfl
theorem w3_237 : (Cond.fieldLink "SensorNodeModel" 166 "SensorNodeModel$Guest" "count" "I") ∈ tw := tb3 237 rfl
theorem w3_238 : (Cond.fieldLink "SensorNodeModel$Guest" 15 "SensorNodeModel$Guest" "ram" "[I") ∈ tw := tb3 238 rfl
theorem w3_239 : (Cond.fieldLink "SensorNodeModel" 167 "SensorNodeModel$Guest" "ram" "[I") ∈ tw := tb3 239 rfl
theorem w4_0 : (Cond.fieldLink "SensorNodeModel$Guest" 21 "SensorNodeModel$Guest" "\x72" "I") ∈ tw := tb4 0 rfl
theorem w4_1 : (Cond.fieldLink "SensorNodeModel" 107 "SensorNodeModel$Guest" "\x72" "I") ∈ tw := tb4 1 rfl
theorem w4_2 : (Cond.fieldLink "SensorNodeModel$Guest" 25 "SensorNodeModel$Guest" "g" "I") ∈ tw := tb4 2 rfl
theorem w4_3 : (Cond.fieldLink "SensorNodeModel" 108 "SensorNodeModel$Guest" "g" "I") ∈ tw := tb4 3 rfl
theorem w4_4 : (Cond.fieldLink "SensorNodeModel$Guest" 48 "SensorNodeModel$Guest" "own" "[I") ∈ tw := tb4 4 rfl
theorem w4_5 : (Cond.fieldLink "SensorNodeModel" 101 "SensorNodeModel$Guest" "own" "[I") ∈ tw := tb4 5 rfl
theorem w4_6 : (Cond.fieldLink "SensorNodeModel$Guest" 51 "SensorNodeModel$Guest" "from" "I") ∈ tw := tb4 6 rfl
theorem w4_7 : (Cond.fieldLink "SensorNodeModel" 104 "SensorNodeModel$Guest" "from" "I") ∈ tw := tb4 7 rfl
theorem w4_8 : (Cond.fieldLink "SensorNodeModel$Guest" 18 "SensorNodeModel$Guest" "samples" "[I") ∈ tw := tb4 8 rfl
theorem w4_9 : (Cond.fieldLink "SensorNodeModel" 109 "SensorNodeModel$Guest" "sampleCount" "I") ∈ tw := tb4 9 rfl
theorem w4_10 : (Cond.fieldLink "SensorNodeModel$Guest" 134 "SensorNodeModel$Guest" "sampleCount" "I") ∈ tw := tb4 10 rfl
theorem w4_11 : (Cond.fieldLink "SensorNodeModel$Guest" 68 "SensorNodeModel$Guest" "ends" "I") ∈ tw := tb4 11 rfl
theorem w4_12 : (Cond.fieldLink "SensorNodeModel" 210 "SensorNodeModel$Guest" "ends" "I") ∈ tw := tb4 12 rfl
theorem w4_13 : (Cond.fieldLink "SensorNodeModel$Guest" 58 "SensorNodeModel$Guest" "effect" "I") ∈ tw := tb4 13 rfl
theorem w4_14 : (Cond.fieldLink "SensorNodeModel" 207 "SensorNodeModel$Guest" "effect" "I") ∈ tw := tb4 14 rfl
theorem w4_15 : (Cond.fieldLink "SensorNodeModel$Guest" 77 "SensorNodeModel$Guest" "target" "I") ∈ tw := tb4 15 rfl
theorem w4_16 : (Cond.fieldLink "SensorNodeModel$Guest" 117 "SensorNodeModel$Guest" "value" "I") ∈ tw := tb4 16 rfl
theorem w4_17 : (Cond.fieldLink "SensorNodeModel" 213 "SensorNodeModel$Guest" "place" "I") ∈ tw := tb4 17 rfl
theorem w4_18 : (Cond.fieldLink "SensorNodeModel$Guest" 128 "SensorNodeModel$Guest" "place" "I") ∈ tw := tb4 18 rfl
theorem w4_19 : (Cond.fieldLink "SensorNodeModel$Guest" 131 "SensorNodeModel$Guest" "wide" "I") ∈ tw := tb4 19 rfl
theorem w4_20 : (Cond.fieldLink "SensorNodeModel$Guest" 61 "SensorNodeModel$Guest" "writesRegister" "Z") ∈ tw := tb4 20 rfl
theorem w4_21 : (Cond.fieldLink "SensorNodeModel$Guest" 65 "SensorNodeModel$Guest" "writesRam" "Z") ∈ tw := tb4 21 rfl
theorem w4_22 : (Cond.laysFinal "SensorNodeModel$Guest" "SensorNodeModel$Guest" "x" "[I") ∈ tw := tb4 22 rfl
theorem w4_24 : (Cond.lays "SensorNodeModel$Guest" "SensorNodeModel$Guest" "pc" "I") ∈ tw := tb4 24 rfl
theorem w4_26 : (Cond.lays "SensorNodeModel$Guest" "SensorNodeModel$Guest" "index" "I") ∈ tw := tb4 26 rfl
theorem w4_28 : (Cond.lays "SensorNodeModel$Guest" "SensorNodeModel$Guest" "sent" "I") ∈ tw := tb4 28 rfl
theorem w4_30 : (Cond.lays "SensorNodeModel$Guest" "SensorNodeModel$Guest" "count" "I") ∈ tw := tb4 30 rfl
theorem w4_32 : (Cond.laysFinal "SensorNodeModel$Guest" "SensorNodeModel$Guest" "ram" "[I") ∈ tw := tb4 32 rfl
theorem w4_34 : (Cond.lays "SensorNodeModel$Guest" "SensorNodeModel$Guest" "\x72" "I") ∈ tw := tb4 34 rfl
theorem w4_36 : (Cond.lays "SensorNodeModel$Guest" "SensorNodeModel$Guest" "g" "I") ∈ tw := tb4 36 rfl
theorem w4_38 : (Cond.lays "SensorNodeModel$Guest" "SensorNodeModel$Guest" "own" "[I") ∈ tw := tb4 38 rfl
theorem w4_40 : (Cond.lays "SensorNodeModel$Guest" "SensorNodeModel$Guest" "from" "I") ∈ tw := tb4 40 rfl
theorem w4_42 : (Cond.laysFinal "SensorNodeModel$Guest" "SensorNodeModel$Guest" "samples" "[I") ∈ tw := tb4 42 rfl
theorem w4_44 : (Cond.lays "SensorNodeModel$Guest" "SensorNodeModel$Guest" "sampleCount" "I") ∈ tw := tb4 44 rfl
theorem w4_46 : (Cond.lays "SensorNodeModel$Guest" "SensorNodeModel$Guest" "ends" "I") ∈ tw := tb4 46 rfl
theorem w4_48 : (Cond.lays "SensorNodeModel$Guest" "SensorNodeModel$Guest" "effect" "I") ∈ tw := tb4 48 rfl
theorem w4_50 : (Cond.lays "SensorNodeModel$Guest" "SensorNodeModel$Guest" "target" "I") ∈ tw := tb4 50 rfl
theorem w4_52 : (Cond.lays "SensorNodeModel$Guest" "SensorNodeModel$Guest" "value" "I") ∈ tw := tb4 52 rfl
theorem w4_54 : (Cond.lays "SensorNodeModel$Guest" "SensorNodeModel$Guest" "place" "I") ∈ tw := tb4 54 rfl
theorem w4_56 : (Cond.lays "SensorNodeModel$Guest" "SensorNodeModel$Guest" "wide" "I") ∈ tw := tb4 56 rfl
theorem w4_58 : (Cond.lays "SensorNodeModel$Guest" "SensorNodeModel$Guest" "writesRegister" "Z") ∈ tw := tb4 58 rfl
theorem w4_60 : (Cond.lays "SensorNodeModel$Guest" "SensorNodeModel$Guest" "writesRam" "Z") ∈ tw := tb4 60 rfl
theorem w4_63 : (Cond.classLink RX10 34 RX8) ∈ tw := tb4 63 rfl
theorem w4_64 : (Cond.instantiable RX8 5) ∈ tw := tb4 64 rfl
theorem w4_66 : (Cond.instanceMethod yX8_init) ∈ tw := tb4 66 rfl
theorem w4_67 : (Cond.code yX8_init prog_11_method_1_code 1 (none : Option Jvm.ClassFile.FieldType)) ∈ tw := tb4 67 rfl
theorem w4_68 : (Cond.methodLink RX8 3 ⟨"java/lang/Object", "<init>", "()V"⟩) ∈ tw := tb4 68 rfl
theorem w4_69 : (Cond.fieldLink "SensorNodeModel$Air" 25 "SensorNodeModel$Air" "count" "I") ∈ tw := tb4 69 rfl
theorem w4_70 : (Cond.fieldLink "SensorNodeModel" 112 "SensorNodeModel$Air" "count" "I") ∈ tw := tb4 70 rfl
theorem w4_71 : (Cond.fieldLink "SensorNodeModel$Guest" 137 "SensorNodeModel$Air" "count" "I") ∈ tw := tb4 71 rfl
theorem w4_72 : (Cond.fieldLink "SensorNodeModel$Air" 9 "SensorNodeModel$Air" "number" "[I") ∈ tw := tb4 72 rfl
theorem w4_73 : (Cond.fieldLink "SensorNodeModel$Guest" 140 "SensorNodeModel$Air" "number" "[I") ∈ tw := tb4 73 rfl
theorem w4_74 : (Cond.fieldLink "SensorNodeModel" 238 "SensorNodeModel$Air" "number" "[I") ∈ tw := tb4 74 rfl
theorem w4_75 : (Cond.fieldLink "SensorNodeModel$Air" 15 "SensorNodeModel$Air" "length" "[I") ∈ tw := tb4 75 rfl
theorem w4_76 : (Cond.fieldLink "SensorNodeModel$Guest" 143 "SensorNodeModel$Air" "length" "[I") ∈ tw := tb4 76 rfl
theorem w4_77 : (Cond.fieldLink "SensorNodeModel" 241 "SensorNodeModel$Air" "length" "[I") ∈ tw := tb4 77 rfl
theorem w4_78 : (Cond.fieldLink "SensorNodeModel$Air" 18 "SensorNodeModel$Air" "before" "[I") ∈ tw := tb4 78 rfl
theorem w4_79 : (Cond.fieldLink "SensorNodeModel$Guest" 146 "SensorNodeModel$Air" "before" "[I") ∈ tw := tb4 79 rfl
theorem w4_80 : (Cond.fieldLink "SensorNodeModel" 244 "SensorNodeModel$Air" "before" "[I") ∈ tw := tb4 80 rfl
theorem w4_81 : (Cond.fieldLink "SensorNodeModel$Air" 21 "SensorNodeModel$Air" "bytes" "[B") ∈ tw := tb4 81 rfl
theorem w4_82 : (Cond.fieldLink "SensorNodeModel$Guest" 149 "SensorNodeModel$Air" "bytes" "[B") ∈ tw := tb4 82 rfl
theorem w4_83 : (Cond.lays "SensorNodeModel$Air" "SensorNodeModel$Air" "count" "I") ∈ tw := tb4 83 rfl
theorem w4_85 : (Cond.laysFinal "SensorNodeModel$Air" "SensorNodeModel$Air" "number" "[I") ∈ tw := tb4 85 rfl
theorem w4_87 : (Cond.laysFinal "SensorNodeModel$Air" "SensorNodeModel$Air" "length" "[I") ∈ tw := tb4 87 rfl
theorem w4_89 : (Cond.laysFinal "SensorNodeModel$Air" "SensorNodeModel$Air" "before" "[I") ∈ tw := tb4 89 rfl
theorem w4_91 : (Cond.laysFinal "SensorNodeModel$Air" "SensorNodeModel$Air" "bytes" "[B") ∈ tw := tb4 91 rfl
theorem w4_94 : (Cond.arrayClass .byte) ∈ tw := tb4 94 rfl
theorem w4_95 : (Cond.fieldLink "SensorNodeModel" 64 "SensorNodeModel" "isInstalled" "Z") ∈ tw := tb4 95 rfl
theorem w4_96 : (Cond.fieldLink "SensorNodeModel" 68 "SensorNodeModel" "wasOn" "Z") ∈ tw := tb4 96 rfl
theorem w4_97 : (Cond.fieldLink "SensorNodeModel" 71 "SensorNodeModel" "power" "Z") ∈ tw := tb4 97 rfl
theorem w4_98 : (Cond.fieldLink "SensorNodeModel" 77 "SensorNodeModel" "\x72" "I") ∈ tw := tb4 98 rfl
theorem w4_99 : (Cond.fieldLink "SensorNodeModel" 80 "SensorNodeModel" "g" "I") ∈ tw := tb4 99 rfl
theorem w4_100 : (Cond.fieldLink "SensorNodeModel" 83 "SensorNodeModel" "l" "I") ∈ tw := tb4 100 rfl
theorem w4_101 : (Cond.fieldLink "SensorNodeModel" 86 "SensorNodeModel" "k" "I") ∈ tw := tb4 101 rfl
theorem w4_102 : (Cond.fieldLink "SensorNodeModel" 89 "SensorNodeModel" "pcAtFirst" "I") ∈ tw := tb4 102 rfl
theorem w4_103 : (Cond.fieldLink "SensorNodeModel" 98 "SensorNodeModel" "size" "I") ∈ tw := tb4 103 rfl
theorem w4_104 : (Cond.fieldLink "SensorNodeModel" 92 "SensorNodeModel" "entriesAt" "I") ∈ tw := tb4 104 rfl
theorem w4_105 : (Cond.fieldLink "SensorNodeModel" 95 "SensorNodeModel" "guestAt" "I") ∈ tw := tb4 105 rfl
theorem w4_106 : (Cond.fieldLink "SensorNodeModel" 9 "SensorNodeModel" "store" "[I") ∈ tw := tb4 106 rfl
theorem w4_107 : (Cond.fieldLink "SensorNodeModel" 13 "SensorNodeModel" "image" "[I") ∈ tw := tb4 107 rfl
theorem w4_108 : (Cond.fieldLink "SensorNodeModel" 16 "SensorNodeModel" "samples" "[I") ∈ tw := tb4 108 rfl
theorem w4_109 : (Cond.fieldLink "SensorNodeModel" 24 "SensorNodeModel" "node" "LSensorNodeModel$Guest;") ∈ tw := tb4 109 rfl
theorem w4_110 : (Cond.fieldLink "SensorNodeModel" 28 "SensorNodeModel" "plain" "LSensorNodeModel$Guest;") ∈ tw := tb4 110 rfl
theorem w4_111 : (Cond.fieldLink "SensorNodeModel" 31 "SensorNodeModel" "plainWords" "[I") ∈ tw := tb4 111 rfl
theorem w4_112 : (Cond.fieldLink "SensorNodeModel" 74 "SensorNodeModel" "wasPlain" "Z") ∈ tw := tb4 112 rfl
theorem w4_113 : (Cond.fieldLink "SensorNodeModel" 37 "SensorNodeModel" "heard" "LSensorNodeModel$Air;") ∈ tw := tb4 113 rfl
theorem w4_114 : (Cond.fieldLink "SensorNodeModel" 41 "SensorNodeModel" "plainHeard" "LSensorNodeModel$Air;") ∈ tw := tb4 114 rfl
theorem w4_115 : (Cond.fieldLink "SensorNodeModel" 115 "SensorNodeModel" "since" "I") ∈ tw := tb4 115 rfl
theorem w4_116 : (Cond.fieldLink "SensorNodeModel" 118 "SensorNodeModel" "ended" "I") ∈ tw := tb4 116 rfl
theorem w4_117 : (Cond.fieldLink "SensorNodeModel" 121 "SensorNodeModel" "doing" "I") ∈ tw := tb4 117 rfl
theorem w4_118 : (Cond.fieldLink "SensorNodeModel" 179 "SensorNodeModel" "step" "I") ∈ tw := tb4 118 rfl
theorem w4_119 : (Cond.fieldLink "SensorNodeModel" 44 "SensorNodeModel" "hasEntry" "[Z") ∈ tw := tb4 119 rfl
theorem w4_120 : (Cond.fieldLink "SensorNodeModel" 124 "SensorNodeModel" "acts" "I") ∈ tw := tb4 120 rfl
theorem w4_121 : (Cond.fieldLink "SensorNodeModel" 127 "SensorNodeModel" "written" "I") ∈ tw := tb4 121 rfl
theorem w4_122 : (Cond.fieldLink "SensorNodeModel" 130 "SensorNodeModel" "undone" "I") ∈ tw := tb4 122 rfl
theorem w4_123 : (Cond.fieldLink "SensorNodeModel" 133 "SensorNodeModel" "done" "I") ∈ tw := tb4 123 rfl
theorem w4_124 : (Cond.fieldLink "SensorNodeModel" 136 "SensorNodeModel" "checkpoints" "I") ∈ tw := tb4 124 rfl
theorem w4_125 : (Cond.fieldLink "SensorNodeModel" 139 "SensorNodeModel" "cuts" "I") ∈ tw := tb4 125 rfl
theorem w4_126 : (Cond.fieldLink "SensorNodeModel" 142 "SensorNodeModel" "rolled" "I") ∈ tw := tb4 126 rfl
theorem w4_127 : (Cond.fieldLink "SensorNodeModel" 173 "SensorNodeModel" "strays" "I") ∈ tw := tb4 127 rfl
theorem w4_128 : (Cond.fieldLink "SensorNodeModel" 48 "SensorNodeModel" "tray" "[B") ∈ tw := tb4 128 rfl
theorem w4_129 : (Cond.fieldLink "SensorNodeModel" 52 "SensorNodeModel" "trayed" "I") ∈ tw := tb4 129 rfl
theorem w4_130 : (Cond.fieldLink "SensorNodeModel" 56 "SensorNodeModel" "fed" "I") ∈ tw := tb4 130 rfl
theorem w4_131 : (Cond.lays "SensorNodeModel" "SensorNodeModel" "isInstalled" "Z") ∈ tw := tb4 131 rfl
theorem w4_133 : (Cond.lays "SensorNodeModel" "SensorNodeModel" "wasOn" "Z") ∈ tw := tb4 133 rfl
theorem w4_135 : (Cond.lays "SensorNodeModel" "SensorNodeModel" "power" "Z") ∈ tw := tb4 135 rfl
theorem w4_137 : (Cond.lays "SensorNodeModel" "SensorNodeModel" "\x72" "I") ∈ tw := tb4 137 rfl
theorem w4_139 : (Cond.lays "SensorNodeModel" "SensorNodeModel" "g" "I") ∈ tw := tb4 139 rfl
theorem w4_141 : (Cond.lays "SensorNodeModel" "SensorNodeModel" "l" "I") ∈ tw := tb4 141 rfl
theorem w4_143 : (Cond.lays "SensorNodeModel" "SensorNodeModel" "k" "I") ∈ tw := tb4 143 rfl
theorem w4_145 : (Cond.lays "SensorNodeModel" "SensorNodeModel" "pcAtFirst" "I") ∈ tw := tb4 145 rfl
theorem w4_147 : (Cond.lays "SensorNodeModel" "SensorNodeModel" "size" "I") ∈ tw := tb4 147 rfl
theorem w4_149 : (Cond.lays "SensorNodeModel" "SensorNodeModel" "entriesAt" "I") ∈ tw := tb4 149 rfl
theorem w4_151 : (Cond.lays "SensorNodeModel" "SensorNodeModel" "guestAt" "I") ∈ tw := tb4 151 rfl
theorem w4_153 : (Cond.laysFinal "SensorNodeModel" "SensorNodeModel" "store" "[I") ∈ tw := tb4 153 rfl
theorem w4_155 : (Cond.laysFinal "SensorNodeModel" "SensorNodeModel" "image" "[I") ∈ tw := tb4 155 rfl
theorem w4_157 : (Cond.laysFinal "SensorNodeModel" "SensorNodeModel" "samples" "[I") ∈ tw := tb4 157 rfl
theorem w4_159 : (Cond.laysFinal "SensorNodeModel" "SensorNodeModel" "node" "LSensorNodeModel$Guest;") ∈ tw := tb4 159 rfl
theorem w4_161 : (Cond.laysFinal "SensorNodeModel" "SensorNodeModel" "plain" "LSensorNodeModel$Guest;") ∈ tw := tb4 161 rfl
theorem w4_163 : (Cond.laysFinal "SensorNodeModel" "SensorNodeModel" "plainWords" "[I") ∈ tw := tb4 163 rfl
theorem w4_165 : (Cond.lays "SensorNodeModel" "SensorNodeModel" "wasPlain" "Z") ∈ tw := tb4 165 rfl
theorem w4_167 : (Cond.lays "SensorNodeModel" "SensorNodeModel" "heard" "LSensorNodeModel$Air;") ∈ tw := tb4 167 rfl
theorem w4_169 : (Cond.laysFinal "SensorNodeModel" "SensorNodeModel" "plainHeard" "LSensorNodeModel$Air;") ∈ tw := tb4 169 rfl
theorem w4_171 : (Cond.lays "SensorNodeModel" "SensorNodeModel" "since" "I") ∈ tw := tb4 171 rfl
theorem w4_173 : (Cond.lays "SensorNodeModel" "SensorNodeModel" "ended" "I") ∈ tw := tb4 173 rfl
theorem w4_175 : (Cond.lays "SensorNodeModel" "SensorNodeModel" "doing" "I") ∈ tw := tb4 175 rfl
theorem w4_177 : (Cond.lays "SensorNodeModel" "SensorNodeModel" "step" "I") ∈ tw := tb4 177 rfl
theorem w4_179 : (Cond.laysFinal "SensorNodeModel" "SensorNodeModel" "hasEntry" "[Z") ∈ tw := tb4 179 rfl
theorem w4_181 : (Cond.lays "SensorNodeModel" "SensorNodeModel" "acts" "I") ∈ tw := tb4 181 rfl
theorem w4_183 : (Cond.lays "SensorNodeModel" "SensorNodeModel" "written" "I") ∈ tw := tb4 183 rfl
theorem w4_185 : (Cond.lays "SensorNodeModel" "SensorNodeModel" "undone" "I") ∈ tw := tb4 185 rfl
theorem w4_187 : (Cond.lays "SensorNodeModel" "SensorNodeModel" "done" "I") ∈ tw := tb4 187 rfl
theorem w4_189 : (Cond.lays "SensorNodeModel" "SensorNodeModel" "checkpoints" "I") ∈ tw := tb4 189 rfl
theorem w4_191 : (Cond.lays "SensorNodeModel" "SensorNodeModel" "cuts" "I") ∈ tw := tb4 191 rfl
theorem w4_193 : (Cond.lays "SensorNodeModel" "SensorNodeModel" "rolled" "I") ∈ tw := tb4 193 rfl
theorem w4_195 : (Cond.lays "SensorNodeModel" "SensorNodeModel" "strays" "I") ∈ tw := tb4 195 rfl
theorem w4_197 : (Cond.laysFinal "SensorNodeModel" "SensorNodeModel" "tray" "[B") ∈ tw := tb4 197 rfl
theorem w4_199 : (Cond.lays "SensorNodeModel" "SensorNodeModel" "trayed" "I") ∈ tw := tb4 199 rfl
theorem w4_201 : (Cond.lays "SensorNodeModel" "SensorNodeModel" "fed" "I") ∈ tw := tb4 201 rfl
theorem w4_204 : (Cond.arrayClass .boolean) ∈ tw := tb4 204 rfl
theorem w4_205 : (Cond.methodLink RL 17 yX10_feed) ∈ tw := tb4 205 rfl
theorem w4_206 : (Cond.instanceMethod yX10_feed) ∈ tw := tb4 206 rfl
theorem w4_207 : (Cond.selects RX10 yX10_feed yX10_feed) ∈ tw := tb4 207 rfl
theorem w4_208 : (Cond.code yX10_feed prog_10_method_4_code 6 (some .int)) ∈ tw := tb4 208 rfl
theorem w4_209 : (Cond.constant RX10 59 (65536)) ∈ tw := tb4 209 rfl
theorem w4_210 : (Cond.methodLink RX10 60 yX10_four) ∈ tw := tb4 210 rfl
theorem w4_212 : (Cond.instanceMethod yX10_four) ∈ tw := tb4 212 rfl
theorem w4_213 : (Cond.code yX10_four prog_10_method_3_code 3 (none : Option Jvm.ClassFile.FieldType)) ∈ tw := tb4 213 rfl
theorem w4_214 : (Cond.methodLink RL 22 yX10_end) ∈ tw := tb4 214 rfl
theorem w4_215 : (Cond.instanceMethod yX10_end) ∈ tw := tb4 215 rfl
theorem w4_216 : (Cond.selects RX10 yX10_end yX10_end) ∈ tw := tb4 216 rfl
theorem w4_217 : (Cond.code yX10_end prog_10_method_5_code 2 (some .boolean)) ∈ tw := tb4 217 rfl
theorem w4_218 : (Cond.methodLink RL 26 yX10_install) ∈ tw := tb4 218 rfl
theorem w4_219 : (Cond.instanceMethod yX10_install) ∈ tw := tb4 219 rfl
theorem w4_220 : (Cond.selects RX10 yX10_install yX10_install) ∈ tw := tb4 220 rfl
theorem w4_221 : (Cond.code yX10_install prog_10_method_6_code 9 (some .int)) ∈ tw := tb4 221 rfl
theorem w4_222 : (Cond.methodLink RL 31 yX10_sample) ∈ tw := tb4 222 rfl
theorem w4_223 : (Cond.instanceMethod yX10_sample) ∈ tw := tb4 223 rfl
theorem w4_224 : (Cond.selects RX10 yX10_sample yX10_sample) ∈ tw := tb4 224 rfl
theorem w4_225 : (Cond.code yX10_sample prog_10_method_7_code 2 (some .int)) ∈ tw := tb4 225 rfl
theorem w4_226 : (Cond.methodLink RL 36 yX10_on) ∈ tw := tb4 226 rfl
theorem w4_227 : (Cond.instanceMethod yX10_on) ∈ tw := tb4 227 rfl
theorem w4_228 : (Cond.selects RX10 yX10_on yX10_on) ∈ tw := tb4 228 rfl
theorem w4_229 : (Cond.code yX10_on prog_10_method_11_code 3 (some .boolean)) ∈ tw := tb4 229 rfl
theorem w4_230 : (Cond.methodLink RX10 146 yX10_generation) ∈ tw := tb4 230 rfl
theorem w4_232 : (Cond.instanceMethod yX10_generation) ∈ tw := tb4 232 rfl
theorem w4_233 : (Cond.code yX10_generation prog_10_method_8_code 1 (some .int)) ∈ tw := tb4 233 rfl
theorem w4_234 : (Cond.methodLink RX10 150 yX10_bufferAt) ∈ tw := tb4 234 rfl
theorem w4_236 : (Cond.instanceMethod yX10_bufferAt) ∈ tw := tb4 236 rfl
theorem w4_237 : (Cond.code yX10_bufferAt prog_10_method_9_code 2 (some .int)) ∈ tw := tb4 237 rfl
theorem w4_238 : (Cond.methodLink RX10 170 yX10_forgetEntries) ∈ tw := tb4 238 rfl
theorem w5_0 : (Cond.instanceMethod yX10_forgetEntries) ∈ tw := tb5 0 rfl
theorem w5_1 : (Cond.code yX10_forgetEntries prog_10_method_12_code 2 (none : Option Jvm.ClassFile.FieldType)) ∈ tw := tb5 1 rfl
theorem w5_2 : (Cond.constant RX10 145 (65535)) ∈ tw := tb5 2 rfl
theorem w5_3 : (Cond.methodLink RX10 176 yX10_counting) ∈ tw := tb5 3 rfl
theorem w5_5 : (Cond.instanceMethod yX10_counting) ∈ tw := tb5 5 rfl
theorem w5_6 : (Cond.code yX10_counting prog_10_method_10_code 1 (some .int)) ∈ tw := tb5 6 rfl
theorem w5_7 : (Cond.methodLink RL 40 yX10_cut) ∈ tw := tb5 7 rfl
theorem w5_8 : (Cond.instanceMethod yX10_cut) ∈ tw := tb5 8 rfl
theorem w5_9 : (Cond.selects RX10 yX10_cut yX10_cut) ∈ tw := tb5 9 rfl
theorem w5_10 : (Cond.code yX10_cut prog_10_method_13_code 1 (some .boolean)) ∈ tw := tb5 10 rfl
theorem w5_11 : (Cond.methodLink RL 44 yX10_go) ∈ tw := tb5 11 rfl
theorem w5_12 : (Cond.instanceMethod yX10_go) ∈ tw := tb5 12 rfl
theorem w5_13 : (Cond.selects RX10 yX10_go yX10_go) ∈ tw := tb5 13 rfl
theorem w5_14 : (Cond.code yX10_go prog_10_method_14_code 3 (some .int)) ∈ tw := tb5 14 rfl
theorem w5_15 : (Cond.methodLink RX10 182 yX10_act) ∈ tw := tb5 15 rfl
theorem w5_17 : (Cond.instanceMethod yX10_act) ∈ tw := tb5 17 rfl
theorem w5_18 : (Cond.code yX10_act prog_10_method_16_code 1 (none : Option Jvm.ClassFile.FieldType)) ∈ tw := tb5 18 rfl
theorem w5_19 : (Cond.methodLink RX10 185 yX10_boot) ∈ tw := tb5 19 rfl
theorem w5_21 : (Cond.instanceMethod yX10_boot) ∈ tw := tb5 21 rfl
theorem w5_22 : (Cond.code yX10_boot prog_10_method_17_code 2 (none : Option Jvm.ClassFile.FieldType)) ∈ tw := tb5 22 rfl
theorem w5_23 : (Cond.methodLink RX10 200 yX10_write) ∈ tw := tb5 23 rfl
theorem w5_25 : (Cond.instanceMethod yX10_write) ∈ tw := tb5 25 rfl
theorem w5_26 : (Cond.code yX10_write prog_10_method_15_code 3 (none : Option Jvm.ClassFile.FieldType)) ∈ tw := tb5 26 rfl
theorem w5_27 : (Cond.methodLink RX10 188 yX10_check) ∈ tw := tb5 27 rfl
theorem w5_29 : (Cond.instanceMethod yX10_check) ∈ tw := tb5 29 rfl
theorem w5_30 : (Cond.code yX10_check prog_10_method_21_code 3 (none : Option Jvm.ClassFile.FieldType)) ∈ tw := tb5 30 rfl
theorem w5_31 : (Cond.methodLink RX10 220 yX10_checkWord) ∈ tw := tb5 31 rfl
theorem w5_33 : (Cond.instanceMethod yX10_checkWord) ∈ tw := tb5 33 rfl
theorem w5_34 : (Cond.code yX10_checkWord prog_10_method_20_code 2 (some .int)) ∈ tw := tb5 34 rfl
theorem w5_35 : (Cond.methodLink RX10 191 yX10_log) ∈ tw := tb5 35 rfl
theorem w5_37 : (Cond.instanceMethod yX10_log) ∈ tw := tb5 37 rfl
theorem w5_38 : (Cond.code yX10_log prog_10_method_22_code 4 (none : Option Jvm.ClassFile.FieldType)) ∈ tw := tb5 38 rfl
theorem w5_39 : (Cond.methodLink RX10 216 yX10_perform) ∈ tw := tb5 39 rfl
theorem w5_41 : (Cond.instanceMethod yX10_perform) ∈ tw := tb5 41 rfl
theorem w5_42 : (Cond.code yX10_perform prog_10_method_19_code 1 (none : Option Jvm.ClassFile.FieldType)) ∈ tw := tb5 42 rfl
theorem w5_43 : (Cond.methodLink RX10 219 yX9_perform) ∈ tw := tb5 43 rfl
theorem w5_44 : (Cond.instanceMethod yX9_perform) ∈ tw := tb5 44 rfl
theorem w5_45 : (Cond.selects RX9 yX9_perform yX9_perform) ∈ tw := tb5 45 rfl
theorem w5_46 : (Cond.code yX9_perform prog_12_method_20_code 2 (none : Option Jvm.ClassFile.FieldType)) ∈ tw := tb5 46 rfl
theorem w5_47 : (Cond.methodLink RX9 54 yX9_wordAt) ∈ tw := tb5 47 rfl
theorem w5_48 : (Cond.instanceMethod yX9_wordAt) ∈ tw := tb5 48 rfl
theorem w5_49 : (Cond.selects RX9 yX9_wordAt yX9_wordAt) ∈ tw := tb5 49 rfl
theorem w5_50 : (Cond.code yX9_wordAt prog_12_method_5_code 2 (some .int)) ∈ tw := tb5 50 rfl
theorem w5_51 : (Cond.methodLink RX9 44 yX9_isRam) ∈ tw := tb5 51 rfl
theorem w5_53 : (Cond.instanceMethod yX9_isRam) ∈ tw := tb5 53 rfl
theorem w5_54 : (Cond.code yX9_isRam prog_12_method_4_code 2 (some .boolean)) ∈ tw := tb5 54 rfl
theorem w5_55 : (Cond.constantLong RX9 40 (4294967295)) ∈ tw := tb5 55 rfl
theorem w5_56 : (Cond.constantLong RX9 42 (1073741824)) ∈ tw := tb5 56 rfl
theorem w5_57 : (Cond.methodLink RX9 84 yX9_bits) ∈ tw := tb5 57 rfl
theorem w5_58 : (Cond.static yX9_bits) ∈ tw := tb5 58 rfl
theorem w5_59 : (Cond.code yX9_bits prog_12_method_7_code 3 (some .int)) ∈ tw := tb5 59 rfl
theorem w5_60 : (Cond.methodLink RX10 194 yX10_send) ∈ tw := tb5 60 rfl
theorem w5_62 : (Cond.instanceMethod yX10_send) ∈ tw := tb5 62 rfl
theorem w5_63 : (Cond.code yX10_send prog_10_method_23_code 1 (none : Option Jvm.ClassFile.FieldType)) ∈ tw := tb5 63 rfl
theorem w5_64 : (Cond.methodLink RX10 223 yX9_sendTo) ∈ tw := tb5 64 rfl
theorem w5_65 : (Cond.instanceMethod yX9_sendTo) ∈ tw := tb5 65 rfl
theorem w5_66 : (Cond.selects RX9 yX9_sendTo yX9_sendTo) ∈ tw := tb5 66 rfl
theorem w5_67 : (Cond.code yX9_sendTo prog_12_method_21_code 5 (none : Option Jvm.ClassFile.FieldType)) ∈ tw := tb5 67 rfl
theorem w5_68 : (Cond.methodLink RX9 153 yX9_byteAt) ∈ tw := tb5 68 rfl
theorem w5_69 : (Cond.instanceMethod yX9_byteAt) ∈ tw := tb5 69 rfl
theorem w5_70 : (Cond.selects RX9 yX9_byteAt yX9_byteAt) ∈ tw := tb5 70 rfl
theorem w5_71 : (Cond.code yX9_byteAt prog_12_method_6_code 2 (some .int)) ∈ tw := tb5 71 rfl
theorem w5_72 : (Cond.methodLink RX10 197 yX10_decide) ∈ tw := tb5 72 rfl
theorem w5_74 : (Cond.instanceMethod yX10_decide) ∈ tw := tb5 74 rfl
theorem w5_75 : (Cond.code yX10_decide prog_10_method_18_code 4 (none : Option Jvm.ClassFile.FieldType)) ∈ tw := tb5 75 rfl
theorem w5_76 : (Cond.methodLink RX10 204 yX9_look) ∈ tw := tb5 76 rfl
theorem w5_77 : (Cond.instanceMethod yX9_look) ∈ tw := tb5 77 rfl
theorem w5_78 : (Cond.selects RX9 yX9_look yX9_look) ∈ tw := tb5 78 rfl
theorem w5_79 : (Cond.code yX9_look prog_12_method_8_code 1 (none : Option Jvm.ClassFile.FieldType)) ∈ tw := tb5 79 rfl
theorem w5_80 : (Cond.constantLong RX9 71 (4)) ∈ tw := tb5 80 rfl
theorem w5_81 : (Cond.methodLink RX9 73 yX9_isIn) ∈ tw := tb5 81 rfl
theorem w5_82 : (Cond.instanceMethod yX9_isIn) ∈ tw := tb5 82 rfl
theorem w5_83 : (Cond.selects RX9 yX9_isIn yX9_isIn) ∈ tw := tb5 83 rfl
theorem w5_84 : (Cond.code yX9_isIn prog_12_method_3_code 6 (some .boolean)) ∈ tw := tb5 84 rfl
theorem w5_85 : (Cond.methodLink RX9 80 yX9_decode) ∈ tw := tb5 85 rfl
theorem w5_87 : (Cond.instanceMethod yX9_decode) ∈ tw := tb5 87 rfl
theorem w5_88 : (Cond.code yX9_decode prog_12_method_9_code 7 (none : Option Jvm.ClassFile.FieldType)) ∈ tw := tb5 88 rfl
theorem w5_89 : (Cond.methodLink RX9 88 yX9_gives) ∈ tw := tb5 89 rfl
theorem w5_91 : (Cond.instanceMethod yX9_gives) ∈ tw := tb5 91 rfl
theorem w5_92 : (Cond.code yX9_gives prog_12_method_10_code 2 (none : Option Jvm.ClassFile.FieldType)) ∈ tw := tb5 92 rfl
theorem w5_93 : (Cond.constant RX9 91 (1048576)) ∈ tw := tb5 93 rfl
theorem w5_94 : (Cond.methodLink RX9 92 yX9_goes) ∈ tw := tb5 94 rfl
theorem w5_96 : (Cond.instanceMethod yX9_goes) ∈ tw := tb5 96 rfl
theorem w5_97 : (Cond.code yX9_goes prog_12_method_11_code 2 (none : Option Jvm.ClassFile.FieldType)) ∈ tw := tb5 97 rfl
theorem w5_98 : (Cond.methodLink RX9 95 yX9_branch) ∈ tw := tb5 98 rfl
theorem w5_100 : (Cond.instanceMethod yX9_branch) ∈ tw := tb5 100 rfl
theorem w5_101 : (Cond.code yX9_branch prog_12_method_15_code 6 (none : Option Jvm.ClassFile.FieldType)) ∈ tw := tb5 101 rfl
theorem w5_102 : (Cond.methodLink RX9 120 yX9_isBelow) ∈ tw := tb5 102 rfl
theorem w5_103 : (Cond.static yX9_isBelow) ∈ tw := tb5 103 rfl
theorem w5_104 : (Cond.code yX9_isBelow prog_12_method_12_code 2 (some .boolean)) ∈ tw := tb5 104 rfl
theorem w5_105 : (Cond.methodLink RX9 99 yX9_loads) ∈ tw := tb5 105 rfl
theorem w5_107 : (Cond.instanceMethod yX9_loads) ∈ tw := tb5 107 rfl
theorem w5_108 : (Cond.code yX9_loads prog_12_method_17_code 4 (none : Option Jvm.ClassFile.FieldType)) ∈ tw := tb5 108 rfl
theorem w5_109 : (Cond.methodLink RX9 124 yX9_reaches) ∈ tw := tb5 109 rfl
theorem w5_111 : (Cond.instanceMethod yX9_reaches) ∈ tw := tb5 111 rfl
theorem w5_112 : (Cond.code yX9_reaches prog_12_method_16_code 3 (some .boolean)) ∈ tw := tb5 112 rfl
theorem w5_113 : (Cond.constant RX9 127 (65535)) ∈ tw := tb5 113 rfl
theorem w5_114 : (Cond.methodLink RX9 103 yX9_stores) ∈ tw := tb5 114 rfl
theorem w5_116 : (Cond.instanceMethod yX9_stores) ∈ tw := tb5 116 rfl
theorem w5_117 : (Cond.code yX9_stores prog_12_method_18_code 6 (none : Option Jvm.ClassFile.FieldType)) ∈ tw := tb5 117 rfl
theorem w5_118 : (Cond.methodLink RX9 107 yX9_shifted) ∈ tw := tb5 118 rfl
theorem w5_119 : (Cond.static yX9_shifted) ∈ tw := tb5 119 rfl
theorem w5_120 : (Cond.code yX9_shifted prog_12_method_13_code 4 (some .int)) ∈ tw := tb5 120 rfl
theorem w5_121 : (Cond.methodLink RX9 111 yX9_worked) ∈ tw := tb5 121 rfl
theorem w5_122 : (Cond.static yX9_worked) ∈ tw := tb5 122 rfl
theorem w5_123 : (Cond.code yX9_worked prog_12_method_14_code 3 (some .int)) ∈ tw := tb5 123 rfl
theorem w5_124 : (Cond.methodLink RX9 114 yX9_calls) ∈ tw := tb5 124 rfl
theorem w5_126 : (Cond.instanceMethod yX9_calls) ∈ tw := tb5 126 rfl
theorem w5_127 : (Cond.code yX9_calls prog_12_method_19_code 1 (none : Option Jvm.ClassFile.FieldType)) ∈ tw := tb5 127 rfl
theorem w5_128 : (Cond.methodLink RL 49 yX10_state) ∈ tw := tb5 128 rfl
theorem w5_129 : (Cond.instanceMethod yX10_state) ∈ tw := tb5 129 rfl
theorem w5_130 : (Cond.selects RX10 yX10_state yX10_state) ∈ tw := tb5 130 rfl
theorem w5_131 : (Cond.code yX10_state prog_10_method_24_code 1 (some .int)) ∈ tw := tb5 131 rfl
theorem w5_132 : (Cond.methodLink RL 53 yX10_register) ∈ tw := tb5 132 rfl
theorem w5_133 : (Cond.instanceMethod yX10_register) ∈ tw := tb5 133 rfl
theorem w5_134 : (Cond.selects RX10 yX10_register yX10_register) ∈ tw := tb5 134 rfl
theorem w5_135 : (Cond.code yX10_register prog_10_method_26_code 2 (some .int)) ∈ tw := tb5 135 rfl
theorem w5_136 : (Cond.methodLink RX10 227 yX10_told) ∈ tw := tb5 136 rfl
theorem w5_137 : (Cond.static yX10_told) ∈ tw := tb5 137 rfl
theorem w5_138 : (Cond.code yX10_told prog_10_method_25_code 2 (some .int)) ∈ tw := tb5 138 rfl
theorem w5_139 : (Cond.methodLink RL 57 yX10_ram) ∈ tw := tb5 139 rfl
theorem w5_140 : (Cond.instanceMethod yX10_ram) ∈ tw := tb5 140 rfl
theorem w5_141 : (Cond.selects RX10 yX10_ram yX10_ram) ∈ tw := tb5 141 rfl
theorem w5_142 : (Cond.code yX10_ram prog_10_method_27_code 2 (some .int)) ∈ tw := tb5 142 rfl
theorem w5_143 : (Cond.methodLink RX10 231 yX9_byteAt) ∈ tw := tb5 143 rfl
theorem w5_144 : (Cond.methodLink RL 61 yX10_words) ∈ tw := tb5 144 rfl
theorem w5_145 : (Cond.instanceMethod yX10_words) ∈ tw := tb5 145 rfl
theorem w5_146 : (Cond.selects RX10 yX10_words yX10_words) ∈ tw := tb5 146 rfl
theorem w5_147 : (Cond.code yX10_words prog_10_method_28_code 1 (some .int)) ∈ tw := tb5 147 rfl
theorem w5_148 : (Cond.methodLink RL 65 yX10_word) ∈ tw := tb5 148 rfl
theorem w5_149 : (Cond.instanceMethod yX10_word) ∈ tw := tb5 149 rfl
theorem w5_150 : (Cond.selects RX10 yX10_word yX10_word) ∈ tw := tb5 150 rfl
theorem w5_151 : (Cond.code yX10_word prog_10_method_29_code 2 (some .int)) ∈ tw := tb5 151 rfl
theorem w5_152 : (Cond.methodLink RL 69 yX10_frames) ∈ tw := tb5 152 rfl
theorem w5_153 : (Cond.instanceMethod yX10_frames) ∈ tw := tb5 153 rfl
theorem w5_154 : (Cond.selects RX10 yX10_frames yX10_frames) ∈ tw := tb5 154 rfl
theorem w5_155 : (Cond.code yX10_frames prog_10_method_30_code 1 (some .int)) ∈ tw := tb5 155 rfl
theorem w5_156 : (Cond.methodLink RL 74 yX10_frame) ∈ tw := tb5 156 rfl
theorem w5_157 : (Cond.instanceMethod yX10_frame) ∈ tw := tb5 157 rfl
theorem w5_158 : (Cond.selects RX10 yX10_frame yX10_frame) ∈ tw := tb5 158 rfl
theorem w5_159 : (Cond.code yX10_frame prog_10_method_31_code 3 (some .int)) ∈ tw := tb5 159 rfl
theorem w5_160 : (Cond.methodLink RX10 234 yX8_has) ∈ tw := tb5 160 rfl
theorem w5_161 : (Cond.instanceMethod yX8_has) ∈ tw := tb5 161 rfl
theorem w5_162 : (Cond.selects RX8 yX8_has yX8_has) ∈ tw := tb5 162 rfl
theorem w5_163 : (Cond.code yX8_has prog_11_method_2_code 2 (some .boolean)) ∈ tw := tb5 163 rfl
theorem w5_164 : (Cond.methodLink RL 78 yX10_heard) ∈ tw := tb5 164 rfl
theorem w5_165 : (Cond.instanceMethod yX10_heard) ∈ tw := tb5 165 rfl
theorem w5_166 : (Cond.selects RX10 yX10_heard yX10_heard) ∈ tw := tb5 166 rfl
theorem w5_167 : (Cond.code yX10_heard prog_10_method_32_code 3 (some .int)) ∈ tw := tb5 167 rfl
theorem w5_168 : (Cond.methodLink RX10 247 yX8_at) ∈ tw := tb5 168 rfl
theorem w5_169 : (Cond.instanceMethod yX8_at) ∈ tw := tb5 169 rfl
theorem w5_170 : (Cond.selects RX8 yX8_at yX8_at) ∈ tw := tb5 170 rfl
theorem w5_171 : (Cond.code yX8_at prog_11_method_3_code 3 (some .int)) ∈ tw := tb5 171 rfl
theorem w5_172 : (Cond.methodLink RX8 29 yX8_has) ∈ tw := tb5 172 rfl
theorem w5_173 : (Cond.methodLink RL 82 yX10_count) ∈ tw := tb5 173 rfl
theorem w5_174 : (Cond.instanceMethod yX10_count) ∈ tw := tb5 174 rfl
theorem w5_175 : (Cond.selects RX10 yX10_count yX10_count) ∈ tw := tb5 175 rfl
theorem w5_176 : (Cond.code yX10_count prog_10_method_33_code 2 (some .int)) ∈ tw := tb5 176 rfl
theorem w5_177 : (Cond.methodLink RL 86 yX10_plain) ∈ tw := tb5 177 rfl
theorem w5_178 : (Cond.instanceMethod yX10_plain) ∈ tw := tb5 178 rfl
theorem w5_179 : (Cond.selects RX10 yX10_plain yX10_plain) ∈ tw := tb5 179 rfl
theorem w5_180 : (Cond.code yX10_plain prog_10_method_34_code 3 (some .int)) ∈ tw := tb5 180 rfl
theorem w5_181 : (Cond.methodLink RX10 251 yX9_begin) ∈ tw := tb5 181 rfl
theorem w5_182 : (Cond.instanceMethod yX9_begin) ∈ tw := tb5 182 rfl
theorem w5_183 : (Cond.selects RX9 yX9_begin yX9_begin) ∈ tw := tb5 183 rfl
theorem w5_184 : (Cond.code yX9_begin prog_12_method_2_code 5 (none : Option Jvm.ClassFile.FieldType)) ∈ tw := tb5 184 rfl
theorem w5_185 : (Cond.methodLink RL 90 yX10_plainly) ∈ tw := tb5 185 rfl
theorem w5_186 : (Cond.instanceMethod yX10_plainly) ∈ tw := tb5 186 rfl
theorem w5_187 : (Cond.selects RX10 yX10_plainly yX10_plainly) ∈ tw := tb5 187 rfl
theorem w5_188 : (Cond.code yX10_plainly prog_10_method_35_code 2 (some .int)) ∈ tw := tb5 188 rfl
theorem w5_189 : (Cond.methodLink RL 94 yX10_plainByte) ∈ tw := tb5 189 rfl
theorem w5_190 : (Cond.instanceMethod yX10_plainByte) ∈ tw := tb5 190 rfl
theorem w5_191 : (Cond.selects RX10 yX10_plainByte yX10_plainByte) ∈ tw := tb5 191 rfl
theorem w5_192 : (Cond.code yX10_plainByte prog_10_method_36_code 2 (some .int)) ∈ tw := tb5 192 rfl
theorem w5_193 : (Cond.methodLink RX10 255 yX9_isIn) ∈ tw := tb5 193 rfl
theorem w5_194 : (Cond.methodLink RL 98 yX10_plainFrame) ∈ tw := tb5 194 rfl
theorem w5_195 : (Cond.instanceMethod yX10_plainFrame) ∈ tw := tb5 195 rfl
theorem w5_196 : (Cond.selects RX10 yX10_plainFrame yX10_plainFrame) ∈ tw := tb5 196 rfl
theorem w5_197 : (Cond.code yX10_plainFrame prog_10_method_37_code 2 (some .int)) ∈ tw := tb5 197 rfl
theorem w5_198 : (Cond.methodLink RL 102 yX10_plainHeard) ∈ tw := tb5 198 rfl
theorem w5_199 : (Cond.instanceMethod yX10_plainHeard) ∈ tw := tb5 199 rfl
theorem w5_200 : (Cond.selects RX10 yX10_plainHeard yX10_plainHeard) ∈ tw := tb5 200 rfl
theorem w5_201 : (Cond.code yX10_plainHeard prog_10_method_38_code 3 (some .int)) ∈ tw := tb5 201 rfl
theorem w5_202 : (Cond.methodLink RL 106 yX10_strays) ∈ tw := tb5 202 rfl
theorem w5_203 : (Cond.instanceMethod yX10_strays) ∈ tw := tb5 203 rfl
theorem w5_204 : (Cond.selects RX10 yX10_strays yX10_strays) ∈ tw := tb5 204 rfl
theorem w5_205 : (Cond.code yX10_strays prog_10_method_39_code 1 (some .int)) ∈ tw := tb5 205 rfl
theorem w0_0 : (Cond.selects RX2 yX2_generation yX2_generation) ∈ tw := tb0 0 rfl
theorem w0_1 : (Cond.selects RX2 yX2_bufferStart yX2_bufferStart) ∈ tw := tb0 1 rfl
theorem w0_2 : (Cond.selects RX2 yX2_meetLog yX2_meetLog) ∈ tw := tb0 2 rfl
theorem w0_3 : (Cond.selects RX2 yX2_entriesThatCount yX2_entriesThatCount) ∈ tw := tb0 3 rfl
theorem w0_4 : (Cond.selects RX2 yX2_hasPower yX2_hasPower) ∈ tw := tb0 4 rfl
theorem w0_5 : (Cond.selects RX2 yX2_choose yX2_choose) ∈ tw := tb0 5 rfl
theorem w0_6 : (Cond.selects RX1 yX1_trapOfPlace yX1_trapOfPlace) ∈ tw := tb0 6 rfl
theorem w0_7 : (Cond.selects RX1 yX1_wordAt yX1_wordAt) ∈ tw := tb0 7 rfl
theorem w0_8 : (Cond.selects RX1 yX1_give yX1_give) ∈ tw := tb0 8 rfl
theorem w0_9 : (Cond.selects RX1 yX1_jump yX1_jump) ∈ tw := tb0 9 rfl
theorem w0_10 : (Cond.selects RX1 yX1_branch yX1_branch) ∈ tw := tb0 10 rfl
theorem w0_11 : (Cond.selects RX1 yX1_load yX1_load) ∈ tw := tb0 11 rfl
theorem w0_12 : (Cond.selects RX1 yX1_storeAt yX1_storeAt) ∈ tw := tb0 12 rfl
theorem w0_13 : (Cond.selects RX1 yX1_withNumber yX1_withNumber) ∈ tw := tb0 13 rfl
theorem w0_14 : (Cond.selects RX1 yX1_withRegister yX1_withRegister) ∈ tw := tb0 14 rfl
theorem w0_15 : (Cond.selects RX1 yX1_call yX1_call) ∈ tw := tb0 15 rfl
theorem w0_16 : (Cond.selects RX1 yX1_callToSend yX1_callToSend) ∈ tw := tb0 16 rfl
theorem w0_17 : (Cond.selects RX2 yX2_needsCheckpoint yX2_needsCheckpoint) ∈ tw := tb0 17 rfl
theorem w0_18 : (Cond.selects RX2 yX2_needsEntry yX2_needsEntry) ∈ tw := tb0 18 rfl
theorem w0_19 : (Cond.selects RX2 yX2_boot yX2_boot) ∈ tw := tb0 19 rfl
theorem w0_20 : (Cond.selects RX2 yX2_write yX2_write) ∈ tw := tb0 20 rfl
theorem w0_21 : (Cond.selects RX2 yX2_checkpoint yX2_checkpoint) ∈ tw := tb0 21 rfl
theorem w0_22 : (Cond.selects RX2 yX2_instruct yX2_instruct) ∈ tw := tb0 22 rfl
theorem w0_23 : (Cond.selects RX2 yX2_log yX2_log) ∈ tw := tb0 23 rfl
theorem w0_24 : (Cond.selects RX2 yX2_finish yX2_finish) ∈ tw := tb0 24 rfl
theorem w0_25 : (Cond.selects RX1 yX1_putWord yX1_putWord) ∈ tw := tb0 25 rfl
theorem w0_26 : (Cond.selects RX5 yX5_keeps yX5_keeps) ∈ tw := tb0 26 rfl
theorem w0_27 : (Cond.selects RX3 yX3_begin yX3_begin) ∈ tw := tb0 27 rfl
theorem w0_28 : (Cond.selects RX10 yX10_four yX10_four) ∈ tw := tb0 28 rfl
theorem w0_29 : (Cond.selects RX10 yX10_generation yX10_generation) ∈ tw := tb0 29 rfl
theorem w0_30 : (Cond.selects RX10 yX10_bufferAt yX10_bufferAt) ∈ tw := tb0 30 rfl
theorem w0_31 : (Cond.selects RX10 yX10_forgetEntries yX10_forgetEntries) ∈ tw := tb0 31 rfl
theorem w0_32 : (Cond.selects RX10 yX10_counting yX10_counting) ∈ tw := tb0 32 rfl
theorem w0_33 : (Cond.selects RX10 yX10_act yX10_act) ∈ tw := tb0 33 rfl
theorem w0_34 : (Cond.selects RX10 yX10_boot yX10_boot) ∈ tw := tb0 34 rfl
theorem w0_35 : (Cond.selects RX10 yX10_write yX10_write) ∈ tw := tb0 35 rfl
theorem w0_36 : (Cond.selects RX10 yX10_check yX10_check) ∈ tw := tb0 36 rfl
theorem w0_37 : (Cond.selects RX10 yX10_checkWord yX10_checkWord) ∈ tw := tb0 37 rfl
theorem w0_38 : (Cond.selects RX10 yX10_log yX10_log) ∈ tw := tb0 38 rfl
theorem w0_39 : (Cond.selects RX10 yX10_perform yX10_perform) ∈ tw := tb0 39 rfl
theorem w0_40 : (Cond.selects RX9 yX9_isRam yX9_isRam) ∈ tw := tb0 40 rfl
theorem w0_41 : (Cond.selects RX10 yX10_send yX10_send) ∈ tw := tb0 41 rfl
theorem w0_42 : (Cond.selects RX10 yX10_decide yX10_decide) ∈ tw := tb0 42 rfl
theorem w0_43 : (Cond.selects RX9 yX9_decode yX9_decode) ∈ tw := tb0 43 rfl
theorem w0_44 : (Cond.selects RX9 yX9_gives yX9_gives) ∈ tw := tb0 44 rfl
theorem w0_45 : (Cond.selects RX9 yX9_goes yX9_goes) ∈ tw := tb0 45 rfl
theorem w0_46 : (Cond.selects RX9 yX9_branch yX9_branch) ∈ tw := tb0 46 rfl
theorem w0_47 : (Cond.selects RX9 yX9_loads yX9_loads) ∈ tw := tb0 47 rfl
theorem w0_48 : (Cond.selects RX9 yX9_reaches yX9_reaches) ∈ tw := tb0 48 rfl
theorem w0_49 : (Cond.selects RX9 yX9_stores yX9_stores) ∈ tw := tb0 49 rfl
theorem w0_50 : (Cond.selects RX9 yX9_calls yX9_calls) ∈ tw := tb0 50 rfl
def tnF : List (String × Nat × String × String × String × String) := [("SensorNode", 127, "SensorNode$Plan", "installed", "Z", "SensorNode"), ("SensorNode$Guest", 118, "SensorNode$Plan", "ramBytes", "I", "SensorNode"), ("SensorNode$Node", 60, "SensorNode$Plan", "storeBytes", "I", "SensorNode"), ("SensorNode$Guest", 121, "SensorNode$Plan", "storeBytes", "I", "SensorNode"), ("SensorNode$Node", 54, "SensorNode$Plan", "entries", "I", "SensorNode"), ("SensorNode$Node", 133, "SensorNode$Plan", "interval", "I", "SensorNode"), ("SensorNode$Node", 66, "SensorNode$Plan", "start", "I", "SensorNode"), ("SensorNode$PlainMachine", 75, "SensorNode$Plan", "start", "I", "SensorNode")]
def tnM : List (String × Nat × MethodName × String) := [(RX7, 9, yX6_init, RX7), (RX7, 18, yX4_init, RX7), (RX2, 23, yX5_init, RX7), (RX3, 17, yX5_init, RX7), (RX10, 36, yX8_init, RX10)]
theorem inX0 : ∀ w ∈ wsX00, w ∈ tw := by
  intro w h
  obtain ⟨k, hk, rfl⟩ := List.mem_map.mp h
  have hk := List.mem_range.mp hk
  match k, hk with
  | 0, _ => exact w1_33
  | q + 1, hq => exact absurd hq (by omega)
theorem inX1 : ∀ w ∈ wsX10, w ∈ tw := by
  intro w h
  obtain ⟨k, hk, rfl⟩ := List.mem_map.mp h
  have hk := List.mem_range.mp hk
  match k, hk with
  | 0, _ => exact w1_138
  | 1, _ => exact w1_140
  | 2, _ => exact w1_142
  | 3, _ => exact w1_144
  | 4, _ => exact w1_146
  | 5, _ => exact w1_148
  | 6, _ => exact w1_150
  | 7, _ => exact w1_152
  | 8, _ => exact w1_154
  | 9, _ => exact w1_156
  | q + 10, hq => exact absurd hq (by omega)
theorem inX2 : ∀ w ∈ wsX20, w ∈ tw := by
  intro w h
  obtain ⟨k, hk, rfl⟩ := List.mem_map.mp h
  have hk := List.mem_range.mp hk
  match k, hk with
  | 0, _ => exact w1_174
  | 1, _ => exact w1_176
  | 2, _ => exact w1_178
  | 3, _ => exact w1_180
  | 4, _ => exact w1_182
  | 5, _ => exact w1_184
  | 6, _ => exact w1_186
  | 7, _ => exact w1_188
  | 8, _ => exact w1_190
  | 9, _ => exact w1_192
  | 10, _ => exact w1_194
  | 11, _ => exact w1_196
  | 12, _ => exact w1_198
  | 13, _ => exact w1_200
  | 14, _ => exact w1_202
  | q + 15, hq => exact absurd hq (by omega)
theorem inX3 : ∀ w ∈ wsX30, w ∈ tw := by
  intro w h
  obtain ⟨k, hk, rfl⟩ := List.mem_map.mp h
  have hk := List.mem_range.mp hk
  match k, hk with
  | 0, _ => exact w1_221
  | 1, _ => exact w1_223
  | 2, _ => exact w1_225
  | 3, _ => exact w1_227
  | 4, _ => exact w1_229
  | 5, _ => exact w1_231
  | q + 6, hq => exact absurd hq (by omega)
theorem inX4 : ∀ w ∈ wsX40, w ∈ tw := by
  intro w h
  obtain ⟨k, hk, rfl⟩ := List.mem_map.mp h
  have hk := List.mem_range.mp hk
  match k, hk with
  | 0, _ => exact w1_70
  | 1, _ => exact w1_72
  | 2, _ => exact w1_74
  | 3, _ => exact w1_76
  | 4, _ => exact w1_78
  | 5, _ => exact w1_80
  | 6, _ => exact w1_82
  | 7, _ => exact w1_84
  | 8, _ => exact w1_86
  | q + 9, hq => exact absurd hq (by omega)
theorem inX5 : ∀ w ∈ wsX50, w ∈ tw := by
  intro w h
  obtain ⟨k, hk, rfl⟩ := List.mem_map.mp h
  have hk := List.mem_range.mp hk
  match k, hk with
  | 0, _ => exact w1_109
  | 1, _ => exact w1_111
  | 2, _ => exact w1_113
  | 3, _ => exact w1_115
  | 4, _ => exact w1_117
  | 5, _ => exact w1_119
  | q + 6, hq => exact absurd hq (by omega)
theorem inX6 : ∀ w ∈ wsX60, w ∈ tw := by
  intro w h
  obtain ⟨k, hk, rfl⟩ := List.mem_map.mp h
  have hk := List.mem_range.mp hk
  match k, hk with
  | 0, _ => exact w1_40
  | 1, _ => exact w1_42
  | 2, _ => exact w1_44
  | q + 3, hq => exact absurd hq (by omega)
theorem inX7 : ∀ w ∈ wsX70, w ∈ tw := by
  intro w h
  obtain ⟨k, hk, rfl⟩ := List.mem_map.mp h
  have hk := List.mem_range.mp hk
  match k, hk with
  | 0, _ => exact w1_238
  | 1, _ => exact w2_0
  | 2, _ => exact w2_2
  | 3, _ => exact w2_4
  | q + 4, hq => exact absurd hq (by omega)
theorem inX8 : ∀ w ∈ wsX80, w ∈ tw := by
  intro w h
  obtain ⟨k, hk, rfl⟩ := List.mem_map.mp h
  have hk := List.mem_range.mp hk
  match k, hk with
  | 0, _ => exact w4_83
  | 1, _ => exact w4_85
  | 2, _ => exact w4_87
  | 3, _ => exact w4_89
  | 4, _ => exact w4_91
  | q + 5, hq => exact absurd hq (by omega)
theorem inX9 : ∀ w ∈ wsX90, w ∈ tw := by
  intro w h
  obtain ⟨k, hk, rfl⟩ := List.mem_map.mp h
  have hk := List.mem_range.mp hk
  match k, hk with
  | 0, _ => exact w4_22
  | 1, _ => exact w4_24
  | 2, _ => exact w4_26
  | 3, _ => exact w4_28
  | 4, _ => exact w4_30
  | 5, _ => exact w4_32
  | 6, _ => exact w4_34
  | 7, _ => exact w4_36
  | 8, _ => exact w4_38
  | 9, _ => exact w4_40
  | 10, _ => exact w4_42
  | 11, _ => exact w4_44
  | 12, _ => exact w4_46
  | 13, _ => exact w4_48
  | 14, _ => exact w4_50
  | 15, _ => exact w4_52
  | 16, _ => exact w4_54
  | 17, _ => exact w4_56
  | 18, _ => exact w4_58
  | 19, _ => exact w4_60
  | q + 20, hq => exact absurd hq (by omega)
theorem inX10 : ∀ w ∈ wsX100, w ∈ tw := by
  intro w h
  obtain ⟨k, hk, rfl⟩ := List.mem_map.mp h
  have hk := List.mem_range.mp hk
  match k, hk with
  | 0, _ => exact w4_131
  | 1, _ => exact w4_133
  | 2, _ => exact w4_135
  | 3, _ => exact w4_137
  | 4, _ => exact w4_139
  | 5, _ => exact w4_141
  | 6, _ => exact w4_143
  | 7, _ => exact w4_145
  | 8, _ => exact w4_147
  | 9, _ => exact w4_149
  | 10, _ => exact w4_151
  | 11, _ => exact w4_153
  | 12, _ => exact w4_155
  | 13, _ => exact w4_157
  | 14, _ => exact w4_159
  | 15, _ => exact w4_161
  | 16, _ => exact w4_163
  | 17, _ => exact w4_165
  | 18, _ => exact w4_167
  | 19, _ => exact w4_169
  | 20, _ => exact w4_171
  | 21, _ => exact w4_173
  | 22, _ => exact w4_175
  | 23, _ => exact w4_177
  | 24, _ => exact w4_179
  | 25, _ => exact w4_181
  | 26, _ => exact w4_183
  | 27, _ => exact w4_185
  | 28, _ => exact w4_187
  | 29, _ => exact w4_189
  | 30, _ => exact w4_191
  | 31, _ => exact w4_193
  | 32, _ => exact w4_195
  | 33, _ => exact w4_197
  | 34, _ => exact w4_199
  | 35, _ => exact w4_201
  | q + 36, hq => exact absurd hq (by omega)
end
section
theorem dX0_init_0 : decode cX0_init 0 = .ok (.aload_n 0, 1) := by decide +kernel
theorem dX0_init_1 : decode cX0_init 1 = .ok (.invokespecial 1, 3) := by decide +kernel
theorem dX0_init_4 : decode cX0_init 4 = .ok (.aload_n 0, 1) := by decide +kernel
theorem dX0_init_5 : decode cX0_init 5 = .ok (.iload_n 1, 1) := by decide +kernel
theorem dX0_init_6 : decode cX0_init 6 = .ok (.ifCond .le 11, 3) := by decide +kernel
theorem dX0_init_9 : decode cX0_init 9 = .ok (.iload_n 1, 1) := by decide +kernel
theorem dX0_init_10 : decode cX0_init 10 = .ok (.iconst 3, 1) := by decide +kernel
theorem dX0_init_11 : decode cX0_init 11 = .ok (.iadd, 1) := by decide +kernel
theorem dX0_init_12 : decode cX0_init 12 = .ok (.iconst 4, 1) := by decide +kernel
theorem dX0_init_13 : decode cX0_init 13 = .ok (.idiv, 1) := by decide +kernel
theorem dX0_init_14 : decode cX0_init 14 = .ok (.goto 4, 3) := by decide +kernel
theorem dX0_init_17 : decode cX0_init 17 = .ok (.iconst 0, 1) := by decide +kernel
theorem dX0_init_18 : decode cX0_init 18 = .ok (.newarray .int, 2) := by decide +kernel
theorem dX0_init_20 : decode cX0_init 20 = .ok (.putfield 7, 3) := by decide +kernel
theorem dX0_init_23 : decode cX0_init 23 = .ok (.return_, 1) := by decide +kernel
theorem dX0_get_0 : decode cX0_get 0 = .ok (.iload_n 1, 1) := by decide +kernel
theorem dX0_get_1 : decode cX0_get 1 = .ok (.iconst 2, 1) := by decide +kernel
theorem dX0_get_2 : decode cX0_get 2 = .ok (.ishr, 1) := by decide +kernel
theorem dX0_get_3 : decode cX0_get 3 = .ok (.istore_n 2, 1) := by decide +kernel
theorem dX0_get_4 : decode cX0_get 4 = .ok (.iload_n 2, 1) := by decide +kernel
theorem dX0_get_5 : decode cX0_get 5 = .ok (.ifCond .lt 12, 3) := by decide +kernel
theorem dX0_get_8 : decode cX0_get 8 = .ok (.iload_n 2, 1) := by decide +kernel
theorem dX0_get_9 : decode cX0_get 9 = .ok (.aload_n 0, 1) := by decide +kernel
theorem dX0_get_10 : decode cX0_get 10 = .ok (.getfield 7, 3) := by decide +kernel
theorem dX0_get_13 : decode cX0_get 13 = .ok (.arraylength, 1) := by decide +kernel
theorem dX0_get_14 : decode cX0_get 14 = .ok (.if_icmp .lt 7, 3) := by decide +kernel
theorem dX0_get_17 : decode cX0_get 17 = .ok (.iconst 0, 1) := by decide +kernel
theorem dX0_get_18 : decode cX0_get 18 = .ok (.goto 20, 3) := by decide +kernel
theorem dX0_get_21 : decode cX0_get 21 = .ok (.aload_n 0, 1) := by decide +kernel
theorem dX0_get_22 : decode cX0_get 22 = .ok (.getfield 7, 3) := by decide +kernel
theorem dX0_get_25 : decode cX0_get 25 = .ok (.iload_n 2, 1) := by decide +kernel
theorem dX0_get_26 : decode cX0_get 26 = .ok (.iaload, 1) := by decide +kernel
theorem dX0_get_27 : decode cX0_get 27 = .ok (.bipush 8, 2) := by decide +kernel
theorem dX0_get_29 : decode cX0_get 29 = .ok (.iload_n 1, 1) := by decide +kernel
theorem dX0_get_30 : decode cX0_get 30 = .ok (.iconst 3, 1) := by decide +kernel
theorem dX0_get_31 : decode cX0_get 31 = .ok (.iand, 1) := by decide +kernel
theorem dX0_get_32 : decode cX0_get 32 = .ok (.imul, 1) := by decide +kernel
theorem dX0_get_33 : decode cX0_get 33 = .ok (.iushr, 1) := by decide +kernel
theorem dX0_get_34 : decode cX0_get 34 = .ok (.sipush 255, 3) := by decide +kernel
theorem dX0_get_37 : decode cX0_get 37 = .ok (.iand, 1) := by decide +kernel
theorem dX0_get_38 : decode cX0_get 38 = .ok (.ireturn, 1) := by decide +kernel
theorem dX0_put_0 : decode cX0_put 0 = .ok (.iload_n 1, 1) := by decide +kernel
theorem dX0_put_1 : decode cX0_put 1 = .ok (.iconst 2, 1) := by decide +kernel
theorem dX0_put_2 : decode cX0_put 2 = .ok (.ishr, 1) := by decide +kernel
theorem dX0_put_3 : decode cX0_put 3 = .ok (.istore_n 3, 1) := by decide +kernel
theorem dX0_put_4 : decode cX0_put 4 = .ok (.iload_n 3, 1) := by decide +kernel
theorem dX0_put_5 : decode cX0_put 5 = .ok (.ifCond .lt 50, 3) := by decide +kernel
theorem dX0_put_8 : decode cX0_put 8 = .ok (.iload_n 3, 1) := by decide +kernel
theorem dX0_put_9 : decode cX0_put 9 = .ok (.aload_n 0, 1) := by decide +kernel
theorem dX0_put_10 : decode cX0_put 10 = .ok (.getfield 7, 3) := by decide +kernel
theorem dX0_put_13 : decode cX0_put 13 = .ok (.arraylength, 1) := by decide +kernel
theorem dX0_put_14 : decode cX0_put 14 = .ok (.if_icmp .ge 41, 3) := by decide +kernel
theorem dX0_put_17 : decode cX0_put 17 = .ok (.bipush 8, 2) := by decide +kernel
theorem dX0_put_19 : decode cX0_put 19 = .ok (.iload_n 1, 1) := by decide +kernel
theorem dX0_put_20 : decode cX0_put 20 = .ok (.iconst 3, 1) := by decide +kernel
theorem dX0_put_21 : decode cX0_put 21 = .ok (.iand, 1) := by decide +kernel
theorem dX0_put_22 : decode cX0_put 22 = .ok (.imul, 1) := by decide +kernel
theorem dX0_put_23 : decode cX0_put 23 = .ok (.istore 4, 2) := by decide +kernel
theorem dX0_put_25 : decode cX0_put 25 = .ok (.aload_n 0, 1) := by decide +kernel
theorem dX0_put_26 : decode cX0_put 26 = .ok (.getfield 7, 3) := by decide +kernel
theorem dX0_put_29 : decode cX0_put 29 = .ok (.iload_n 3, 1) := by decide +kernel
theorem dX0_put_30 : decode cX0_put 30 = .ok (.aload_n 0, 1) := by decide +kernel
theorem dX0_put_31 : decode cX0_put 31 = .ok (.getfield 7, 3) := by decide +kernel
theorem dX0_put_34 : decode cX0_put 34 = .ok (.iload_n 3, 1) := by decide +kernel
theorem dX0_put_35 : decode cX0_put 35 = .ok (.iaload, 1) := by decide +kernel
theorem dX0_put_36 : decode cX0_put 36 = .ok (.sipush 255, 3) := by decide +kernel
theorem dX0_put_39 : decode cX0_put 39 = .ok (.iload 4, 2) := by decide +kernel
theorem dX0_put_41 : decode cX0_put 41 = .ok (.ishl, 1) := by decide +kernel
theorem dX0_put_42 : decode cX0_put 42 = .ok (.iconst (-1), 1) := by decide +kernel
theorem dX0_put_43 : decode cX0_put 43 = .ok (.ixor, 1) := by decide +kernel
theorem dX0_put_44 : decode cX0_put 44 = .ok (.iand, 1) := by decide +kernel
theorem dX0_put_45 : decode cX0_put 45 = .ok (.iload_n 2, 1) := by decide +kernel
theorem dX0_put_46 : decode cX0_put 46 = .ok (.sipush 255, 3) := by decide +kernel
theorem dX0_put_49 : decode cX0_put 49 = .ok (.iand, 1) := by decide +kernel
theorem dX0_put_50 : decode cX0_put 50 = .ok (.iload 4, 2) := by decide +kernel
theorem dX0_put_52 : decode cX0_put 52 = .ok (.ishl, 1) := by decide +kernel
theorem dX0_put_53 : decode cX0_put 53 = .ok (.ior, 1) := by decide +kernel
theorem dX0_put_54 : decode cX0_put 54 = .ok (.iastore, 1) := by decide +kernel
theorem dX0_put_55 : decode cX0_put 55 = .ok (.return_, 1) := by decide +kernel
theorem dX1_init_0 : decode cX1_init 0 = .ok (.aload_n 0, 1) := by decide +kernel
theorem dX1_init_1 : decode cX1_init 1 = .ok (.invokespecial 3, 3) := by decide +kernel
theorem dX1_init_4 : decode cX1_init 4 = .ok (.aload_n 0, 1) := by decide +kernel
theorem dX1_init_5 : decode cX1_init 5 = .ok (.bipush 36, 2) := by decide +kernel
theorem dX1_init_7 : decode cX1_init 7 = .ok (.newarray .int, 2) := by decide +kernel
theorem dX1_init_9 : decode cX1_init 9 = .ok (.putfield 9, 3) := by decide +kernel
theorem dX1_init_12 : decode cX1_init 12 = .ok (.aload_n 0, 1) := by decide +kernel
theorem dX1_init_13 : decode cX1_init 13 = .ok (.sipush 1024, 3) := by decide +kernel
theorem dX1_init_16 : decode cX1_init 16 = .ok (.newarray .int, 2) := by decide +kernel
theorem dX1_init_18 : decode cX1_init 18 = .ok (.putfield 15, 3) := by decide +kernel
theorem dX1_init_21 : decode cX1_init 21 = .ok (.aload_n 0, 1) := by decide +kernel
theorem dX1_init_22 : decode cX1_init 22 = .ok (.aload_n 1, 1) := by decide +kernel
theorem dX1_init_23 : decode cX1_init 23 = .ok (.putfield 18, 3) := by decide +kernel
theorem dX1_init_26 : decode cX1_init 26 = .ok (.aload_n 0, 1) := by decide +kernel
theorem dX1_init_27 : decode cX1_init 27 = .ok (.aload_n 2, 1) := by decide +kernel
theorem dX1_init_28 : decode cX1_init 28 = .ok (.putfield 22, 3) := by decide +kernel
theorem dX1_init_31 : decode cX1_init 31 = .ok (.return_, 1) := by decide +kernel
theorem dX1_setStoreStart_0 : decode cX1_setStoreStart 0 = .ok (.aload_n 0, 1) := by decide +kernel
theorem dX1_setStoreStart_1 : decode cX1_setStoreStart 1 = .ok (.iload_n 1, 1) := by decide +kernel
theorem dX1_setStoreStart_2 : decode cX1_setStoreStart 2 = .ok (.putfield 25, 3) := by decide +kernel
theorem dX1_setStoreStart_5 : decode cX1_setStoreStart 5 = .ok (.return_, 1) := by decide +kernel
theorem dX1_owned_0 : decode cX1_owned 0 = .ok (.iload_n 1, 1) := by decide +kernel
theorem dX1_owned_1 : decode cX1_owned 1 = .ok (.ifCond .lt 18, 3) := by decide +kernel
theorem dX1_owned_4 : decode cX1_owned 4 = .ok (.iload_n 1, 1) := by decide +kernel
theorem dX1_owned_5 : decode cX1_owned 5 = .ok (.bipush 36, 2) := by decide +kernel
theorem dX1_owned_7 : decode cX1_owned 7 = .ok (.if_icmp .ge 12, 3) := by decide +kernel
theorem dX1_owned_10 : decode cX1_owned 10 = .ok (.aload_n 0, 1) := by decide +kernel
theorem dX1_owned_11 : decode cX1_owned 11 = .ok (.getfield 9, 3) := by decide +kernel
theorem dX1_owned_14 : decode cX1_owned 14 = .ok (.iload_n 1, 1) := by decide +kernel
theorem dX1_owned_15 : decode cX1_owned 15 = .ok (.iaload, 1) := by decide +kernel
theorem dX1_owned_16 : decode cX1_owned 16 = .ok (.goto 4, 3) := by decide +kernel
theorem dX1_owned_19 : decode cX1_owned 19 = .ok (.iconst 0, 1) := by decide +kernel
theorem dX1_owned_20 : decode cX1_owned 20 = .ok (.ireturn, 1) := by decide +kernel
theorem dX1_saved_0 : decode cX1_saved 0 = .ok (.iload_n 1, 1) := by decide +kernel
theorem dX1_saved_1 : decode cX1_saved 1 = .ok (.bipush 36, 2) := by decide +kernel
theorem dX1_saved_3 : decode cX1_saved 3 = .ok (.isub, 1) := by decide +kernel
theorem dX1_saved_4 : decode cX1_saved 4 = .ok (.istore_n 2, 1) := by decide +kernel
theorem dX1_saved_5 : decode cX1_saved 5 = .ok (.iload_n 2, 1) := by decide +kernel
theorem dX1_saved_6 : decode cX1_saved 6 = .ok (.ifCond .lt 21, 3) := by decide +kernel
theorem dX1_saved_9 : decode cX1_saved 9 = .ok (.iload_n 2, 1) := by decide +kernel
theorem dX1_saved_10 : decode cX1_saved 10 = .ok (.aload_n 0, 1) := by decide +kernel
theorem dX1_saved_11 : decode cX1_saved 11 = .ok (.getfield 15, 3) := by decide +kernel
theorem dX1_saved_14 : decode cX1_saved 14 = .ok (.arraylength, 1) := by decide +kernel
theorem dX1_saved_15 : decode cX1_saved 15 = .ok (.if_icmp .ge 12, 3) := by decide +kernel
theorem dX1_saved_18 : decode cX1_saved 18 = .ok (.aload_n 0, 1) := by decide +kernel
theorem dX1_saved_19 : decode cX1_saved 19 = .ok (.getfield 15, 3) := by decide +kernel
theorem dX1_saved_22 : decode cX1_saved 22 = .ok (.iload_n 2, 1) := by decide +kernel
theorem dX1_saved_23 : decode cX1_saved 23 = .ok (.iaload, 1) := by decide +kernel
theorem dX1_saved_24 : decode cX1_saved 24 = .ok (.goto 8, 3) := by decide +kernel
theorem dX1_saved_27 : decode cX1_saved 27 = .ok (.aload_n 0, 1) := by decide +kernel
theorem dX1_saved_28 : decode cX1_saved 28 = .ok (.iload_n 1, 1) := by decide +kernel
theorem dX1_saved_29 : decode cX1_saved 29 = .ok (.invokevirtual 29, 3) := by decide +kernel
theorem dX1_saved_32 : decode cX1_saved 32 = .ok (.ireturn, 1) := by decide +kernel
theorem dX1_restore_0 : decode cX1_restore 0 = .ok (.iload_n 1, 1) := by decide +kernel
theorem dX1_restore_1 : decode cX1_restore 1 = .ok (.bipush 36, 2) := by decide +kernel
theorem dX1_restore_3 : decode cX1_restore 3 = .ok (.isub, 1) := by decide +kernel
theorem dX1_restore_4 : decode cX1_restore 4 = .ok (.istore_n 3, 1) := by decide +kernel
theorem dX1_restore_5 : decode cX1_restore 5 = .ok (.iload_n 1, 1) := by decide +kernel
theorem dX1_restore_6 : decode cX1_restore 6 = .ok (.ifCond .lt 19, 3) := by decide +kernel
theorem dX1_restore_9 : decode cX1_restore 9 = .ok (.iload_n 1, 1) := by decide +kernel
theorem dX1_restore_10 : decode cX1_restore 10 = .ok (.bipush 36, 2) := by decide +kernel
theorem dX1_restore_12 : decode cX1_restore 12 = .ok (.if_icmp .ge 13, 3) := by decide +kernel
theorem dX1_restore_15 : decode cX1_restore 15 = .ok (.aload_n 0, 1) := by decide +kernel
theorem dX1_restore_16 : decode cX1_restore 16 = .ok (.getfield 9, 3) := by decide +kernel
theorem dX1_restore_19 : decode cX1_restore 19 = .ok (.iload_n 1, 1) := by decide +kernel
theorem dX1_restore_20 : decode cX1_restore 20 = .ok (.iload_n 2, 1) := by decide +kernel
theorem dX1_restore_21 : decode cX1_restore 21 = .ok (.iastore, 1) := by decide +kernel
theorem dX1_restore_22 : decode cX1_restore 22 = .ok (.goto 23, 3) := by decide +kernel
theorem dX1_restore_25 : decode cX1_restore 25 = .ok (.iload_n 3, 1) := by decide +kernel
theorem dX1_restore_26 : decode cX1_restore 26 = .ok (.ifCond .lt 19, 3) := by decide +kernel
theorem dX1_restore_29 : decode cX1_restore 29 = .ok (.iload_n 3, 1) := by decide +kernel
theorem dX1_restore_30 : decode cX1_restore 30 = .ok (.aload_n 0, 1) := by decide +kernel
theorem dX1_restore_31 : decode cX1_restore 31 = .ok (.getfield 15, 3) := by decide +kernel
theorem dX1_restore_34 : decode cX1_restore 34 = .ok (.arraylength, 1) := by decide +kernel
theorem dX1_restore_35 : decode cX1_restore 35 = .ok (.if_icmp .ge 10, 3) := by decide +kernel
theorem dX1_restore_38 : decode cX1_restore 38 = .ok (.aload_n 0, 1) := by decide +kernel
theorem dX1_restore_39 : decode cX1_restore 39 = .ok (.getfield 15, 3) := by decide +kernel
theorem dX1_restore_42 : decode cX1_restore 42 = .ok (.iload_n 3, 1) := by decide +kernel
theorem dX1_restore_43 : decode cX1_restore 43 = .ok (.iload_n 2, 1) := by decide +kernel
theorem dX1_restore_44 : decode cX1_restore 44 = .ok (.iastore, 1) := by decide +kernel
theorem dX1_restore_45 : decode cX1_restore 45 = .ok (.return_, 1) := by decide +kernel
theorem dX1_look_0 : decode cX1_look 0 = .ok (.aload_n 0, 1) := by decide +kernel
theorem dX1_look_1 : decode cX1_look 1 = .ok (.getfield 9, 3) := by decide +kernel
theorem dX1_look_4 : decode cX1_look 4 = .ok (.bipush 32, 2) := by decide +kernel
theorem dX1_look_6 : decode cX1_look 6 = .ok (.iaload, 1) := by decide +kernel
theorem dX1_look_7 : decode cX1_look 7 = .ok (.istore_n 1, 1) := by decide +kernel
theorem dX1_look_8 : decode cX1_look 8 = .ok (.aload_n 0, 1) := by decide +kernel
theorem dX1_look_9 : decode cX1_look 9 = .ok (.iconst 0, 1) := by decide +kernel
theorem dX1_look_10 : decode cX1_look 10 = .ok (.putfield 33, 3) := by decide +kernel
theorem dX1_look_13 : decode cX1_look 13 = .ok (.aload_n 0, 1) := by decide +kernel
theorem dX1_look_14 : decode cX1_look 14 = .ok (.iconst 0, 1) := by decide +kernel
theorem dX1_look_15 : decode cX1_look 15 = .ok (.putfield 36, 3) := by decide +kernel
theorem dX1_look_18 : decode cX1_look 18 = .ok (.aload_n 0, 1) := by decide +kernel
theorem dX1_look_19 : decode cX1_look 19 = .ok (.iconst 0, 1) := by decide +kernel
theorem dX1_look_20 : decode cX1_look 20 = .ok (.putfield 39, 3) := by decide +kernel
theorem dX1_look_23 : decode cX1_look 23 = .ok (.aload_n 0, 1) := by decide +kernel
theorem dX1_look_24 : decode cX1_look 24 = .ok (.iload_n 1, 1) := by decide +kernel
theorem dX1_look_25 : decode cX1_look 25 = .ok (.iconst 4, 1) := by decide +kernel
theorem dX1_look_26 : decode cX1_look 26 = .ok (.iadd, 1) := by decide +kernel
theorem dX1_look_27 : decode cX1_look 27 = .ok (.putfield 42, 3) := by decide +kernel
theorem dX1_look_30 : decode cX1_look 30 = .ok (.aload_n 0, 1) := by decide +kernel
theorem dX1_look_31 : decode cX1_look 31 = .ok (.iload_n 1, 1) := by decide +kernel
theorem dX1_look_32 : decode cX1_look 32 = .ok (.iconst 4, 1) := by decide +kernel
theorem dX1_look_33 : decode cX1_look 33 = .ok (.invokevirtual 45, 3) := by decide +kernel
theorem dX1_look_36 : decode cX1_look 36 = .ok (.istore_n 2, 1) := by decide +kernel
theorem dX1_look_37 : decode cX1_look 37 = .ok (.iload_n 2, 1) := by decide +kernel
theorem dX1_look_38 : decode cX1_look 38 = .ok (.ifCond .eq 5, 3) := by decide +kernel
theorem dX1_look_41 : decode cX1_look 41 = .ok (.iload_n 2, 1) := by decide +kernel
theorem dX1_look_42 : decode cX1_look 42 = .ok (.ireturn, 1) := by decide +kernel
theorem dX1_look_43 : decode cX1_look 43 = .ok (.aload_n 0, 1) := by decide +kernel
theorem dX1_look_44 : decode cX1_look 44 = .ok (.iload_n 1, 1) := by decide +kernel
theorem dX1_look_45 : decode cX1_look 45 = .ok (.invokevirtual 49, 3) := by decide +kernel
theorem dX1_look_48 : decode cX1_look 48 = .ok (.istore_n 3, 1) := by decide +kernel
theorem dX1_look_49 : decode cX1_look 49 = .ok (.aload_n 0, 1) := by decide +kernel
theorem dX1_look_50 : decode cX1_look 50 = .ok (.getfield 9, 3) := by decide +kernel
theorem dX1_look_53 : decode cX1_look 53 = .ok (.iload_n 3, 1) := by decide +kernel
theorem dX1_look_54 : decode cX1_look 54 = .ok (.bipush 15, 2) := by decide +kernel
theorem dX1_look_56 : decode cX1_look 56 = .ok (.iushr, 1) := by decide +kernel
theorem dX1_look_57 : decode cX1_look 57 = .ok (.bipush 31, 2) := by decide +kernel
theorem dX1_look_59 : decode cX1_look 59 = .ok (.iand, 1) := by decide +kernel
theorem dX1_look_60 : decode cX1_look 60 = .ok (.iaload, 1) := by decide +kernel
theorem dX1_look_61 : decode cX1_look 61 = .ok (.istore 4, 2) := by decide +kernel
theorem dX1_look_63 : decode cX1_look 63 = .ok (.aload_n 0, 1) := by decide +kernel
theorem dX1_look_64 : decode cX1_look 64 = .ok (.getfield 9, 3) := by decide +kernel
theorem dX1_look_67 : decode cX1_look 67 = .ok (.iload_n 3, 1) := by decide +kernel
theorem dX1_look_68 : decode cX1_look 68 = .ok (.bipush 20, 2) := by decide +kernel
theorem dX1_look_70 : decode cX1_look 70 = .ok (.iushr, 1) := by decide +kernel
theorem dX1_look_71 : decode cX1_look 71 = .ok (.bipush 31, 2) := by decide +kernel
theorem dX1_look_73 : decode cX1_look 73 = .ok (.iand, 1) := by decide +kernel
theorem dX1_look_74 : decode cX1_look 74 = .ok (.iaload, 1) := by decide +kernel
theorem dX1_look_75 : decode cX1_look 75 = .ok (.istore 5, 2) := by decide +kernel
theorem dX1_look_77 : decode cX1_look 77 = .ok (.iload_n 3, 1) := by decide +kernel
theorem dX1_look_78 : decode cX1_look 78 = .ok (.bipush 12, 2) := by decide +kernel
theorem dX1_look_80 : decode cX1_look 80 = .ok (.iushr, 1) := by decide +kernel
theorem dX1_look_81 : decode cX1_look 81 = .ok (.bipush 7, 2) := by decide +kernel
theorem dX1_look_83 : decode cX1_look 83 = .ok (.iand, 1) := by decide +kernel
theorem dX1_look_84 : decode cX1_look 84 = .ok (.istore 6, 2) := by decide +kernel
theorem dX1_look_86 : decode cX1_look 86 = .ok (.iload_n 3, 1) := by decide +kernel
theorem dX1_look_87 : decode cX1_look 87 = .ok (.bipush 20, 2) := by decide +kernel
theorem dX1_look_89 : decode cX1_look 89 = .ok (.ishr, 1) := by decide +kernel
theorem dX1_look_90 : decode cX1_look 90 = .ok (.istore 7, 2) := by decide +kernel
theorem dX1_look_92 : decode cX1_look 92 = .ok (.aload_n 0, 1) := by decide +kernel
theorem dX1_look_93 : decode cX1_look 93 = .ok (.iload_n 3, 1) := by decide +kernel
theorem dX1_look_94 : decode cX1_look 94 = .ok (.bipush 7, 2) := by decide +kernel
theorem dX1_look_96 : decode cX1_look 96 = .ok (.iushr, 1) := by decide +kernel
theorem dX1_look_97 : decode cX1_look 97 = .ok (.bipush 31, 2) := by decide +kernel
theorem dX1_look_99 : decode cX1_look 99 = .ok (.iand, 1) := by decide +kernel
theorem dX1_look_100 : decode cX1_look 100 = .ok (.putfield 36, 3) := by decide +kernel
theorem dX1_look_103 : decode cX1_look 103 = .ok (.iload_n 3, 1) := by decide +kernel
theorem dX1_look_104 : decode cX1_look 104 = .ok (.bipush 127, 2) := by decide +kernel
theorem dX1_look_106 : decode cX1_look 106 = .ok (.iand, 1) := by decide +kernel
theorem dX1_look_107 : decode cX1_look 107 = .ok (.lookupswitch 287 #[(3, 181), (15, 254), (19, 224), (23, 107), (35, 193), (51, 239), (55, 97), (99, 159), (103, 133), (111, 119), (115, 271)], 97) := by decide +kernel
theorem dX1_look_204 : decode cX1_look 204 = .ok (.aload_n 0, 1) := by decide +kernel
theorem dX1_look_205 : decode cX1_look 205 = .ok (.iload_n 3, 1) := by decide +kernel
theorem dX1_look_206 : decode cX1_look 206 = .ok (.sipush (-4096), 3) := by decide +kernel
theorem dX1_look_209 : decode cX1_look 209 = .ok (.iand, 1) := by decide +kernel
theorem dX1_look_210 : decode cX1_look 210 = .ok (.invokevirtual 52, 3) := by decide +kernel
theorem dX1_look_213 : decode cX1_look 213 = .ok (.ireturn, 1) := by decide +kernel
theorem dX1_look_214 : decode cX1_look 214 = .ok (.aload_n 0, 1) := by decide +kernel
theorem dX1_look_215 : decode cX1_look 215 = .ok (.iload_n 1, 1) := by decide +kernel
theorem dX1_look_216 : decode cX1_look 216 = .ok (.iload_n 3, 1) := by decide +kernel
theorem dX1_look_217 : decode cX1_look 217 = .ok (.sipush (-4096), 3) := by decide +kernel
theorem dX1_look_220 : decode cX1_look 220 = .ok (.iand, 1) := by decide +kernel
theorem dX1_look_221 : decode cX1_look 221 = .ok (.iadd, 1) := by decide +kernel
theorem dX1_look_222 : decode cX1_look 222 = .ok (.invokevirtual 52, 3) := by decide +kernel
theorem dX1_look_225 : decode cX1_look 225 = .ok (.ireturn, 1) := by decide +kernel
theorem dX1_look_226 : decode cX1_look 226 = .ok (.aload_n 0, 1) := by decide +kernel
theorem dX1_look_227 : decode cX1_look 227 = .ok (.iload_n 1, 1) := by decide +kernel
theorem dX1_look_228 : decode cX1_look 228 = .ok (.iload_n 3, 1) := by decide +kernel
theorem dX1_look_229 : decode cX1_look 229 = .ok (.invokestatic 55, 3) := by decide +kernel
theorem dX1_look_232 : decode cX1_look 232 = .ok (.iadd, 1) := by decide +kernel
theorem dX1_look_233 : decode cX1_look 233 = .ok (.iload_n 1, 1) := by decide +kernel
theorem dX1_look_234 : decode cX1_look 234 = .ok (.iconst 4, 1) := by decide +kernel
theorem dX1_look_235 : decode cX1_look 235 = .ok (.iadd, 1) := by decide +kernel
theorem dX1_look_236 : decode cX1_look 236 = .ok (.invokevirtual 58, 3) := by decide +kernel
theorem dX1_look_239 : decode cX1_look 239 = .ok (.ireturn, 1) := by decide +kernel
theorem dX1_look_240 : decode cX1_look 240 = .ok (.iload 6, 2) := by decide +kernel
theorem dX1_look_242 : decode cX1_look 242 = .ok (.ifCond .ne 21, 3) := by decide +kernel
theorem dX1_look_245 : decode cX1_look 245 = .ok (.aload_n 0, 1) := by decide +kernel
theorem dX1_look_246 : decode cX1_look 246 = .ok (.iload 4, 2) := by decide +kernel
theorem dX1_look_248 : decode cX1_look 248 = .ok (.iload 7, 2) := by decide +kernel
theorem dX1_look_250 : decode cX1_look 250 = .ok (.iadd, 1) := by decide +kernel
theorem dX1_look_251 : decode cX1_look 251 = .ok (.bipush (-2), 2) := by decide +kernel
theorem dX1_look_253 : decode cX1_look 253 = .ok (.iand, 1) := by decide +kernel
theorem dX1_look_254 : decode cX1_look 254 = .ok (.iload_n 1, 1) := by decide +kernel
theorem dX1_look_255 : decode cX1_look 255 = .ok (.iconst 4, 1) := by decide +kernel
theorem dX1_look_256 : decode cX1_look 256 = .ok (.iadd, 1) := by decide +kernel
theorem dX1_look_257 : decode cX1_look 257 = .ok (.invokevirtual 58, 3) := by decide +kernel
theorem dX1_look_260 : decode cX1_look 260 = .ok (.goto 5, 3) := by decide +kernel
theorem dX1_look_263 : decode cX1_look 263 = .ok (.bipush 11, 2) := by decide +kernel
theorem dX1_look_265 : decode cX1_look 265 = .ok (.ireturn, 1) := by decide +kernel
theorem dX1_look_266 : decode cX1_look 266 = .ok (.aload_n 0, 1) := by decide +kernel
theorem dX1_look_267 : decode cX1_look 267 = .ok (.iconst 0, 1) := by decide +kernel
theorem dX1_look_268 : decode cX1_look 268 = .ok (.putfield 36, 3) := by decide +kernel
theorem dX1_look_271 : decode cX1_look 271 = .ok (.aload_n 0, 1) := by decide +kernel
theorem dX1_look_272 : decode cX1_look 272 = .ok (.iload 6, 2) := by decide +kernel
theorem dX1_look_274 : decode cX1_look 274 = .ok (.iload 4, 2) := by decide +kernel
theorem dX1_look_276 : decode cX1_look 276 = .ok (.iload 5, 2) := by decide +kernel
theorem dX1_look_278 : decode cX1_look 278 = .ok (.iload_n 1, 1) := by decide +kernel
theorem dX1_look_279 : decode cX1_look 279 = .ok (.iload_n 3, 1) := by decide +kernel
theorem dX1_look_280 : decode cX1_look 280 = .ok (.invokestatic 61, 3) := by decide +kernel
theorem dX1_look_283 : decode cX1_look 283 = .ok (.iadd, 1) := by decide +kernel
theorem dX1_look_284 : decode cX1_look 284 = .ok (.invokevirtual 64, 3) := by decide +kernel
theorem dX1_look_287 : decode cX1_look 287 = .ok (.ireturn, 1) := by decide +kernel
theorem dX1_look_288 : decode cX1_look 288 = .ok (.aload_n 0, 1) := by decide +kernel
theorem dX1_look_289 : decode cX1_look 289 = .ok (.iload 6, 2) := by decide +kernel
theorem dX1_look_291 : decode cX1_look 291 = .ok (.iload 4, 2) := by decide +kernel
theorem dX1_look_293 : decode cX1_look 293 = .ok (.iload 7, 2) := by decide +kernel
theorem dX1_look_295 : decode cX1_look 295 = .ok (.iadd, 1) := by decide +kernel
theorem dX1_look_296 : decode cX1_look 296 = .ok (.invokevirtual 68, 3) := by decide +kernel
theorem dX1_look_299 : decode cX1_look 299 = .ok (.ireturn, 1) := by decide +kernel
theorem dX1_look_300 : decode cX1_look 300 = .ok (.aload_n 0, 1) := by decide +kernel
theorem dX1_look_301 : decode cX1_look 301 = .ok (.iconst 0, 1) := by decide +kernel
theorem dX1_look_302 : decode cX1_look 302 = .ok (.putfield 36, 3) := by decide +kernel
theorem dX1_look_305 : decode cX1_look 305 = .ok (.aload_n 0, 1) := by decide +kernel
theorem dX1_look_306 : decode cX1_look 306 = .ok (.iload 6, 2) := by decide +kernel
theorem dX1_look_308 : decode cX1_look 308 = .ok (.iload 4, 2) := by decide +kernel
theorem dX1_look_310 : decode cX1_look 310 = .ok (.iload_n 3, 1) := by decide +kernel
theorem dX1_look_311 : decode cX1_look 311 = .ok (.bipush 25, 2) := by decide +kernel
theorem dX1_look_313 : decode cX1_look 313 = .ok (.ishr, 1) := by decide +kernel
theorem dX1_look_314 : decode cX1_look 314 = .ok (.iconst 5, 1) := by decide +kernel
theorem dX1_look_315 : decode cX1_look 315 = .ok (.ishl, 1) := by decide +kernel
theorem dX1_look_316 : decode cX1_look 316 = .ok (.iload_n 3, 1) := by decide +kernel
theorem dX1_look_317 : decode cX1_look 317 = .ok (.bipush 7, 2) := by decide +kernel
theorem dX1_look_319 : decode cX1_look 319 = .ok (.iushr, 1) := by decide +kernel
theorem dX1_look_320 : decode cX1_look 320 = .ok (.bipush 31, 2) := by decide +kernel
theorem dX1_look_322 : decode cX1_look 322 = .ok (.iand, 1) := by decide +kernel
theorem dX1_look_323 : decode cX1_look 323 = .ok (.ior, 1) := by decide +kernel
theorem dX1_look_324 : decode cX1_look 324 = .ok (.iadd, 1) := by decide +kernel
theorem dX1_look_325 : decode cX1_look 325 = .ok (.iload 5, 2) := by decide +kernel
theorem dX1_look_327 : decode cX1_look 327 = .ok (.invokevirtual 71, 3) := by decide +kernel
theorem dX1_look_330 : decode cX1_look 330 = .ok (.ireturn, 1) := by decide +kernel
theorem dX1_look_331 : decode cX1_look 331 = .ok (.aload_n 0, 1) := by decide +kernel
theorem dX1_look_332 : decode cX1_look 332 = .ok (.iload 6, 2) := by decide +kernel
theorem dX1_look_334 : decode cX1_look 334 = .ok (.iload_n 3, 1) := by decide +kernel
theorem dX1_look_335 : decode cX1_look 335 = .ok (.bipush 25, 2) := by decide +kernel
theorem dX1_look_337 : decode cX1_look 337 = .ok (.iushr, 1) := by decide +kernel
theorem dX1_look_338 : decode cX1_look 338 = .ok (.iload 4, 2) := by decide +kernel
theorem dX1_look_340 : decode cX1_look 340 = .ok (.iload 7, 2) := by decide +kernel
theorem dX1_look_342 : decode cX1_look 342 = .ok (.invokevirtual 75, 3) := by decide +kernel
theorem dX1_look_345 : decode cX1_look 345 = .ok (.ireturn, 1) := by decide +kernel
theorem dX1_look_346 : decode cX1_look 346 = .ok (.aload_n 0, 1) := by decide +kernel
theorem dX1_look_347 : decode cX1_look 347 = .ok (.iload 6, 2) := by decide +kernel
theorem dX1_look_349 : decode cX1_look 349 = .ok (.iload_n 3, 1) := by decide +kernel
theorem dX1_look_350 : decode cX1_look 350 = .ok (.bipush 25, 2) := by decide +kernel
theorem dX1_look_352 : decode cX1_look 352 = .ok (.iushr, 1) := by decide +kernel
theorem dX1_look_353 : decode cX1_look 353 = .ok (.iload 4, 2) := by decide +kernel
theorem dX1_look_355 : decode cX1_look 355 = .ok (.iload 5, 2) := by decide +kernel
theorem dX1_look_357 : decode cX1_look 357 = .ok (.invokevirtual 78, 3) := by decide +kernel
theorem dX1_look_360 : decode cX1_look 360 = .ok (.ireturn, 1) := by decide +kernel
theorem dX1_look_361 : decode cX1_look 361 = .ok (.aload_n 0, 1) := by decide +kernel
theorem dX1_look_362 : decode cX1_look 362 = .ok (.iconst 0, 1) := by decide +kernel
theorem dX1_look_363 : decode cX1_look 363 = .ok (.putfield 36, 3) := by decide +kernel
theorem dX1_look_366 : decode cX1_look 366 = .ok (.iload 6, 2) := by decide +kernel
theorem dX1_look_368 : decode cX1_look 368 = .ok (.ifCond .ne 7, 3) := by decide +kernel
theorem dX1_look_371 : decode cX1_look 371 = .ok (.iconst 0, 1) := by decide +kernel
theorem dX1_look_372 : decode cX1_look 372 = .ok (.goto 5, 3) := by decide +kernel
theorem dX1_look_375 : decode cX1_look 375 = .ok (.bipush 11, 2) := by decide +kernel
theorem dX1_look_377 : decode cX1_look 377 = .ok (.ireturn, 1) := by decide +kernel
theorem dX1_look_378 : decode cX1_look 378 = .ok (.iload_n 3, 1) := by decide +kernel
theorem dX1_look_379 : decode cX1_look 379 = .ok (.bipush 115, 2) := by decide +kernel
theorem dX1_look_381 : decode cX1_look 381 = .ok (.if_icmp .ne 10, 3) := by decide +kernel
theorem dX1_look_384 : decode cX1_look 384 = .ok (.aload_n 0, 1) := by decide +kernel
theorem dX1_look_385 : decode cX1_look 385 = .ok (.invokevirtual 81, 3) := by decide +kernel
theorem dX1_look_388 : decode cX1_look 388 = .ok (.goto 5, 3) := by decide +kernel
theorem dX1_look_391 : decode cX1_look 391 = .ok (.bipush 11, 2) := by decide +kernel
theorem dX1_look_393 : decode cX1_look 393 = .ok (.ireturn, 1) := by decide +kernel
theorem dX1_look_394 : decode cX1_look 394 = .ok (.bipush 11, 2) := by decide +kernel
theorem dX1_look_396 : decode cX1_look 396 = .ok (.ireturn, 1) := by decide +kernel
theorem dX1_jumpOffset_0 : decode cX1_jumpOffset 0 = .ok (.iload_n 0, 1) := by decide +kernel
theorem dX1_jumpOffset_1 : decode cX1_jumpOffset 1 = .ok (.bipush 31, 2) := by decide +kernel
theorem dX1_jumpOffset_3 : decode cX1_jumpOffset 3 = .ok (.ishr, 1) := by decide +kernel
theorem dX1_jumpOffset_4 : decode cX1_jumpOffset 4 = .ok (.bipush 20, 2) := by decide +kernel
theorem dX1_jumpOffset_6 : decode cX1_jumpOffset 6 = .ok (.ishl, 1) := by decide +kernel
theorem dX1_jumpOffset_7 : decode cX1_jumpOffset 7 = .ok (.iload_n 0, 1) := by decide +kernel
theorem dX1_jumpOffset_8 : decode cX1_jumpOffset 8 = .ok (.ldc 85, 2) := by decide +kernel
theorem dX1_jumpOffset_10 : decode cX1_jumpOffset 10 = .ok (.iand, 1) := by decide +kernel
theorem dX1_jumpOffset_11 : decode cX1_jumpOffset 11 = .ok (.ior, 1) := by decide +kernel
theorem dX1_jumpOffset_12 : decode cX1_jumpOffset 12 = .ok (.iload_n 0, 1) := by decide +kernel
theorem dX1_jumpOffset_13 : decode cX1_jumpOffset 13 = .ok (.bipush 9, 2) := by decide +kernel
theorem dX1_jumpOffset_15 : decode cX1_jumpOffset 15 = .ok (.iushr, 1) := by decide +kernel
theorem dX1_jumpOffset_16 : decode cX1_jumpOffset 16 = .ok (.sipush 2048, 3) := by decide +kernel
theorem dX1_jumpOffset_19 : decode cX1_jumpOffset 19 = .ok (.iand, 1) := by decide +kernel
theorem dX1_jumpOffset_20 : decode cX1_jumpOffset 20 = .ok (.ior, 1) := by decide +kernel
theorem dX1_jumpOffset_21 : decode cX1_jumpOffset 21 = .ok (.iload_n 0, 1) := by decide +kernel
theorem dX1_jumpOffset_22 : decode cX1_jumpOffset 22 = .ok (.bipush 20, 2) := by decide +kernel
theorem dX1_jumpOffset_24 : decode cX1_jumpOffset 24 = .ok (.iushr, 1) := by decide +kernel
theorem dX1_jumpOffset_25 : decode cX1_jumpOffset 25 = .ok (.sipush 2046, 3) := by decide +kernel
theorem dX1_jumpOffset_28 : decode cX1_jumpOffset 28 = .ok (.iand, 1) := by decide +kernel
theorem dX1_jumpOffset_29 : decode cX1_jumpOffset 29 = .ok (.ior, 1) := by decide +kernel
theorem dX1_jumpOffset_30 : decode cX1_jumpOffset 30 = .ok (.ireturn, 1) := by decide +kernel
theorem dX1_branchOffset_0 : decode cX1_branchOffset 0 = .ok (.iload_n 0, 1) := by decide +kernel
theorem dX1_branchOffset_1 : decode cX1_branchOffset 1 = .ok (.bipush 31, 2) := by decide +kernel
theorem dX1_branchOffset_3 : decode cX1_branchOffset 3 = .ok (.ishr, 1) := by decide +kernel
theorem dX1_branchOffset_4 : decode cX1_branchOffset 4 = .ok (.bipush 12, 2) := by decide +kernel
theorem dX1_branchOffset_6 : decode cX1_branchOffset 6 = .ok (.ishl, 1) := by decide +kernel
theorem dX1_branchOffset_7 : decode cX1_branchOffset 7 = .ok (.iload_n 0, 1) := by decide +kernel
theorem dX1_branchOffset_8 : decode cX1_branchOffset 8 = .ok (.iconst 4, 1) := by decide +kernel
theorem dX1_branchOffset_9 : decode cX1_branchOffset 9 = .ok (.ishl, 1) := by decide +kernel
theorem dX1_branchOffset_10 : decode cX1_branchOffset 10 = .ok (.sipush 2048, 3) := by decide +kernel
theorem dX1_branchOffset_13 : decode cX1_branchOffset 13 = .ok (.iand, 1) := by decide +kernel
theorem dX1_branchOffset_14 : decode cX1_branchOffset 14 = .ok (.ior, 1) := by decide +kernel
theorem dX1_branchOffset_15 : decode cX1_branchOffset 15 = .ok (.iload_n 0, 1) := by decide +kernel
theorem dX1_branchOffset_16 : decode cX1_branchOffset 16 = .ok (.bipush 20, 2) := by decide +kernel
theorem dX1_branchOffset_18 : decode cX1_branchOffset 18 = .ok (.iushr, 1) := by decide +kernel
theorem dX1_branchOffset_19 : decode cX1_branchOffset 19 = .ok (.sipush 2016, 3) := by decide +kernel
theorem dX1_branchOffset_22 : decode cX1_branchOffset 22 = .ok (.iand, 1) := by decide +kernel
theorem dX1_branchOffset_23 : decode cX1_branchOffset 23 = .ok (.ior, 1) := by decide +kernel
theorem dX1_branchOffset_24 : decode cX1_branchOffset 24 = .ok (.iload_n 0, 1) := by decide +kernel
theorem dX1_branchOffset_25 : decode cX1_branchOffset 25 = .ok (.bipush 7, 2) := by decide +kernel
theorem dX1_branchOffset_27 : decode cX1_branchOffset 27 = .ok (.iushr, 1) := by decide +kernel
theorem dX1_branchOffset_28 : decode cX1_branchOffset 28 = .ok (.bipush 30, 2) := by decide +kernel
theorem dX1_branchOffset_30 : decode cX1_branchOffset 30 = .ok (.iand, 1) := by decide +kernel
theorem dX1_branchOffset_31 : decode cX1_branchOffset 31 = .ok (.ior, 1) := by decide +kernel
theorem dX1_branchOffset_32 : decode cX1_branchOffset 32 = .ok (.ireturn, 1) := by decide +kernel
theorem dX1_below_0 : decode cX1_below 0 = .ok (.iload_n 0, 1) := by decide +kernel
theorem dX1_below_1 : decode cX1_below 1 = .ok (.ldc 86, 2) := by decide +kernel
theorem dX1_below_3 : decode cX1_below 3 = .ok (.ixor, 1) := by decide +kernel
theorem dX1_below_4 : decode cX1_below 4 = .ok (.iload_n 1, 1) := by decide +kernel
theorem dX1_below_5 : decode cX1_below 5 = .ok (.ldc 86, 2) := by decide +kernel
theorem dX1_below_7 : decode cX1_below 7 = .ok (.ixor, 1) := by decide +kernel
theorem dX1_below_8 : decode cX1_below 8 = .ok (.if_icmp .ge 7, 3) := by decide +kernel
theorem dX1_below_11 : decode cX1_below 11 = .ok (.iconst 1, 1) := by decide +kernel
theorem dX1_below_12 : decode cX1_below 12 = .ok (.goto 4, 3) := by decide +kernel
theorem dX1_below_15 : decode cX1_below 15 = .ok (.iconst 0, 1) := by decide +kernel
theorem dX1_below_16 : decode cX1_below 16 = .ok (.ireturn, 1) := by decide +kernel
theorem dX1_give_0 : decode cX1_give 0 = .ok (.aload_n 0, 1) := by decide +kernel
theorem dX1_give_1 : decode cX1_give 1 = .ok (.iload_n 1, 1) := by decide +kernel
theorem dX1_give_2 : decode cX1_give 2 = .ok (.putfield 39, 3) := by decide +kernel
theorem dX1_give_5 : decode cX1_give 5 = .ok (.iconst 0, 1) := by decide +kernel
theorem dX1_give_6 : decode cX1_give 6 = .ok (.ireturn, 1) := by decide +kernel
theorem dX1_jump_0 : decode cX1_jump 0 = .ok (.iload_n 1, 1) := by decide +kernel
theorem dX1_jump_1 : decode cX1_jump 1 = .ok (.iconst 3, 1) := by decide +kernel
theorem dX1_jump_2 : decode cX1_jump 2 = .ok (.iand, 1) := by decide +kernel
theorem dX1_jump_3 : decode cX1_jump 3 = .ok (.ifCond .eq 6, 3) := by decide +kernel
theorem dX1_jump_6 : decode cX1_jump 6 = .ok (.bipush 12, 2) := by decide +kernel
theorem dX1_jump_8 : decode cX1_jump 8 = .ok (.ireturn, 1) := by decide +kernel
theorem dX1_jump_9 : decode cX1_jump 9 = .ok (.aload_n 0, 1) := by decide +kernel
theorem dX1_jump_10 : decode cX1_jump 10 = .ok (.iload_n 1, 1) := by decide +kernel
theorem dX1_jump_11 : decode cX1_jump 11 = .ok (.putfield 42, 3) := by decide +kernel
theorem dX1_jump_14 : decode cX1_jump 14 = .ok (.aload_n 0, 1) := by decide +kernel
theorem dX1_jump_15 : decode cX1_jump 15 = .ok (.iload_n 2, 1) := by decide +kernel
theorem dX1_jump_16 : decode cX1_jump 16 = .ok (.invokevirtual 52, 3) := by decide +kernel
theorem dX1_jump_19 : decode cX1_jump 19 = .ok (.ireturn, 1) := by decide +kernel
theorem dX1_branch_0 : decode cX1_branch 0 = .ok (.iload_n 1, 1) := by decide +kernel
theorem dX1_branch_1 : decode cX1_branch 1 = .ok (.bipush 6, 2) := by decide +kernel
theorem dX1_branch_3 : decode cX1_branch 3 = .ok (.iand, 1) := by decide +kernel
theorem dX1_branch_4 : decode cX1_branch 4 = .ok (.lookupswitch 76 #[(0, 36), (4, 51), (6, 66)], 36) := by decide +kernel
theorem dX1_branch_40 : decode cX1_branch 40 = .ok (.iload_n 2, 1) := by decide +kernel
theorem dX1_branch_41 : decode cX1_branch 41 = .ok (.iload_n 3, 1) := by decide +kernel
theorem dX1_branch_42 : decode cX1_branch 42 = .ok (.if_icmp .ne 7, 3) := by decide +kernel
theorem dX1_branch_45 : decode cX1_branch 45 = .ok (.iconst 1, 1) := by decide +kernel
theorem dX1_branch_46 : decode cX1_branch 46 = .ok (.goto 4, 3) := by decide +kernel
theorem dX1_branch_49 : decode cX1_branch 49 = .ok (.iconst 0, 1) := by decide +kernel
theorem dX1_branch_50 : decode cX1_branch 50 = .ok (.istore 5, 2) := by decide +kernel
theorem dX1_branch_52 : decode cX1_branch 52 = .ok (.goto 31, 3) := by decide +kernel
theorem dX1_branch_55 : decode cX1_branch 55 = .ok (.iload_n 2, 1) := by decide +kernel
theorem dX1_branch_56 : decode cX1_branch 56 = .ok (.iload_n 3, 1) := by decide +kernel
theorem dX1_branch_57 : decode cX1_branch 57 = .ok (.if_icmp .ge 7, 3) := by decide +kernel
theorem dX1_branch_60 : decode cX1_branch 60 = .ok (.iconst 1, 1) := by decide +kernel
theorem dX1_branch_61 : decode cX1_branch 61 = .ok (.goto 4, 3) := by decide +kernel
theorem dX1_branch_64 : decode cX1_branch 64 = .ok (.iconst 0, 1) := by decide +kernel
theorem dX1_branch_65 : decode cX1_branch 65 = .ok (.istore 5, 2) := by decide +kernel
theorem dX1_branch_67 : decode cX1_branch 67 = .ok (.goto 16, 3) := by decide +kernel
theorem dX1_branch_70 : decode cX1_branch 70 = .ok (.iload_n 2, 1) := by decide +kernel
theorem dX1_branch_71 : decode cX1_branch 71 = .ok (.iload_n 3, 1) := by decide +kernel
theorem dX1_branch_72 : decode cX1_branch 72 = .ok (.invokestatic 87, 3) := by decide +kernel
theorem dX1_branch_75 : decode cX1_branch 75 = .ok (.istore 5, 2) := by decide +kernel
theorem dX1_branch_77 : decode cX1_branch 77 = .ok (.goto 6, 3) := by decide +kernel
theorem dX1_branch_80 : decode cX1_branch 80 = .ok (.bipush 11, 2) := by decide +kernel
theorem dX1_branch_82 : decode cX1_branch 82 = .ok (.ireturn, 1) := by decide +kernel
theorem dX1_branch_83 : decode cX1_branch 83 = .ok (.iload_n 1, 1) := by decide +kernel
theorem dX1_branch_84 : decode cX1_branch 84 = .ok (.iconst 1, 1) := by decide +kernel
theorem dX1_branch_85 : decode cX1_branch 85 = .ok (.iand, 1) := by decide +kernel
theorem dX1_branch_86 : decode cX1_branch 86 = .ok (.ifCond .eq 7, 3) := by decide +kernel
theorem dX1_branch_89 : decode cX1_branch 89 = .ok (.iconst 1, 1) := by decide +kernel
theorem dX1_branch_90 : decode cX1_branch 90 = .ok (.goto 4, 3) := by decide +kernel
theorem dX1_branch_93 : decode cX1_branch 93 = .ok (.iconst 0, 1) := by decide +kernel
theorem dX1_branch_94 : decode cX1_branch 94 = .ok (.istore 6, 2) := by decide +kernel
theorem dX1_branch_96 : decode cX1_branch 96 = .ok (.iload 5, 2) := by decide +kernel
theorem dX1_branch_98 : decode cX1_branch 98 = .ok (.iload 6, 2) := by decide +kernel
theorem dX1_branch_100 : decode cX1_branch 100 = .ok (.if_icmp .eq 13, 3) := by decide +kernel
theorem dX1_branch_103 : decode cX1_branch 103 = .ok (.aload_n 0, 1) := by decide +kernel
theorem dX1_branch_104 : decode cX1_branch 104 = .ok (.iload 4, 2) := by decide +kernel
theorem dX1_branch_106 : decode cX1_branch 106 = .ok (.iconst 0, 1) := by decide +kernel
theorem dX1_branch_107 : decode cX1_branch 107 = .ok (.invokevirtual 58, 3) := by decide +kernel
theorem dX1_branch_110 : decode cX1_branch 110 = .ok (.goto 4, 3) := by decide +kernel
theorem dX1_branch_113 : decode cX1_branch 113 = .ok (.iconst 0, 1) := by decide +kernel
theorem dX1_branch_114 : decode cX1_branch 114 = .ok (.ireturn, 1) := by decide +kernel
theorem dX1_load_0 : decode cX1_load 0 = .ok (.iload_n 1, 1) := by decide +kernel
theorem dX1_load_1 : decode cX1_load 1 = .ok (.iconst 3, 1) := by decide +kernel
theorem dX1_load_2 : decode cX1_load 2 = .ok (.if_icmp .eq 8, 3) := by decide +kernel
theorem dX1_load_5 : decode cX1_load 5 = .ok (.iload_n 1, 1) := by decide +kernel
theorem dX1_load_6 : decode cX1_load 6 = .ok (.iconst 5, 1) := by decide +kernel
theorem dX1_load_7 : decode cX1_load 7 = .ok (.if_icmp .le 6, 3) := by decide +kernel
theorem dX1_load_10 : decode cX1_load 10 = .ok (.bipush 11, 2) := by decide +kernel
theorem dX1_load_12 : decode cX1_load 12 = .ok (.ireturn, 1) := by decide +kernel
theorem dX1_load_13 : decode cX1_load 13 = .ok (.aload_n 0, 1) := by decide +kernel
theorem dX1_load_14 : decode cX1_load 14 = .ok (.iload_n 2, 1) := by decide +kernel
theorem dX1_load_15 : decode cX1_load 15 = .ok (.iconst 1, 1) := by decide +kernel
theorem dX1_load_16 : decode cX1_load 16 = .ok (.iload_n 1, 1) := by decide +kernel
theorem dX1_load_17 : decode cX1_load 17 = .ok (.iconst 3, 1) := by decide +kernel
theorem dX1_load_18 : decode cX1_load 18 = .ok (.iand, 1) := by decide +kernel
theorem dX1_load_19 : decode cX1_load 19 = .ok (.ishl, 1) := by decide +kernel
theorem dX1_load_20 : decode cX1_load 20 = .ok (.invokevirtual 45, 3) := by decide +kernel
theorem dX1_load_23 : decode cX1_load 23 = .ok (.istore_n 3, 1) := by decide +kernel
theorem dX1_load_24 : decode cX1_load 24 = .ok (.iload_n 3, 1) := by decide +kernel
theorem dX1_load_25 : decode cX1_load 25 = .ok (.ifCond .eq 5, 3) := by decide +kernel
theorem dX1_load_28 : decode cX1_load 28 = .ok (.iload_n 3, 1) := by decide +kernel
theorem dX1_load_29 : decode cX1_load 29 = .ok (.ireturn, 1) := by decide +kernel
theorem dX1_load_30 : decode cX1_load 30 = .ok (.aload_n 0, 1) := by decide +kernel
theorem dX1_load_31 : decode cX1_load 31 = .ok (.iload_n 2, 1) := by decide +kernel
theorem dX1_load_32 : decode cX1_load 32 = .ok (.invokevirtual 49, 3) := by decide +kernel
theorem dX1_load_35 : decode cX1_load 35 = .ok (.bipush 8, 2) := by decide +kernel
theorem dX1_load_37 : decode cX1_load 37 = .ok (.iload_n 2, 1) := by decide +kernel
theorem dX1_load_38 : decode cX1_load 38 = .ok (.iconst 3, 1) := by decide +kernel
theorem dX1_load_39 : decode cX1_load 39 = .ok (.iand, 1) := by decide +kernel
theorem dX1_load_40 : decode cX1_load 40 = .ok (.imul, 1) := by decide +kernel
theorem dX1_load_41 : decode cX1_load 41 = .ok (.iushr, 1) := by decide +kernel
theorem dX1_load_42 : decode cX1_load 42 = .ok (.istore 4, 2) := by decide +kernel
theorem dX1_load_44 : decode cX1_load 44 = .ok (.iload_n 1, 1) := by decide +kernel
theorem dX1_load_45 : decode cX1_load 45 = .ok (.tableswitch 86 0 5 #[39, 52, 86, 86, 65, 76], 39) := by decide +kernel
theorem dX1_load_84 : decode cX1_load 84 = .ok (.aload_n 0, 1) := by decide +kernel
theorem dX1_load_85 : decode cX1_load 85 = .ok (.iload 4, 2) := by decide +kernel
theorem dX1_load_87 : decode cX1_load 87 = .ok (.bipush 24, 2) := by decide +kernel
theorem dX1_load_89 : decode cX1_load 89 = .ok (.ishl, 1) := by decide +kernel
theorem dX1_load_90 : decode cX1_load 90 = .ok (.bipush 24, 2) := by decide +kernel
theorem dX1_load_92 : decode cX1_load 92 = .ok (.ishr, 1) := by decide +kernel
theorem dX1_load_93 : decode cX1_load 93 = .ok (.invokevirtual 52, 3) := by decide +kernel
theorem dX1_load_96 : decode cX1_load 96 = .ok (.ireturn, 1) := by decide +kernel
theorem dX1_load_97 : decode cX1_load 97 = .ok (.aload_n 0, 1) := by decide +kernel
theorem dX1_load_98 : decode cX1_load 98 = .ok (.iload 4, 2) := by decide +kernel
theorem dX1_load_100 : decode cX1_load 100 = .ok (.bipush 16, 2) := by decide +kernel
theorem dX1_load_102 : decode cX1_load 102 = .ok (.ishl, 1) := by decide +kernel
theorem dX1_load_103 : decode cX1_load 103 = .ok (.bipush 16, 2) := by decide +kernel
theorem dX1_load_105 : decode cX1_load 105 = .ok (.ishr, 1) := by decide +kernel
theorem dX1_load_106 : decode cX1_load 106 = .ok (.invokevirtual 52, 3) := by decide +kernel
theorem dX1_load_109 : decode cX1_load 109 = .ok (.ireturn, 1) := by decide +kernel
theorem dX1_load_110 : decode cX1_load 110 = .ok (.aload_n 0, 1) := by decide +kernel
theorem dX1_load_111 : decode cX1_load 111 = .ok (.iload 4, 2) := by decide +kernel
theorem dX1_load_113 : decode cX1_load 113 = .ok (.sipush 255, 3) := by decide +kernel
theorem dX1_load_116 : decode cX1_load 116 = .ok (.iand, 1) := by decide +kernel
theorem dX1_load_117 : decode cX1_load 117 = .ok (.invokevirtual 52, 3) := by decide +kernel
theorem dX1_load_120 : decode cX1_load 120 = .ok (.ireturn, 1) := by decide +kernel
theorem dX1_load_121 : decode cX1_load 121 = .ok (.aload_n 0, 1) := by decide +kernel
theorem dX1_load_122 : decode cX1_load 122 = .ok (.iload 4, 2) := by decide +kernel
theorem dX1_load_124 : decode cX1_load 124 = .ok (.ldc 91, 2) := by decide +kernel
theorem dX1_load_126 : decode cX1_load 126 = .ok (.iand, 1) := by decide +kernel
theorem dX1_load_127 : decode cX1_load 127 = .ok (.invokevirtual 52, 3) := by decide +kernel
theorem dX1_load_130 : decode cX1_load 130 = .ok (.ireturn, 1) := by decide +kernel
theorem dX1_load_131 : decode cX1_load 131 = .ok (.aload_n 0, 1) := by decide +kernel
theorem dX1_load_132 : decode cX1_load 132 = .ok (.iload 4, 2) := by decide +kernel
theorem dX1_load_134 : decode cX1_load 134 = .ok (.invokevirtual 52, 3) := by decide +kernel
theorem dX1_load_137 : decode cX1_load 137 = .ok (.ireturn, 1) := by decide +kernel
theorem dX1_storeAt_0 : decode cX1_storeAt 0 = .ok (.iload_n 1, 1) := by decide +kernel
theorem dX1_storeAt_1 : decode cX1_storeAt 1 = .ok (.iconst 2, 1) := by decide +kernel
theorem dX1_storeAt_2 : decode cX1_storeAt 2 = .ok (.if_icmp .le 6, 3) := by decide +kernel
theorem dX1_storeAt_5 : decode cX1_storeAt 5 = .ok (.bipush 11, 2) := by decide +kernel
theorem dX1_storeAt_7 : decode cX1_storeAt 7 = .ok (.ireturn, 1) := by decide +kernel
theorem dX1_storeAt_8 : decode cX1_storeAt 8 = .ok (.aload_n 0, 1) := by decide +kernel
theorem dX1_storeAt_9 : decode cX1_storeAt 9 = .ok (.iload_n 2, 1) := by decide +kernel
theorem dX1_storeAt_10 : decode cX1_storeAt 10 = .ok (.iconst 1, 1) := by decide +kernel
theorem dX1_storeAt_11 : decode cX1_storeAt 11 = .ok (.iload_n 1, 1) := by decide +kernel
theorem dX1_storeAt_12 : decode cX1_storeAt 12 = .ok (.ishl, 1) := by decide +kernel
theorem dX1_storeAt_13 : decode cX1_storeAt 13 = .ok (.invokevirtual 45, 3) := by decide +kernel
theorem dX1_storeAt_16 : decode cX1_storeAt 16 = .ok (.istore 4, 2) := by decide +kernel
theorem dX1_storeAt_18 : decode cX1_storeAt 18 = .ok (.iload 4, 2) := by decide +kernel
theorem dX1_storeAt_20 : decode cX1_storeAt 20 = .ok (.ifCond .eq 6, 3) := by decide +kernel
theorem dX1_storeAt_23 : decode cX1_storeAt 23 = .ok (.iload 4, 2) := by decide +kernel
theorem dX1_storeAt_25 : decode cX1_storeAt 25 = .ok (.ireturn, 1) := by decide +kernel
theorem dX1_storeAt_26 : decode cX1_storeAt 26 = .ok (.iload_n 1, 1) := by decide +kernel
theorem dX1_storeAt_27 : decode cX1_storeAt 27 = .ok (.ifCond .ne 9, 3) := by decide +kernel
theorem dX1_storeAt_30 : decode cX1_storeAt 30 = .ok (.sipush 255, 3) := by decide +kernel
theorem dX1_storeAt_33 : decode cX1_storeAt 33 = .ok (.goto 14, 3) := by decide +kernel
theorem dX1_storeAt_36 : decode cX1_storeAt 36 = .ok (.iload_n 1, 1) := by decide +kernel
theorem dX1_storeAt_37 : decode cX1_storeAt 37 = .ok (.iconst 1, 1) := by decide +kernel
theorem dX1_storeAt_38 : decode cX1_storeAt 38 = .ok (.if_icmp .ne 8, 3) := by decide +kernel
theorem dX1_storeAt_41 : decode cX1_storeAt 41 = .ok (.ldc 91, 2) := by decide +kernel
theorem dX1_storeAt_43 : decode cX1_storeAt 43 = .ok (.goto 4, 3) := by decide +kernel
theorem dX1_storeAt_46 : decode cX1_storeAt 46 = .ok (.iconst (-1), 1) := by decide +kernel
theorem dX1_storeAt_47 : decode cX1_storeAt 47 = .ok (.istore 5, 2) := by decide +kernel
theorem dX1_storeAt_49 : decode cX1_storeAt 49 = .ok (.bipush 8, 2) := by decide +kernel
theorem dX1_storeAt_51 : decode cX1_storeAt 51 = .ok (.iload_n 2, 1) := by decide +kernel
theorem dX1_storeAt_52 : decode cX1_storeAt 52 = .ok (.iconst 3, 1) := by decide +kernel
theorem dX1_storeAt_53 : decode cX1_storeAt 53 = .ok (.iand, 1) := by decide +kernel
theorem dX1_storeAt_54 : decode cX1_storeAt 54 = .ok (.imul, 1) := by decide +kernel
theorem dX1_storeAt_55 : decode cX1_storeAt 55 = .ok (.istore 6, 2) := by decide +kernel
theorem dX1_storeAt_57 : decode cX1_storeAt 57 = .ok (.aload_n 0, 1) := by decide +kernel
theorem dX1_storeAt_58 : decode cX1_storeAt 58 = .ok (.aload_n 0, 1) := by decide +kernel
theorem dX1_storeAt_59 : decode cX1_storeAt 59 = .ok (.iload_n 2, 1) := by decide +kernel
theorem dX1_storeAt_60 : decode cX1_storeAt 60 = .ok (.invokevirtual 92, 3) := by decide +kernel
theorem dX1_storeAt_63 : decode cX1_storeAt 63 = .ok (.ifCond .eq 7, 3) := by decide +kernel
theorem dX1_storeAt_66 : decode cX1_storeAt 66 = .ok (.iconst 3, 1) := by decide +kernel
theorem dX1_storeAt_67 : decode cX1_storeAt 67 = .ok (.goto 4, 3) := by decide +kernel
theorem dX1_storeAt_70 : decode cX1_storeAt 70 = .ok (.iconst 4, 1) := by decide +kernel
theorem dX1_storeAt_71 : decode cX1_storeAt 71 = .ok (.putfield 33, 3) := by decide +kernel
theorem dX1_storeAt_74 : decode cX1_storeAt 74 = .ok (.aload_n 0, 1) := by decide +kernel
theorem dX1_storeAt_75 : decode cX1_storeAt 75 = .ok (.iload_n 2, 1) := by decide +kernel
theorem dX1_storeAt_76 : decode cX1_storeAt 76 = .ok (.putfield 96, 3) := by decide +kernel
theorem dX1_storeAt_79 : decode cX1_storeAt 79 = .ok (.aload_n 0, 1) := by decide +kernel
theorem dX1_storeAt_80 : decode cX1_storeAt 80 = .ok (.aload_n 0, 1) := by decide +kernel
theorem dX1_storeAt_81 : decode cX1_storeAt 81 = .ok (.iload_n 2, 1) := by decide +kernel
theorem dX1_storeAt_82 : decode cX1_storeAt 82 = .ok (.invokevirtual 49, 3) := by decide +kernel
theorem dX1_storeAt_85 : decode cX1_storeAt 85 = .ok (.iload 5, 2) := by decide +kernel
theorem dX1_storeAt_87 : decode cX1_storeAt 87 = .ok (.iload 6, 2) := by decide +kernel
theorem dX1_storeAt_89 : decode cX1_storeAt 89 = .ok (.ishl, 1) := by decide +kernel
theorem dX1_storeAt_90 : decode cX1_storeAt 90 = .ok (.iconst (-1), 1) := by decide +kernel
theorem dX1_storeAt_91 : decode cX1_storeAt 91 = .ok (.ixor, 1) := by decide +kernel
theorem dX1_storeAt_92 : decode cX1_storeAt 92 = .ok (.iand, 1) := by decide +kernel
theorem dX1_storeAt_93 : decode cX1_storeAt 93 = .ok (.iload_n 3, 1) := by decide +kernel
theorem dX1_storeAt_94 : decode cX1_storeAt 94 = .ok (.iload 5, 2) := by decide +kernel
theorem dX1_storeAt_96 : decode cX1_storeAt 96 = .ok (.iand, 1) := by decide +kernel
theorem dX1_storeAt_97 : decode cX1_storeAt 97 = .ok (.iload 6, 2) := by decide +kernel
theorem dX1_storeAt_99 : decode cX1_storeAt 99 = .ok (.ishl, 1) := by decide +kernel
theorem dX1_storeAt_100 : decode cX1_storeAt 100 = .ok (.ior, 1) := by decide +kernel
theorem dX1_storeAt_101 : decode cX1_storeAt 101 = .ok (.invokevirtual 52, 3) := by decide +kernel
theorem dX1_storeAt_104 : decode cX1_storeAt 104 = .ok (.ireturn, 1) := by decide +kernel
theorem dX1_trapOfPlace_0 : decode cX1_trapOfPlace 0 = .ok (.iload_n 1, 1) := by decide +kernel
theorem dX1_trapOfPlace_1 : decode cX1_trapOfPlace 1 = .ok (.iload_n 2, 1) := by decide +kernel
theorem dX1_trapOfPlace_2 : decode cX1_trapOfPlace 2 = .ok (.iconst 1, 1) := by decide +kernel
theorem dX1_trapOfPlace_3 : decode cX1_trapOfPlace 3 = .ok (.isub, 1) := by decide +kernel
theorem dX1_trapOfPlace_4 : decode cX1_trapOfPlace 4 = .ok (.iand, 1) := by decide +kernel
theorem dX1_trapOfPlace_5 : decode cX1_trapOfPlace 5 = .ok (.ifCond .eq 6, 3) := by decide +kernel
theorem dX1_trapOfPlace_8 : decode cX1_trapOfPlace 8 = .ok (.bipush 12, 2) := by decide +kernel
theorem dX1_trapOfPlace_10 : decode cX1_trapOfPlace 10 = .ok (.ireturn, 1) := by decide +kernel
theorem dX1_trapOfPlace_11 : decode cX1_trapOfPlace 11 = .ok (.aload_n 0, 1) := by decide +kernel
theorem dX1_trapOfPlace_12 : decode cX1_trapOfPlace 12 = .ok (.iload_n 1, 1) := by decide +kernel
theorem dX1_trapOfPlace_13 : decode cX1_trapOfPlace 13 = .ok (.iload_n 2, 1) := by decide +kernel
theorem dX1_trapOfPlace_14 : decode cX1_trapOfPlace 14 = .ok (.invokevirtual 99, 3) := by decide +kernel
theorem dX1_trapOfPlace_17 : decode cX1_trapOfPlace 17 = .ok (.ifCond .eq 7, 3) := by decide +kernel
theorem dX1_trapOfPlace_20 : decode cX1_trapOfPlace 20 = .ok (.iconst 0, 1) := by decide +kernel
theorem dX1_trapOfPlace_21 : decode cX1_trapOfPlace 21 = .ok (.goto 5, 3) := by decide +kernel
theorem dX1_trapOfPlace_24 : decode cX1_trapOfPlace 24 = .ok (.bipush 13, 2) := by decide +kernel
theorem dX1_trapOfPlace_26 : decode cX1_trapOfPlace 26 = .ok (.ireturn, 1) := by decide +kernel
theorem dX1_withNumber_0 : decode cX1_withNumber 0 = .ok (.iload_n 1, 1) := by decide +kernel
theorem dX1_withNumber_1 : decode cX1_withNumber 1 = .ok (.iconst 1, 1) := by decide +kernel
theorem dX1_withNumber_2 : decode cX1_withNumber 2 = .ok (.if_icmp .ne 10, 3) := by decide +kernel
theorem dX1_withNumber_5 : decode cX1_withNumber 5 = .ok (.iload_n 2, 1) := by decide +kernel
theorem dX1_withNumber_6 : decode cX1_withNumber 6 = .ok (.ifCond .eq 6, 3) := by decide +kernel
theorem dX1_withNumber_9 : decode cX1_withNumber 9 = .ok (.bipush 11, 2) := by decide +kernel
theorem dX1_withNumber_11 : decode cX1_withNumber 11 = .ok (.ireturn, 1) := by decide +kernel
theorem dX1_withNumber_12 : decode cX1_withNumber 12 = .ok (.iload_n 1, 1) := by decide +kernel
theorem dX1_withNumber_13 : decode cX1_withNumber 13 = .ok (.iconst 5, 1) := by decide +kernel
theorem dX1_withNumber_14 : decode cX1_withNumber 14 = .ok (.if_icmp .ne 30, 3) := by decide +kernel
theorem dX1_withNumber_17 : decode cX1_withNumber 17 = .ok (.iload_n 2, 1) := by decide +kernel
theorem dX1_withNumber_18 : decode cX1_withNumber 18 = .ok (.ifCond .eq 26, 3) := by decide +kernel
theorem dX1_withNumber_21 : decode cX1_withNumber 21 = .ok (.iload_n 2, 1) := by decide +kernel
theorem dX1_withNumber_22 : decode cX1_withNumber 22 = .ok (.bipush 32, 2) := by decide +kernel
theorem dX1_withNumber_24 : decode cX1_withNumber 24 = .ok (.if_icmp .ne 17, 3) := by decide +kernel
theorem dX1_withNumber_27 : decode cX1_withNumber 27 = .ok (.aload_n 0, 1) := by decide +kernel
theorem dX1_withNumber_28 : decode cX1_withNumber 28 = .ok (.iload_n 3, 1) := by decide +kernel
theorem dX1_withNumber_29 : decode cX1_withNumber 29 = .ok (.iload 4, 2) := by decide +kernel
theorem dX1_withNumber_31 : decode cX1_withNumber 31 = .ok (.bipush 31, 2) := by decide +kernel
theorem dX1_withNumber_33 : decode cX1_withNumber 33 = .ok (.iand, 1) := by decide +kernel
theorem dX1_withNumber_34 : decode cX1_withNumber 34 = .ok (.ishr, 1) := by decide +kernel
theorem dX1_withNumber_35 : decode cX1_withNumber 35 = .ok (.invokevirtual 52, 3) := by decide +kernel
theorem dX1_withNumber_38 : decode cX1_withNumber 38 = .ok (.goto 5, 3) := by decide +kernel
theorem dX1_withNumber_41 : decode cX1_withNumber 41 = .ok (.bipush 11, 2) := by decide +kernel
theorem dX1_withNumber_43 : decode cX1_withNumber 43 = .ok (.ireturn, 1) := by decide +kernel
theorem dX1_withNumber_44 : decode cX1_withNumber 44 = .ok (.aload_n 0, 1) := by decide +kernel
theorem dX1_withNumber_45 : decode cX1_withNumber 45 = .ok (.iload_n 1, 1) := by decide +kernel
theorem dX1_withNumber_46 : decode cX1_withNumber 46 = .ok (.iload_n 3, 1) := by decide +kernel
theorem dX1_withNumber_47 : decode cX1_withNumber 47 = .ok (.iload 4, 2) := by decide +kernel
theorem dX1_withNumber_49 : decode cX1_withNumber 49 = .ok (.invokestatic 102, 3) := by decide +kernel
theorem dX1_withNumber_52 : decode cX1_withNumber 52 = .ok (.invokevirtual 52, 3) := by decide +kernel
theorem dX1_withNumber_55 : decode cX1_withNumber 55 = .ok (.ireturn, 1) := by decide +kernel
theorem dX1_withRegister_0 : decode cX1_withRegister 0 = .ok (.iload_n 2, 1) := by decide +kernel
theorem dX1_withRegister_1 : decode cX1_withRegister 1 = .ok (.ifCond .ne 15, 3) := by decide +kernel
theorem dX1_withRegister_4 : decode cX1_withRegister 4 = .ok (.aload_n 0, 1) := by decide +kernel
theorem dX1_withRegister_5 : decode cX1_withRegister 5 = .ok (.iload_n 1, 1) := by decide +kernel
theorem dX1_withRegister_6 : decode cX1_withRegister 6 = .ok (.iload_n 3, 1) := by decide +kernel
theorem dX1_withRegister_7 : decode cX1_withRegister 7 = .ok (.iload 4, 2) := by decide +kernel
theorem dX1_withRegister_9 : decode cX1_withRegister 9 = .ok (.invokestatic 102, 3) := by decide +kernel
theorem dX1_withRegister_12 : decode cX1_withRegister 12 = .ok (.invokevirtual 52, 3) := by decide +kernel
theorem dX1_withRegister_15 : decode cX1_withRegister 15 = .ok (.ireturn, 1) := by decide +kernel
theorem dX1_withRegister_16 : decode cX1_withRegister 16 = .ok (.iload_n 2, 1) := by decide +kernel
theorem dX1_withRegister_17 : decode cX1_withRegister 17 = .ok (.bipush 32, 2) := by decide +kernel
theorem dX1_withRegister_19 : decode cX1_withRegister 19 = .ok (.if_icmp .ne 16, 3) := by decide +kernel
theorem dX1_withRegister_22 : decode cX1_withRegister 22 = .ok (.iload_n 1, 1) := by decide +kernel
theorem dX1_withRegister_23 : decode cX1_withRegister 23 = .ok (.ifCond .ne 12, 3) := by decide +kernel
theorem dX1_withRegister_26 : decode cX1_withRegister 26 = .ok (.aload_n 0, 1) := by decide +kernel
theorem dX1_withRegister_27 : decode cX1_withRegister 27 = .ok (.iload_n 3, 1) := by decide +kernel
theorem dX1_withRegister_28 : decode cX1_withRegister 28 = .ok (.iload 4, 2) := by decide +kernel
theorem dX1_withRegister_30 : decode cX1_withRegister 30 = .ok (.isub, 1) := by decide +kernel
theorem dX1_withRegister_31 : decode cX1_withRegister 31 = .ok (.invokevirtual 52, 3) := by decide +kernel
theorem dX1_withRegister_34 : decode cX1_withRegister 34 = .ok (.ireturn, 1) := by decide +kernel
theorem dX1_withRegister_35 : decode cX1_withRegister 35 = .ok (.iload_n 2, 1) := by decide +kernel
theorem dX1_withRegister_36 : decode cX1_withRegister 36 = .ok (.bipush 32, 2) := by decide +kernel
theorem dX1_withRegister_38 : decode cX1_withRegister 38 = .ok (.if_icmp .ne 22, 3) := by decide +kernel
theorem dX1_withRegister_41 : decode cX1_withRegister 41 = .ok (.iload_n 1, 1) := by decide +kernel
theorem dX1_withRegister_42 : decode cX1_withRegister 42 = .ok (.iconst 5, 1) := by decide +kernel
theorem dX1_withRegister_43 : decode cX1_withRegister 43 = .ok (.if_icmp .ne 17, 3) := by decide +kernel
theorem dX1_withRegister_46 : decode cX1_withRegister 46 = .ok (.aload_n 0, 1) := by decide +kernel
theorem dX1_withRegister_47 : decode cX1_withRegister 47 = .ok (.iload_n 3, 1) := by decide +kernel
theorem dX1_withRegister_48 : decode cX1_withRegister 48 = .ok (.iload 4, 2) := by decide +kernel
theorem dX1_withRegister_50 : decode cX1_withRegister 50 = .ok (.bipush 31, 2) := by decide +kernel
theorem dX1_withRegister_52 : decode cX1_withRegister 52 = .ok (.iand, 1) := by decide +kernel
theorem dX1_withRegister_53 : decode cX1_withRegister 53 = .ok (.ishr, 1) := by decide +kernel
theorem dX1_withRegister_54 : decode cX1_withRegister 54 = .ok (.invokevirtual 52, 3) := by decide +kernel
theorem dX1_withRegister_57 : decode cX1_withRegister 57 = .ok (.goto 5, 3) := by decide +kernel
theorem dX1_withRegister_60 : decode cX1_withRegister 60 = .ok (.bipush 11, 2) := by decide +kernel
theorem dX1_withRegister_62 : decode cX1_withRegister 62 = .ok (.ireturn, 1) := by decide +kernel
theorem dX1_reckon_0 : decode cX1_reckon 0 = .ok (.iload_n 0, 1) := by decide +kernel
theorem dX1_reckon_1 : decode cX1_reckon 1 = .ok (.tableswitch 94 0 6 #[43, 47, 54, 65, 79, 83, 90], 43) := by decide +kernel
theorem dX1_reckon_44 : decode cX1_reckon 44 = .ok (.iload_n 1, 1) := by decide +kernel
theorem dX1_reckon_45 : decode cX1_reckon 45 = .ok (.iload_n 2, 1) := by decide +kernel
theorem dX1_reckon_46 : decode cX1_reckon 46 = .ok (.iadd, 1) := by decide +kernel
theorem dX1_reckon_47 : decode cX1_reckon 47 = .ok (.ireturn, 1) := by decide +kernel
theorem dX1_reckon_48 : decode cX1_reckon 48 = .ok (.iload_n 1, 1) := by decide +kernel
theorem dX1_reckon_49 : decode cX1_reckon 49 = .ok (.iload_n 2, 1) := by decide +kernel
theorem dX1_reckon_50 : decode cX1_reckon 50 = .ok (.bipush 31, 2) := by decide +kernel
theorem dX1_reckon_52 : decode cX1_reckon 52 = .ok (.iand, 1) := by decide +kernel
theorem dX1_reckon_53 : decode cX1_reckon 53 = .ok (.ishl, 1) := by decide +kernel
theorem dX1_reckon_54 : decode cX1_reckon 54 = .ok (.ireturn, 1) := by decide +kernel
theorem dX1_reckon_55 : decode cX1_reckon 55 = .ok (.iload_n 1, 1) := by decide +kernel
theorem dX1_reckon_56 : decode cX1_reckon 56 = .ok (.iload_n 2, 1) := by decide +kernel
theorem dX1_reckon_57 : decode cX1_reckon 57 = .ok (.if_icmp .ge 7, 3) := by decide +kernel
theorem dX1_reckon_60 : decode cX1_reckon 60 = .ok (.iconst 1, 1) := by decide +kernel
theorem dX1_reckon_61 : decode cX1_reckon 61 = .ok (.goto 4, 3) := by decide +kernel
theorem dX1_reckon_64 : decode cX1_reckon 64 = .ok (.iconst 0, 1) := by decide +kernel
theorem dX1_reckon_65 : decode cX1_reckon 65 = .ok (.ireturn, 1) := by decide +kernel
theorem dX1_reckon_66 : decode cX1_reckon 66 = .ok (.iload_n 1, 1) := by decide +kernel
theorem dX1_reckon_67 : decode cX1_reckon 67 = .ok (.iload_n 2, 1) := by decide +kernel
theorem dX1_reckon_68 : decode cX1_reckon 68 = .ok (.invokestatic 87, 3) := by decide +kernel
theorem dX1_reckon_71 : decode cX1_reckon 71 = .ok (.ifCond .eq 7, 3) := by decide +kernel
theorem dX1_reckon_74 : decode cX1_reckon 74 = .ok (.iconst 1, 1) := by decide +kernel
theorem dX1_reckon_75 : decode cX1_reckon 75 = .ok (.goto 4, 3) := by decide +kernel
theorem dX1_reckon_78 : decode cX1_reckon 78 = .ok (.iconst 0, 1) := by decide +kernel
theorem dX1_reckon_79 : decode cX1_reckon 79 = .ok (.ireturn, 1) := by decide +kernel
theorem dX1_reckon_80 : decode cX1_reckon 80 = .ok (.iload_n 1, 1) := by decide +kernel
theorem dX1_reckon_81 : decode cX1_reckon 81 = .ok (.iload_n 2, 1) := by decide +kernel
theorem dX1_reckon_82 : decode cX1_reckon 82 = .ok (.ixor, 1) := by decide +kernel
theorem dX1_reckon_83 : decode cX1_reckon 83 = .ok (.ireturn, 1) := by decide +kernel
theorem dX1_reckon_84 : decode cX1_reckon 84 = .ok (.iload_n 1, 1) := by decide +kernel
theorem dX1_reckon_85 : decode cX1_reckon 85 = .ok (.iload_n 2, 1) := by decide +kernel
theorem dX1_reckon_86 : decode cX1_reckon 86 = .ok (.bipush 31, 2) := by decide +kernel
theorem dX1_reckon_88 : decode cX1_reckon 88 = .ok (.iand, 1) := by decide +kernel
theorem dX1_reckon_89 : decode cX1_reckon 89 = .ok (.iushr, 1) := by decide +kernel
theorem dX1_reckon_90 : decode cX1_reckon 90 = .ok (.ireturn, 1) := by decide +kernel
theorem dX1_reckon_91 : decode cX1_reckon 91 = .ok (.iload_n 1, 1) := by decide +kernel
theorem dX1_reckon_92 : decode cX1_reckon 92 = .ok (.iload_n 2, 1) := by decide +kernel
theorem dX1_reckon_93 : decode cX1_reckon 93 = .ok (.ior, 1) := by decide +kernel
theorem dX1_reckon_94 : decode cX1_reckon 94 = .ok (.ireturn, 1) := by decide +kernel
theorem dX1_reckon_95 : decode cX1_reckon 95 = .ok (.iload_n 1, 1) := by decide +kernel
theorem dX1_reckon_96 : decode cX1_reckon 96 = .ok (.iload_n 2, 1) := by decide +kernel
theorem dX1_reckon_97 : decode cX1_reckon 97 = .ok (.iand, 1) := by decide +kernel
theorem dX1_reckon_98 : decode cX1_reckon 98 = .ok (.ireturn, 1) := by decide +kernel
theorem dX1_call_0 : decode cX1_call 0 = .ok (.aload_n 0, 1) := by decide +kernel
theorem dX1_call_1 : decode cX1_call 1 = .ok (.bipush 10, 2) := by decide +kernel
theorem dX1_call_3 : decode cX1_call 3 = .ok (.putfield 36, 3) := by decide +kernel
theorem dX1_call_6 : decode cX1_call 6 = .ok (.aload_n 0, 1) := by decide +kernel
theorem dX1_call_7 : decode cX1_call 7 = .ok (.getfield 9, 3) := by decide +kernel
theorem dX1_call_10 : decode cX1_call 10 = .ok (.bipush 17, 2) := by decide +kernel
theorem dX1_call_12 : decode cX1_call 12 = .ok (.iaload, 1) := by decide +kernel
theorem dX1_call_13 : decode cX1_call 13 = .ok (.tableswitch 59 1 3 #[27, 51, 56], 27) := by decide +kernel
theorem dX1_call_40 : decode cX1_call 40 = .ok (.aload_n 0, 1) := by decide +kernel
theorem dX1_call_41 : decode cX1_call 41 = .ok (.iconst 1, 1) := by decide +kernel
theorem dX1_call_42 : decode cX1_call 42 = .ok (.putfield 33, 3) := by decide +kernel
theorem dX1_call_45 : decode cX1_call 45 = .ok (.aload_n 0, 1) := by decide +kernel
theorem dX1_call_46 : decode cX1_call 46 = .ok (.aload_n 0, 1) := by decide +kernel
theorem dX1_call_47 : decode cX1_call 47 = .ok (.getfield 18, 3) := by decide +kernel
theorem dX1_call_50 : decode cX1_call 50 = .ok (.aload_n 0, 1) := by decide +kernel
theorem dX1_call_51 : decode cX1_call 51 = .ok (.getfield 9, 3) := by decide +kernel
theorem dX1_call_54 : decode cX1_call 54 = .ok (.bipush 33, 2) := by decide +kernel
theorem dX1_call_56 : decode cX1_call 56 = .ok (.iaload, 1) := by decide +kernel
theorem dX1_call_57 : decode cX1_call 57 = .ok (.invokevirtual 105, 3) := by decide +kernel
theorem dX1_call_60 : decode cX1_call 60 = .ok (.invokevirtual 52, 3) := by decide +kernel
theorem dX1_call_63 : decode cX1_call 63 = .ok (.ireturn, 1) := by decide +kernel
theorem dX1_call_64 : decode cX1_call 64 = .ok (.aload_n 0, 1) := by decide +kernel
theorem dX1_call_65 : decode cX1_call 65 = .ok (.invokevirtual 110, 3) := by decide +kernel
theorem dX1_call_68 : decode cX1_call 68 = .ok (.ireturn, 1) := by decide +kernel
theorem dX1_call_69 : decode cX1_call 69 = .ok (.bipush 6, 2) := by decide +kernel
theorem dX1_call_71 : decode cX1_call 71 = .ok (.ireturn, 1) := by decide +kernel
theorem dX1_call_72 : decode cX1_call 72 = .ok (.bipush 11, 2) := by decide +kernel
theorem dX1_call_74 : decode cX1_call 74 = .ok (.ireturn, 1) := by decide +kernel
theorem dX1_callToSend_0 : decode cX1_callToSend 0 = .ok (.aload_n 0, 1) := by decide +kernel
theorem dX1_callToSend_1 : decode cX1_callToSend 1 = .ok (.getfield 9, 3) := by decide +kernel
theorem dX1_callToSend_4 : decode cX1_callToSend 4 = .ok (.bipush 11, 2) := by decide +kernel
theorem dX1_callToSend_6 : decode cX1_callToSend 6 = .ok (.iaload, 1) := by decide +kernel
theorem dX1_callToSend_7 : decode cX1_callToSend 7 = .ok (.istore_n 1, 1) := by decide +kernel
theorem dX1_callToSend_8 : decode cX1_callToSend 8 = .ok (.bipush 64, 2) := by decide +kernel
theorem dX1_callToSend_10 : decode cX1_callToSend 10 = .ok (.iload_n 1, 1) := by decide +kernel
theorem dX1_callToSend_11 : decode cX1_callToSend 11 = .ok (.invokestatic 87, 3) := by decide +kernel
theorem dX1_callToSend_14 : decode cX1_callToSend 14 = .ok (.ifCond .eq 6, 3) := by decide +kernel
theorem dX1_callToSend_17 : decode cX1_callToSend 17 = .ok (.bipush 14, 2) := by decide +kernel
theorem dX1_callToSend_19 : decode cX1_callToSend 19 = .ok (.ireturn, 1) := by decide +kernel
theorem dX1_callToSend_20 : decode cX1_callToSend 20 = .ok (.iload_n 1, 1) := by decide +kernel
theorem dX1_callToSend_21 : decode cX1_callToSend 21 = .ok (.ifCond .eq 21, 3) := by decide +kernel
theorem dX1_callToSend_24 : decode cX1_callToSend 24 = .ok (.aload_n 0, 1) := by decide +kernel
theorem dX1_callToSend_25 : decode cX1_callToSend 25 = .ok (.aload_n 0, 1) := by decide +kernel
theorem dX1_callToSend_26 : decode cX1_callToSend 26 = .ok (.getfield 9, 3) := by decide +kernel
theorem dX1_callToSend_29 : decode cX1_callToSend 29 = .ok (.bipush 10, 2) := by decide +kernel
theorem dX1_callToSend_31 : decode cX1_callToSend 31 = .ok (.iaload, 1) := by decide +kernel
theorem dX1_callToSend_32 : decode cX1_callToSend 32 = .ok (.iload_n 1, 1) := by decide +kernel
theorem dX1_callToSend_33 : decode cX1_callToSend 33 = .ok (.invokevirtual 99, 3) := by decide +kernel
theorem dX1_callToSend_36 : decode cX1_callToSend 36 = .ok (.ifCond .ne 6, 3) := by decide +kernel
theorem dX1_callToSend_39 : decode cX1_callToSend 39 = .ok (.bipush 13, 2) := by decide +kernel
theorem dX1_callToSend_41 : decode cX1_callToSend 41 = .ok (.ireturn, 1) := by decide +kernel
theorem dX1_callToSend_42 : decode cX1_callToSend 42 = .ok (.aload_n 0, 1) := by decide +kernel
theorem dX1_callToSend_43 : decode cX1_callToSend 43 = .ok (.iconst 2, 1) := by decide +kernel
theorem dX1_callToSend_44 : decode cX1_callToSend 44 = .ok (.putfield 33, 3) := by decide +kernel
theorem dX1_callToSend_47 : decode cX1_callToSend 47 = .ok (.aload_n 0, 1) := by decide +kernel
theorem dX1_callToSend_48 : decode cX1_callToSend 48 = .ok (.aload_n 0, 1) := by decide +kernel
theorem dX1_callToSend_49 : decode cX1_callToSend 49 = .ok (.getfield 9, 3) := by decide +kernel
theorem dX1_callToSend_52 : decode cX1_callToSend 52 = .ok (.bipush 34, 2) := by decide +kernel
theorem dX1_callToSend_54 : decode cX1_callToSend 54 = .ok (.iaload, 1) := by decide +kernel
theorem dX1_callToSend_55 : decode cX1_callToSend 55 = .ok (.iconst 1, 1) := by decide +kernel
theorem dX1_callToSend_56 : decode cX1_callToSend 56 = .ok (.iadd, 1) := by decide +kernel
theorem dX1_callToSend_57 : decode cX1_callToSend 57 = .ok (.invokevirtual 52, 3) := by decide +kernel
theorem dX1_callToSend_60 : decode cX1_callToSend 60 = .ok (.ireturn, 1) := by decide +kernel
theorem dX1_finish_0 : decode cX1_finish 0 = .ok (.aload_n 0, 1) := by decide +kernel
theorem dX1_finish_1 : decode cX1_finish 1 = .ok (.getfield 33, 3) := by decide +kernel
theorem dX1_finish_4 : decode cX1_finish 4 = .ok (.iconst 3, 1) := by decide +kernel
theorem dX1_finish_5 : decode cX1_finish 5 = .ok (.if_icmp .eq 11, 3) := by decide +kernel
theorem dX1_finish_8 : decode cX1_finish 8 = .ok (.aload_n 0, 1) := by decide +kernel
theorem dX1_finish_9 : decode cX1_finish 9 = .ok (.getfield 33, 3) := by decide +kernel
theorem dX1_finish_12 : decode cX1_finish 12 = .ok (.iconst 4, 1) := by decide +kernel
theorem dX1_finish_13 : decode cX1_finish 13 = .ok (.if_icmp .ne 18, 3) := by decide +kernel
theorem dX1_finish_16 : decode cX1_finish 16 = .ok (.aload_n 0, 1) := by decide +kernel
theorem dX1_finish_17 : decode cX1_finish 17 = .ok (.aload_n 0, 1) := by decide +kernel
theorem dX1_finish_18 : decode cX1_finish 18 = .ok (.getfield 96, 3) := by decide +kernel
theorem dX1_finish_21 : decode cX1_finish 21 = .ok (.aload_n 0, 1) := by decide +kernel
theorem dX1_finish_22 : decode cX1_finish 22 = .ok (.getfield 39, 3) := by decide +kernel
theorem dX1_finish_25 : decode cX1_finish 25 = .ok (.invokevirtual 113, 3) := by decide +kernel
theorem dX1_finish_28 : decode cX1_finish 28 = .ok (.goto 32, 3) := by decide +kernel
theorem dX1_finish_31 : decode cX1_finish 31 = .ok (.aload_n 0, 1) := by decide +kernel
theorem dX1_finish_32 : decode cX1_finish 32 = .ok (.getfield 36, 3) := by decide +kernel
theorem dX1_finish_35 : decode cX1_finish 35 = .ok (.ifCond .le 25, 3) := by decide +kernel
theorem dX1_finish_38 : decode cX1_finish 38 = .ok (.aload_n 0, 1) := by decide +kernel
theorem dX1_finish_39 : decode cX1_finish 39 = .ok (.getfield 36, 3) := by decide +kernel
theorem dX1_finish_42 : decode cX1_finish 42 = .ok (.bipush 32, 2) := by decide +kernel
theorem dX1_finish_44 : decode cX1_finish 44 = .ok (.if_icmp .ge 16, 3) := by decide +kernel
theorem dX1_finish_47 : decode cX1_finish 47 = .ok (.aload_n 0, 1) := by decide +kernel
theorem dX1_finish_48 : decode cX1_finish 48 = .ok (.getfield 9, 3) := by decide +kernel
theorem dX1_finish_51 : decode cX1_finish 51 = .ok (.aload_n 0, 1) := by decide +kernel
theorem dX1_finish_52 : decode cX1_finish 52 = .ok (.getfield 36, 3) := by decide +kernel
theorem dX1_finish_55 : decode cX1_finish 55 = .ok (.aload_n 0, 1) := by decide +kernel
theorem dX1_finish_56 : decode cX1_finish 56 = .ok (.getfield 39, 3) := by decide +kernel
theorem dX1_finish_59 : decode cX1_finish 59 = .ok (.iastore, 1) := by decide +kernel
theorem dX1_finish_60 : decode cX1_finish 60 = .ok (.aload_n 0, 1) := by decide +kernel
theorem dX1_finish_61 : decode cX1_finish 61 = .ok (.getfield 33, 3) := by decide +kernel
theorem dX1_finish_64 : decode cX1_finish 64 = .ok (.iconst 1, 1) := by decide +kernel
theorem dX1_finish_65 : decode cX1_finish 65 = .ok (.if_icmp .ne 14, 3) := by decide +kernel
theorem dX1_finish_68 : decode cX1_finish 68 = .ok (.aload_n 0, 1) := by decide +kernel
theorem dX1_finish_69 : decode cX1_finish 69 = .ok (.getfield 9, 3) := by decide +kernel
theorem dX1_finish_72 : decode cX1_finish 72 = .ok (.bipush 33, 2) := by decide +kernel
theorem dX1_finish_74 : decode cX1_finish 74 = .ok (.dup2, 1) := by decide +kernel
theorem dX1_finish_75 : decode cX1_finish 75 = .ok (.iaload, 1) := by decide +kernel
theorem dX1_finish_76 : decode cX1_finish 76 = .ok (.iconst 1, 1) := by decide +kernel
theorem dX1_finish_77 : decode cX1_finish 77 = .ok (.iadd, 1) := by decide +kernel
theorem dX1_finish_78 : decode cX1_finish 78 = .ok (.iastore, 1) := by decide +kernel
theorem dX1_finish_79 : decode cX1_finish 79 = .ok (.aload_n 0, 1) := by decide +kernel
theorem dX1_finish_80 : decode cX1_finish 80 = .ok (.getfield 33, 3) := by decide +kernel
theorem dX1_finish_83 : decode cX1_finish 83 = .ok (.iconst 2, 1) := by decide +kernel
theorem dX1_finish_84 : decode cX1_finish 84 = .ok (.if_icmp .ne 14, 3) := by decide +kernel
theorem dX1_finish_87 : decode cX1_finish 87 = .ok (.aload_n 0, 1) := by decide +kernel
theorem dX1_finish_88 : decode cX1_finish 88 = .ok (.getfield 9, 3) := by decide +kernel
theorem dX1_finish_91 : decode cX1_finish 91 = .ok (.bipush 34, 2) := by decide +kernel
theorem dX1_finish_93 : decode cX1_finish 93 = .ok (.dup2, 1) := by decide +kernel
theorem dX1_finish_94 : decode cX1_finish 94 = .ok (.iaload, 1) := by decide +kernel
theorem dX1_finish_95 : decode cX1_finish 95 = .ok (.iconst 1, 1) := by decide +kernel
theorem dX1_finish_96 : decode cX1_finish 96 = .ok (.iadd, 1) := by decide +kernel
theorem dX1_finish_97 : decode cX1_finish 97 = .ok (.iastore, 1) := by decide +kernel
theorem dX1_finish_98 : decode cX1_finish 98 = .ok (.aload_n 0, 1) := by decide +kernel
theorem dX1_finish_99 : decode cX1_finish 99 = .ok (.getfield 9, 3) := by decide +kernel
theorem dX1_finish_102 : decode cX1_finish 102 = .ok (.bipush 32, 2) := by decide +kernel
theorem dX1_finish_104 : decode cX1_finish 104 = .ok (.aload_n 0, 1) := by decide +kernel
theorem dX1_finish_105 : decode cX1_finish 105 = .ok (.getfield 42, 3) := by decide +kernel
theorem dX1_finish_108 : decode cX1_finish 108 = .ok (.iastore, 1) := by decide +kernel
theorem dX1_finish_109 : decode cX1_finish 109 = .ok (.aload_n 0, 1) := by decide +kernel
theorem dX1_finish_110 : decode cX1_finish 110 = .ok (.getfield 9, 3) := by decide +kernel
theorem dX1_finish_113 : decode cX1_finish 113 = .ok (.bipush 35, 2) := by decide +kernel
theorem dX1_finish_115 : decode cX1_finish 115 = .ok (.dup2, 1) := by decide +kernel
theorem dX1_finish_116 : decode cX1_finish 116 = .ok (.iaload, 1) := by decide +kernel
theorem dX1_finish_117 : decode cX1_finish 117 = .ok (.iconst 1, 1) := by decide +kernel
theorem dX1_finish_118 : decode cX1_finish 118 = .ok (.iadd, 1) := by decide +kernel
theorem dX1_finish_119 : decode cX1_finish 119 = .ok (.iastore, 1) := by decide +kernel
theorem dX1_finish_120 : decode cX1_finish 120 = .ok (.return_, 1) := by decide +kernel
theorem dX1_kind_0 : decode cX1_kind 0 = .ok (.aload_n 0, 1) := by decide +kernel
theorem dX1_kind_1 : decode cX1_kind 1 = .ok (.getfield 33, 3) := by decide +kernel
theorem dX1_kind_4 : decode cX1_kind 4 = .ok (.ireturn, 1) := by decide +kernel
theorem dX1_cellWritten_0 : decode cX1_cellWritten 0 = .ok (.aload_n 0, 1) := by decide +kernel
theorem dX1_cellWritten_1 : decode cX1_cellWritten 1 = .ok (.getfield 96, 3) := by decide +kernel
theorem dX1_cellWritten_4 : decode cX1_cellWritten 4 = .ok (.ldc 117, 2) := by decide +kernel
theorem dX1_cellWritten_6 : decode cX1_cellWritten 6 = .ok (.isub, 1) := by decide +kernel
theorem dX1_cellWritten_7 : decode cX1_cellWritten 7 = .ok (.iconst 2, 1) := by decide +kernel
theorem dX1_cellWritten_8 : decode cX1_cellWritten 8 = .ok (.ishr, 1) := by decide +kernel
theorem dX1_cellWritten_9 : decode cX1_cellWritten 9 = .ok (.ireturn, 1) := by decide +kernel
theorem dX1_sendLength_0 : decode cX1_sendLength 0 = .ok (.aload_n 0, 1) := by decide +kernel
theorem dX1_sendLength_1 : decode cX1_sendLength 1 = .ok (.getfield 9, 3) := by decide +kernel
theorem dX1_sendLength_4 : decode cX1_sendLength 4 = .ok (.bipush 11, 2) := by decide +kernel
theorem dX1_sendLength_6 : decode cX1_sendLength 6 = .ok (.iaload, 1) := by decide +kernel
theorem dX1_sendLength_7 : decode cX1_sendLength 7 = .ok (.ireturn, 1) := by decide +kernel
theorem dX1_sendPlace_0 : decode cX1_sendPlace 0 = .ok (.aload_n 0, 1) := by decide +kernel
theorem dX1_sendPlace_1 : decode cX1_sendPlace 1 = .ok (.getfield 9, 3) := by decide +kernel
theorem dX1_sendPlace_4 : decode cX1_sendPlace 4 = .ok (.bipush 10, 2) := by decide +kernel
theorem dX1_sendPlace_6 : decode cX1_sendPlace 6 = .ok (.iaload, 1) := by decide +kernel
theorem dX1_sendPlace_7 : decode cX1_sendPlace 7 = .ok (.ireturn, 1) := by decide +kernel
theorem dX1_inRam_0 : decode cX1_inRam 0 = .ok (.iload_n 1, 1) := by decide +kernel
theorem dX1_inRam_1 : decode cX1_inRam 1 = .ok (.ifCond .lt 29, 3) := by decide +kernel
theorem dX1_inRam_4 : decode cX1_inRam 4 = .ok (.iload_n 1, 1) := by decide +kernel
theorem dX1_inRam_5 : decode cX1_inRam 5 = .ok (.aload_n 0, 1) := by decide +kernel
theorem dX1_inRam_6 : decode cX1_inRam 6 = .ok (.getfield 18, 3) := by decide +kernel
theorem dX1_inRam_9 : decode cX1_inRam 9 = .ok (.getfield 118, 3) := by decide +kernel
theorem dX1_inRam_12 : decode cX1_inRam 12 = .ok (.if_icmp .ge 18, 3) := by decide +kernel
theorem dX1_inRam_15 : decode cX1_inRam 15 = .ok (.iload_n 1, 1) := by decide +kernel
theorem dX1_inRam_16 : decode cX1_inRam 16 = .ok (.iconst 2, 1) := by decide +kernel
theorem dX1_inRam_17 : decode cX1_inRam 17 = .ok (.ishr, 1) := by decide +kernel
theorem dX1_inRam_18 : decode cX1_inRam 18 = .ok (.aload_n 0, 1) := by decide +kernel
theorem dX1_inRam_19 : decode cX1_inRam 19 = .ok (.getfield 15, 3) := by decide +kernel
theorem dX1_inRam_22 : decode cX1_inRam 22 = .ok (.arraylength, 1) := by decide +kernel
theorem dX1_inRam_23 : decode cX1_inRam 23 = .ok (.if_icmp .ge 7, 3) := by decide +kernel
theorem dX1_inRam_26 : decode cX1_inRam 26 = .ok (.iconst 1, 1) := by decide +kernel
theorem dX1_inRam_27 : decode cX1_inRam 27 = .ok (.goto 4, 3) := by decide +kernel
theorem dX1_inRam_30 : decode cX1_inRam 30 = .ok (.iconst 0, 1) := by decide +kernel
theorem dX1_inRam_31 : decode cX1_inRam 31 = .ok (.ireturn, 1) := by decide +kernel
theorem dX1_holds_0 : decode cX1_holds 0 = .ok (.iload_n 1, 1) := by decide +kernel
theorem dX1_holds_1 : decode cX1_holds 1 = .ok (.ldc 117, 2) := by decide +kernel
theorem dX1_holds_3 : decode cX1_holds 3 = .ok (.isub, 1) := by decide +kernel
theorem dX1_holds_4 : decode cX1_holds 4 = .ok (.istore_n 3, 1) := by decide +kernel
theorem dX1_holds_5 : decode cX1_holds 5 = .ok (.iload_n 1, 1) := by decide +kernel
theorem dX1_holds_6 : decode cX1_holds 6 = .ok (.ifCond .lt 16, 3) := by decide +kernel
theorem dX1_holds_9 : decode cX1_holds 9 = .ok (.iload_n 1, 1) := by decide +kernel
theorem dX1_holds_10 : decode cX1_holds 10 = .ok (.aload_n 0, 1) := by decide +kernel
theorem dX1_holds_11 : decode cX1_holds 11 = .ok (.getfield 18, 3) := by decide +kernel
theorem dX1_holds_14 : decode cX1_holds 14 = .ok (.getfield 118, 3) := by decide +kernel
theorem dX1_holds_17 : decode cX1_holds 17 = .ok (.iload_n 2, 1) := by decide +kernel
theorem dX1_holds_18 : decode cX1_holds 18 = .ok (.isub, 1) := by decide +kernel
theorem dX1_holds_19 : decode cX1_holds 19 = .ok (.if_icmp .le 20, 3) := by decide +kernel
theorem dX1_holds_22 : decode cX1_holds 22 = .ok (.iload_n 3, 1) := by decide +kernel
theorem dX1_holds_23 : decode cX1_holds 23 = .ok (.ifCond .lt 20, 3) := by decide +kernel
theorem dX1_holds_26 : decode cX1_holds 26 = .ok (.iload_n 3, 1) := by decide +kernel
theorem dX1_holds_27 : decode cX1_holds 27 = .ok (.aload_n 0, 1) := by decide +kernel
theorem dX1_holds_28 : decode cX1_holds 28 = .ok (.getfield 18, 3) := by decide +kernel
theorem dX1_holds_31 : decode cX1_holds 31 = .ok (.getfield 121, 3) := by decide +kernel
theorem dX1_holds_34 : decode cX1_holds 34 = .ok (.iload_n 2, 1) := by decide +kernel
theorem dX1_holds_35 : decode cX1_holds 35 = .ok (.isub, 1) := by decide +kernel
theorem dX1_holds_36 : decode cX1_holds 36 = .ok (.if_icmp .gt 7, 3) := by decide +kernel
theorem dX1_holds_39 : decode cX1_holds 39 = .ok (.iconst 1, 1) := by decide +kernel
theorem dX1_holds_40 : decode cX1_holds 40 = .ok (.goto 4, 3) := by decide +kernel
theorem dX1_holds_43 : decode cX1_holds 43 = .ok (.iconst 0, 1) := by decide +kernel
theorem dX1_holds_44 : decode cX1_holds 44 = .ok (.ireturn, 1) := by decide +kernel
theorem dX1_byteAt_0 : decode cX1_byteAt 0 = .ok (.aload_n 0, 1) := by decide +kernel
theorem dX1_byteAt_1 : decode cX1_byteAt 1 = .ok (.iload_n 1, 1) := by decide +kernel
theorem dX1_byteAt_2 : decode cX1_byteAt 2 = .ok (.invokevirtual 49, 3) := by decide +kernel
theorem dX1_byteAt_5 : decode cX1_byteAt 5 = .ok (.bipush 8, 2) := by decide +kernel
theorem dX1_byteAt_7 : decode cX1_byteAt 7 = .ok (.iload_n 1, 1) := by decide +kernel
theorem dX1_byteAt_8 : decode cX1_byteAt 8 = .ok (.iconst 3, 1) := by decide +kernel
theorem dX1_byteAt_9 : decode cX1_byteAt 9 = .ok (.iand, 1) := by decide +kernel
theorem dX1_byteAt_10 : decode cX1_byteAt 10 = .ok (.imul, 1) := by decide +kernel
theorem dX1_byteAt_11 : decode cX1_byteAt 11 = .ok (.iushr, 1) := by decide +kernel
theorem dX1_byteAt_12 : decode cX1_byteAt 12 = .ok (.sipush 255, 3) := by decide +kernel
theorem dX1_byteAt_15 : decode cX1_byteAt 15 = .ok (.iand, 1) := by decide +kernel
theorem dX1_byteAt_16 : decode cX1_byteAt 16 = .ok (.ireturn, 1) := by decide +kernel
theorem dX1_wordAt_0 : decode cX1_wordAt 0 = .ok (.aload_n 0, 1) := by decide +kernel
theorem dX1_wordAt_1 : decode cX1_wordAt 1 = .ok (.iload_n 1, 1) := by decide +kernel
theorem dX1_wordAt_2 : decode cX1_wordAt 2 = .ok (.invokevirtual 92, 3) := by decide +kernel
theorem dX1_wordAt_5 : decode cX1_wordAt 5 = .ok (.ifCond .eq 12, 3) := by decide +kernel
theorem dX1_wordAt_8 : decode cX1_wordAt 8 = .ok (.aload_n 0, 1) := by decide +kernel
theorem dX1_wordAt_9 : decode cX1_wordAt 9 = .ok (.getfield 15, 3) := by decide +kernel
theorem dX1_wordAt_12 : decode cX1_wordAt 12 = .ok (.iload_n 1, 1) := by decide +kernel
theorem dX1_wordAt_13 : decode cX1_wordAt 13 = .ok (.iconst 2, 1) := by decide +kernel
theorem dX1_wordAt_14 : decode cX1_wordAt 14 = .ok (.ishr, 1) := by decide +kernel
theorem dX1_wordAt_15 : decode cX1_wordAt 15 = .ok (.iaload, 1) := by decide +kernel
theorem dX1_wordAt_16 : decode cX1_wordAt 16 = .ok (.ireturn, 1) := by decide +kernel
theorem dX1_wordAt_17 : decode cX1_wordAt 17 = .ok (.aload_n 0, 1) := by decide +kernel
theorem dX1_wordAt_18 : decode cX1_wordAt 18 = .ok (.getfield 25, 3) := by decide +kernel
theorem dX1_wordAt_21 : decode cX1_wordAt 21 = .ok (.iload_n 1, 1) := by decide +kernel
theorem dX1_wordAt_22 : decode cX1_wordAt 22 = .ok (.ldc 117, 2) := by decide +kernel
theorem dX1_wordAt_24 : decode cX1_wordAt 24 = .ok (.isub, 1) := by decide +kernel
theorem dX1_wordAt_25 : decode cX1_wordAt 25 = .ok (.iconst 2, 1) := by decide +kernel
theorem dX1_wordAt_26 : decode cX1_wordAt 26 = .ok (.ishr, 1) := by decide +kernel
theorem dX1_wordAt_27 : decode cX1_wordAt 27 = .ok (.iadd, 1) := by decide +kernel
theorem dX1_wordAt_28 : decode cX1_wordAt 28 = .ok (.istore_n 2, 1) := by decide +kernel
theorem dX1_wordAt_29 : decode cX1_wordAt 29 = .ok (.iload_n 2, 1) := by decide +kernel
theorem dX1_wordAt_30 : decode cX1_wordAt 30 = .ok (.ifCond .lt 21, 3) := by decide +kernel
theorem dX1_wordAt_33 : decode cX1_wordAt 33 = .ok (.iload_n 2, 1) := by decide +kernel
theorem dX1_wordAt_34 : decode cX1_wordAt 34 = .ok (.aload_n 0, 1) := by decide +kernel
theorem dX1_wordAt_35 : decode cX1_wordAt 35 = .ok (.getfield 22, 3) := by decide +kernel
theorem dX1_wordAt_38 : decode cX1_wordAt 38 = .ok (.arraylength, 1) := by decide +kernel
theorem dX1_wordAt_39 : decode cX1_wordAt 39 = .ok (.if_icmp .ge 12, 3) := by decide +kernel
theorem dX1_wordAt_42 : decode cX1_wordAt 42 = .ok (.aload_n 0, 1) := by decide +kernel
theorem dX1_wordAt_43 : decode cX1_wordAt 43 = .ok (.getfield 22, 3) := by decide +kernel
theorem dX1_wordAt_46 : decode cX1_wordAt 46 = .ok (.iload_n 2, 1) := by decide +kernel
theorem dX1_wordAt_47 : decode cX1_wordAt 47 = .ok (.iaload, 1) := by decide +kernel
theorem dX1_wordAt_48 : decode cX1_wordAt 48 = .ok (.goto 4, 3) := by decide +kernel
theorem dX1_wordAt_51 : decode cX1_wordAt 51 = .ok (.iconst 0, 1) := by decide +kernel
theorem dX1_wordAt_52 : decode cX1_wordAt 52 = .ok (.ireturn, 1) := by decide +kernel
theorem dX1_putWord_0 : decode cX1_putWord 0 = .ok (.aload_n 0, 1) := by decide +kernel
theorem dX1_putWord_1 : decode cX1_putWord 1 = .ok (.getfield 25, 3) := by decide +kernel
theorem dX1_putWord_4 : decode cX1_putWord 4 = .ok (.iload_n 1, 1) := by decide +kernel
theorem dX1_putWord_5 : decode cX1_putWord 5 = .ok (.ldc 117, 2) := by decide +kernel
theorem dX1_putWord_7 : decode cX1_putWord 7 = .ok (.isub, 1) := by decide +kernel
theorem dX1_putWord_8 : decode cX1_putWord 8 = .ok (.iconst 2, 1) := by decide +kernel
theorem dX1_putWord_9 : decode cX1_putWord 9 = .ok (.ishr, 1) := by decide +kernel
theorem dX1_putWord_10 : decode cX1_putWord 10 = .ok (.iadd, 1) := by decide +kernel
theorem dX1_putWord_11 : decode cX1_putWord 11 = .ok (.istore_n 3, 1) := by decide +kernel
theorem dX1_putWord_12 : decode cX1_putWord 12 = .ok (.aload_n 0, 1) := by decide +kernel
theorem dX1_putWord_13 : decode cX1_putWord 13 = .ok (.iload_n 1, 1) := by decide +kernel
theorem dX1_putWord_14 : decode cX1_putWord 14 = .ok (.invokevirtual 92, 3) := by decide +kernel
theorem dX1_putWord_17 : decode cX1_putWord 17 = .ok (.ifCond .eq 15, 3) := by decide +kernel
theorem dX1_putWord_20 : decode cX1_putWord 20 = .ok (.aload_n 0, 1) := by decide +kernel
theorem dX1_putWord_21 : decode cX1_putWord 21 = .ok (.getfield 15, 3) := by decide +kernel
theorem dX1_putWord_24 : decode cX1_putWord 24 = .ok (.iload_n 1, 1) := by decide +kernel
theorem dX1_putWord_25 : decode cX1_putWord 25 = .ok (.iconst 2, 1) := by decide +kernel
theorem dX1_putWord_26 : decode cX1_putWord 26 = .ok (.ishr, 1) := by decide +kernel
theorem dX1_putWord_27 : decode cX1_putWord 27 = .ok (.iload_n 2, 1) := by decide +kernel
theorem dX1_putWord_28 : decode cX1_putWord 28 = .ok (.iastore, 1) := by decide +kernel
theorem dX1_putWord_29 : decode cX1_putWord 29 = .ok (.goto 23, 3) := by decide +kernel
theorem dX1_putWord_32 : decode cX1_putWord 32 = .ok (.iload_n 3, 1) := by decide +kernel
theorem dX1_putWord_33 : decode cX1_putWord 33 = .ok (.ifCond .lt 19, 3) := by decide +kernel
theorem dX1_putWord_36 : decode cX1_putWord 36 = .ok (.iload_n 3, 1) := by decide +kernel
theorem dX1_putWord_37 : decode cX1_putWord 37 = .ok (.aload_n 0, 1) := by decide +kernel
theorem dX1_putWord_38 : decode cX1_putWord 38 = .ok (.getfield 22, 3) := by decide +kernel
theorem dX1_putWord_41 : decode cX1_putWord 41 = .ok (.arraylength, 1) := by decide +kernel
theorem dX1_putWord_42 : decode cX1_putWord 42 = .ok (.if_icmp .ge 10, 3) := by decide +kernel
theorem dX1_putWord_45 : decode cX1_putWord 45 = .ok (.aload_n 0, 1) := by decide +kernel
theorem dX1_putWord_46 : decode cX1_putWord 46 = .ok (.getfield 22, 3) := by decide +kernel
theorem dX1_putWord_49 : decode cX1_putWord 49 = .ok (.iload_n 3, 1) := by decide +kernel
theorem dX1_putWord_50 : decode cX1_putWord 50 = .ok (.iload_n 2, 1) := by decide +kernel
theorem dX1_putWord_51 : decode cX1_putWord 51 = .ok (.iastore, 1) := by decide +kernel
theorem dX1_putWord_52 : decode cX1_putWord 52 = .ok (.return_, 1) := by decide +kernel
theorem dX2_init_0 : decode cX2_init 0 = .ok (.aload_n 0, 1) := by decide +kernel
theorem dX2_init_1 : decode cX2_init 1 = .ok (.invokespecial 3, 3) := by decide +kernel
theorem dX2_init_4 : decode cX2_init 4 = .ok (.aload_n 0, 1) := by decide +kernel
theorem dX2_init_5 : decode cX2_init 5 = .ok (.sipush 6219, 3) := by decide +kernel
theorem dX2_init_8 : decode cX2_init 8 = .ok (.newarray .int, 2) := by decide +kernel
theorem dX2_init_10 : decode cX2_init 10 = .ok (.putfield 11, 3) := by decide +kernel
theorem dX2_init_13 : decode cX2_init 13 = .ok (.aload_n 0, 1) := by decide +kernel
theorem dX2_init_14 : decode cX2_init 14 = .ok (.sipush 2048, 3) := by decide +kernel
theorem dX2_init_17 : decode cX2_init 17 = .ok (.newarray .int, 2) := by decide +kernel
theorem dX2_init_19 : decode cX2_init 19 = .ok (.putfield 15, 3) := by decide +kernel
theorem dX2_init_22 : decode cX2_init 22 = .ok (.aload_n 0, 1) := by decide +kernel
theorem dX2_init_23 : decode cX2_init 23 = .ok (.bipush 7, 2) := by decide +kernel
theorem dX2_init_25 : decode cX2_init 25 = .ok (.newarray .int, 2) := by decide +kernel
theorem dX2_init_27 : decode cX2_init 27 = .ok (.putfield 18, 3) := by decide +kernel
theorem dX2_init_30 : decode cX2_init 30 = .ok (.aload_n 0, 1) := by decide +kernel
theorem dX2_init_31 : decode cX2_init 31 = .ok (.new 21, 3) := by decide +kernel
theorem dX2_init_34 : decode cX2_init 34 = .ok (.dup, 1) := by decide +kernel
theorem dX2_init_35 : decode cX2_init 35 = .ok (.invokespecial 23, 3) := by decide +kernel
theorem dX2_init_38 : decode cX2_init 38 = .ok (.putfield 24, 3) := by decide +kernel
theorem dX2_init_41 : decode cX2_init 41 = .ok (.aload_n 0, 1) := by decide +kernel
theorem dX2_init_42 : decode cX2_init 42 = .ok (.aload_n 1, 1) := by decide +kernel
theorem dX2_init_43 : decode cX2_init 43 = .ok (.putfield 28, 3) := by decide +kernel
theorem dX2_init_46 : decode cX2_init 46 = .ok (.aload_n 0, 1) := by decide +kernel
theorem dX2_init_47 : decode cX2_init 47 = .ok (.new 32, 3) := by decide +kernel
theorem dX2_init_50 : decode cX2_init 50 = .ok (.dup, 1) := by decide +kernel
theorem dX2_init_51 : decode cX2_init 51 = .ok (.aload_n 1, 1) := by decide +kernel
theorem dX2_init_52 : decode cX2_init 52 = .ok (.aload_n 0, 1) := by decide +kernel
theorem dX2_init_53 : decode cX2_init 53 = .ok (.getfield 11, 3) := by decide +kernel
theorem dX2_init_56 : decode cX2_init 56 = .ok (.invokespecial 34, 3) := by decide +kernel
theorem dX2_init_59 : decode cX2_init 59 = .ok (.putfield 37, 3) := by decide +kernel
theorem dX2_init_62 : decode cX2_init 62 = .ok (.aload_n 0, 1) := by decide +kernel
theorem dX2_init_63 : decode cX2_init 63 = .ok (.iconst 0, 1) := by decide +kernel
theorem dX2_init_64 : decode cX2_init 64 = .ok (.putfield 41, 3) := by decide +kernel
theorem dX2_init_67 : decode cX2_init 67 = .ok (.return_, 1) := by decide +kernel
theorem dX2_makeNew_0 : decode cX2_makeNew 0 = .ok (.aload_n 0, 1) := by decide +kernel
theorem dX2_makeNew_1 : decode cX2_makeNew 1 = .ok (.iconst 3, 1) := by decide +kernel
theorem dX2_makeNew_2 : decode cX2_makeNew 2 = .ok (.iconst 2, 1) := by decide +kernel
theorem dX2_makeNew_3 : decode cX2_makeNew 3 = .ok (.aload_n 0, 1) := by decide +kernel
theorem dX2_makeNew_4 : decode cX2_makeNew 4 = .ok (.getfield 28, 3) := by decide +kernel
theorem dX2_makeNew_7 : decode cX2_makeNew 7 = .ok (.invokevirtual 45, 3) := by decide +kernel
theorem dX2_makeNew_10 : decode cX2_makeNew 10 = .ok (.imul, 1) := by decide +kernel
theorem dX2_makeNew_11 : decode cX2_makeNew 11 = .ok (.iadd, 1) := by decide +kernel
theorem dX2_makeNew_12 : decode cX2_makeNew 12 = .ok (.putfield 51, 3) := by decide +kernel
theorem dX2_makeNew_15 : decode cX2_makeNew 15 = .ok (.aload_n 0, 1) := by decide +kernel
theorem dX2_makeNew_16 : decode cX2_makeNew 16 = .ok (.aload_n 0, 1) := by decide +kernel
theorem dX2_makeNew_17 : decode cX2_makeNew 17 = .ok (.getfield 51, 3) := by decide +kernel
theorem dX2_makeNew_20 : decode cX2_makeNew 20 = .ok (.iconst 2, 1) := by decide +kernel
theorem dX2_makeNew_21 : decode cX2_makeNew 21 = .ok (.aload_n 0, 1) := by decide +kernel
theorem dX2_makeNew_22 : decode cX2_makeNew 22 = .ok (.getfield 28, 3) := by decide +kernel
theorem dX2_makeNew_25 : decode cX2_makeNew 25 = .ok (.getfield 54, 3) := by decide +kernel
theorem dX2_makeNew_28 : decode cX2_makeNew 28 = .ok (.imul, 1) := by decide +kernel
theorem dX2_makeNew_29 : decode cX2_makeNew 29 = .ok (.iadd, 1) := by decide +kernel
theorem dX2_makeNew_30 : decode cX2_makeNew 30 = .ok (.putfield 57, 3) := by decide +kernel
theorem dX2_makeNew_33 : decode cX2_makeNew 33 = .ok (.aload_n 0, 1) := by decide +kernel
theorem dX2_makeNew_34 : decode cX2_makeNew 34 = .ok (.aload_n 0, 1) := by decide +kernel
theorem dX2_makeNew_35 : decode cX2_makeNew 35 = .ok (.getfield 57, 3) := by decide +kernel
theorem dX2_makeNew_38 : decode cX2_makeNew 38 = .ok (.aload_n 0, 1) := by decide +kernel
theorem dX2_makeNew_39 : decode cX2_makeNew 39 = .ok (.getfield 28, 3) := by decide +kernel
theorem dX2_makeNew_42 : decode cX2_makeNew 42 = .ok (.getfield 60, 3) := by decide +kernel
theorem dX2_makeNew_45 : decode cX2_makeNew 45 = .ok (.iconst 4, 1) := by decide +kernel
theorem dX2_makeNew_46 : decode cX2_makeNew 46 = .ok (.idiv, 1) := by decide +kernel
theorem dX2_makeNew_47 : decode cX2_makeNew 47 = .ok (.iadd, 1) := by decide +kernel
theorem dX2_makeNew_48 : decode cX2_makeNew 48 = .ok (.putfield 63, 3) := by decide +kernel
theorem dX2_makeNew_51 : decode cX2_makeNew 51 = .ok (.iconst 0, 1) := by decide +kernel
theorem dX2_makeNew_52 : decode cX2_makeNew 52 = .ok (.istore_n 1, 1) := by decide +kernel
theorem dX2_makeNew_53 : decode cX2_makeNew 53 = .ok (.iload_n 1, 1) := by decide +kernel
theorem dX2_makeNew_54 : decode cX2_makeNew 54 = .ok (.aload_n 0, 1) := by decide +kernel
theorem dX2_makeNew_55 : decode cX2_makeNew 55 = .ok (.getfield 11, 3) := by decide +kernel
theorem dX2_makeNew_58 : decode cX2_makeNew 58 = .ok (.arraylength, 1) := by decide +kernel
theorem dX2_makeNew_59 : decode cX2_makeNew 59 = .ok (.if_icmp .ge 16, 3) := by decide +kernel
theorem dX2_makeNew_62 : decode cX2_makeNew 62 = .ok (.aload_n 0, 1) := by decide +kernel
theorem dX2_makeNew_63 : decode cX2_makeNew 63 = .ok (.getfield 11, 3) := by decide +kernel
theorem dX2_makeNew_66 : decode cX2_makeNew 66 = .ok (.iload_n 1, 1) := by decide +kernel
theorem dX2_makeNew_67 : decode cX2_makeNew 67 = .ok (.iconst 0, 1) := by decide +kernel
theorem dX2_makeNew_68 : decode cX2_makeNew 68 = .ok (.iastore, 1) := by decide +kernel
theorem dX2_makeNew_69 : decode cX2_makeNew 69 = .ok (.iinc 1 1, 3) := by decide +kernel
theorem dX2_makeNew_72 : decode cX2_makeNew 72 = .ok (.goto (-19), 3) := by decide +kernel
theorem dX2_makeNew_75 : decode cX2_makeNew 75 = .ok (.aload_n 0, 1) := by decide +kernel
theorem dX2_makeNew_76 : decode cX2_makeNew 76 = .ok (.getfield 11, 3) := by decide +kernel
theorem dX2_makeNew_79 : decode cX2_makeNew 79 = .ok (.bipush 35, 2) := by decide +kernel
theorem dX2_makeNew_81 : decode cX2_makeNew 81 = .ok (.aload_n 0, 1) := by decide +kernel
theorem dX2_makeNew_82 : decode cX2_makeNew 82 = .ok (.getfield 28, 3) := by decide +kernel
theorem dX2_makeNew_85 : decode cX2_makeNew 85 = .ok (.getfield 66, 3) := by decide +kernel
theorem dX2_makeNew_88 : decode cX2_makeNew 88 = .ok (.iastore, 1) := by decide +kernel
theorem dX2_makeNew_89 : decode cX2_makeNew 89 = .ok (.aload_n 0, 1) := by decide +kernel
theorem dX2_makeNew_90 : decode cX2_makeNew 90 = .ok (.getfield 28, 3) := by decide +kernel
theorem dX2_makeNew_93 : decode cX2_makeNew 93 = .ok (.aload_n 0, 1) := by decide +kernel
theorem dX2_makeNew_94 : decode cX2_makeNew 94 = .ok (.getfield 11, 3) := by decide +kernel
theorem dX2_makeNew_97 : decode cX2_makeNew 97 = .ok (.aload_n 0, 1) := by decide +kernel
theorem dX2_makeNew_98 : decode cX2_makeNew 98 = .ok (.getfield 57, 3) := by decide +kernel
theorem dX2_makeNew_101 : decode cX2_makeNew 101 = .ok (.invokevirtual 69, 3) := by decide +kernel
theorem dX2_makeNew_104 : decode cX2_makeNew 104 = .ok (.aload_n 0, 1) := by decide +kernel
theorem dX2_makeNew_105 : decode cX2_makeNew 105 = .ok (.getfield 37, 3) := by decide +kernel
theorem dX2_makeNew_108 : decode cX2_makeNew 108 = .ok (.aload_n 0, 1) := by decide +kernel
theorem dX2_makeNew_109 : decode cX2_makeNew 109 = .ok (.getfield 57, 3) := by decide +kernel
theorem dX2_makeNew_112 : decode cX2_makeNew 112 = .ok (.invokevirtual 73, 3) := by decide +kernel
theorem dX2_makeNew_115 : decode cX2_makeNew 115 = .ok (.iconst 0, 1) := by decide +kernel
theorem dX2_makeNew_116 : decode cX2_makeNew 116 = .ok (.istore_n 1, 1) := by decide +kernel
theorem dX2_makeNew_117 : decode cX2_makeNew 117 = .ok (.iload_n 1, 1) := by decide +kernel
theorem dX2_makeNew_118 : decode cX2_makeNew 118 = .ok (.aload_n 0, 1) := by decide +kernel
theorem dX2_makeNew_119 : decode cX2_makeNew 119 = .ok (.getfield 18, 3) := by decide +kernel
theorem dX2_makeNew_122 : decode cX2_makeNew 122 = .ok (.arraylength, 1) := by decide +kernel
theorem dX2_makeNew_123 : decode cX2_makeNew 123 = .ok (.if_icmp .ge 16, 3) := by decide +kernel
theorem dX2_makeNew_126 : decode cX2_makeNew 126 = .ok (.aload_n 0, 1) := by decide +kernel
theorem dX2_makeNew_127 : decode cX2_makeNew 127 = .ok (.getfield 18, 3) := by decide +kernel
theorem dX2_makeNew_130 : decode cX2_makeNew 130 = .ok (.iload_n 1, 1) := by decide +kernel
theorem dX2_makeNew_131 : decode cX2_makeNew 131 = .ok (.iconst 0, 1) := by decide +kernel
theorem dX2_makeNew_132 : decode cX2_makeNew 132 = .ok (.iastore, 1) := by decide +kernel
theorem dX2_makeNew_133 : decode cX2_makeNew 133 = .ok (.iinc 1 1, 3) := by decide +kernel
theorem dX2_makeNew_136 : decode cX2_makeNew 136 = .ok (.goto (-19), 3) := by decide +kernel
theorem dX2_makeNew_139 : decode cX2_makeNew 139 = .ok (.aload_n 0, 1) := by decide +kernel
theorem dX2_makeNew_140 : decode cX2_makeNew 140 = .ok (.getfield 24, 3) := by decide +kernel
theorem dX2_makeNew_143 : decode cX2_makeNew 143 = .ok (.invokevirtual 77, 3) := by decide +kernel
theorem dX2_makeNew_146 : decode cX2_makeNew 146 = .ok (.aload_n 0, 1) := by decide +kernel
theorem dX2_makeNew_147 : decode cX2_makeNew 147 = .ok (.iconst 0, 1) := by decide +kernel
theorem dX2_makeNew_148 : decode cX2_makeNew 148 = .ok (.putfield 80, 3) := by decide +kernel
theorem dX2_makeNew_151 : decode cX2_makeNew 151 = .ok (.aload_n 0, 1) := by decide +kernel
theorem dX2_makeNew_152 : decode cX2_makeNew 152 = .ok (.iconst 0, 1) := by decide +kernel
theorem dX2_makeNew_153 : decode cX2_makeNew 153 = .ok (.putfield 83, 3) := by decide +kernel
theorem dX2_makeNew_156 : decode cX2_makeNew 156 = .ok (.aload_n 0, 1) := by decide +kernel
theorem dX2_makeNew_157 : decode cX2_makeNew 157 = .ok (.iconst 0, 1) := by decide +kernel
theorem dX2_makeNew_158 : decode cX2_makeNew 158 = .ok (.putfield 86, 3) := by decide +kernel
theorem dX2_makeNew_161 : decode cX2_makeNew 161 = .ok (.aload_n 0, 1) := by decide +kernel
theorem dX2_makeNew_162 : decode cX2_makeNew 162 = .ok (.iconst 1, 1) := by decide +kernel
theorem dX2_makeNew_163 : decode cX2_makeNew 163 = .ok (.putfield 41, 3) := by decide +kernel
theorem dX2_makeNew_166 : decode cX2_makeNew 166 = .ok (.return_, 1) := by decide +kernel
theorem dX2_hadPower_0 : decode cX2_hadPower 0 = .ok (.aload_n 0, 1) := by decide +kernel
theorem dX2_hadPower_1 : decode cX2_hadPower 1 = .ok (.getfield 86, 3) := by decide +kernel
theorem dX2_hadPower_4 : decode cX2_hadPower 4 = .ok (.ireturn, 1) := by decide +kernel
theorem dX2_hasPower_0 : decode cX2_hasPower 0 = .ok (.aload_n 0, 1) := by decide +kernel
theorem dX2_hasPower_1 : decode cX2_hasPower 1 = .ok (.getfield 41, 3) := by decide +kernel
theorem dX2_hasPower_4 : decode cX2_hasPower 4 = .ok (.iconst 1, 1) := by decide +kernel
theorem dX2_hasPower_5 : decode cX2_hasPower 5 = .ok (.if_icmp .le 7, 3) := by decide +kernel
theorem dX2_hasPower_8 : decode cX2_hasPower 8 = .ok (.iconst 1, 1) := by decide +kernel
theorem dX2_hasPower_9 : decode cX2_hasPower 9 = .ok (.goto 4, 3) := by decide +kernel
theorem dX2_hasPower_12 : decode cX2_hasPower 12 = .ok (.iconst 0, 1) := by decide +kernel
theorem dX2_hasPower_13 : decode cX2_hasPower 13 = .ok (.ireturn, 1) := by decide +kernel
theorem dX2_givePower_0 : decode cX2_givePower 0 = .ok (.aload_n 0, 1) := by decide +kernel
theorem dX2_givePower_1 : decode cX2_givePower 1 = .ok (.getfield 41, 3) := by decide +kernel
theorem dX2_givePower_4 : decode cX2_givePower 4 = .ok (.iconst 1, 1) := by decide +kernel
theorem dX2_givePower_5 : decode cX2_givePower 5 = .ok (.if_icmp .eq 5, 3) := by decide +kernel
theorem dX2_givePower_8 : decode cX2_givePower 8 = .ok (.iconst 0, 1) := by decide +kernel
theorem dX2_givePower_9 : decode cX2_givePower 9 = .ok (.ireturn, 1) := by decide +kernel
theorem dX2_givePower_10 : decode cX2_givePower 10 = .ok (.aload_n 0, 1) := by decide +kernel
theorem dX2_givePower_11 : decode cX2_givePower 11 = .ok (.iconst 1, 1) := by decide +kernel
theorem dX2_givePower_12 : decode cX2_givePower 12 = .ok (.putfield 86, 3) := by decide +kernel
theorem dX2_givePower_15 : decode cX2_givePower 15 = .ok (.aload_n 0, 1) := by decide +kernel
theorem dX2_givePower_16 : decode cX2_givePower 16 = .ok (.iconst 0, 1) := by decide +kernel
theorem dX2_givePower_17 : decode cX2_givePower 17 = .ok (.putfield 83, 3) := by decide +kernel
theorem dX2_givePower_20 : decode cX2_givePower 20 = .ok (.aload_n 0, 1) := by decide +kernel
theorem dX2_givePower_21 : decode cX2_givePower 21 = .ok (.iconst 0, 1) := by decide +kernel
theorem dX2_givePower_22 : decode cX2_givePower 22 = .ok (.putfield 90, 3) := by decide +kernel
theorem dX2_givePower_25 : decode cX2_givePower 25 = .ok (.aload_n 0, 1) := by decide +kernel
theorem dX2_givePower_26 : decode cX2_givePower 26 = .ok (.dup, 1) := by decide +kernel
theorem dX2_givePower_27 : decode cX2_givePower 27 = .ok (.getfield 93, 3) := by decide +kernel
theorem dX2_givePower_30 : decode cX2_givePower 30 = .ok (.iconst 1, 1) := by decide +kernel
theorem dX2_givePower_31 : decode cX2_givePower 31 = .ok (.iadd, 1) := by decide +kernel
theorem dX2_givePower_32 : decode cX2_givePower 32 = .ok (.putfield 93, 3) := by decide +kernel
theorem dX2_givePower_35 : decode cX2_givePower 35 = .ok (.aload_n 0, 1) := by decide +kernel
theorem dX2_givePower_36 : decode cX2_givePower 36 = .ok (.aload_n 0, 1) := by decide +kernel
theorem dX2_givePower_37 : decode cX2_givePower 37 = .ok (.invokevirtual 96, 3) := by decide +kernel
theorem dX2_givePower_40 : decode cX2_givePower 40 = .ok (.invokevirtual 99, 3) := by decide +kernel
theorem dX2_givePower_43 : decode cX2_givePower 43 = .ok (.istore_n 1, 1) := by decide +kernel
theorem dX2_givePower_44 : decode cX2_givePower 44 = .ok (.iconst 0, 1) := by decide +kernel
theorem dX2_givePower_45 : decode cX2_givePower 45 = .ok (.istore_n 2, 1) := by decide +kernel
theorem dX2_givePower_46 : decode cX2_givePower 46 = .ok (.iload_n 2, 1) := by decide +kernel
theorem dX2_givePower_47 : decode cX2_givePower 47 = .ok (.aload_n 0, 1) := by decide +kernel
theorem dX2_givePower_48 : decode cX2_givePower 48 = .ok (.getfield 28, 3) := by decide +kernel
theorem dX2_givePower_51 : decode cX2_givePower 51 = .ok (.invokevirtual 45, 3) := by decide +kernel
theorem dX2_givePower_54 : decode cX2_givePower 54 = .ok (.if_icmp .ge 24, 3) := by decide +kernel
theorem dX2_givePower_57 : decode cX2_givePower 57 = .ok (.aload_n 0, 1) := by decide +kernel
theorem dX2_givePower_58 : decode cX2_givePower 58 = .ok (.getfield 37, 3) := by decide +kernel
theorem dX2_givePower_61 : decode cX2_givePower 61 = .ok (.iload_n 2, 1) := by decide +kernel
theorem dX2_givePower_62 : decode cX2_givePower 62 = .ok (.aload_n 0, 1) := by decide +kernel
theorem dX2_givePower_63 : decode cX2_givePower 63 = .ok (.iload_n 1, 1) := by decide +kernel
theorem dX2_givePower_64 : decode cX2_givePower 64 = .ok (.iload_n 2, 1) := by decide +kernel
theorem dX2_givePower_65 : decode cX2_givePower 65 = .ok (.iadd, 1) := by decide +kernel
theorem dX2_givePower_66 : decode cX2_givePower 66 = .ok (.invokevirtual 103, 3) := by decide +kernel
theorem dX2_givePower_69 : decode cX2_givePower 69 = .ok (.invokevirtual 106, 3) := by decide +kernel
theorem dX2_givePower_72 : decode cX2_givePower 72 = .ok (.iinc 2 1, 3) := by decide +kernel
theorem dX2_givePower_75 : decode cX2_givePower 75 = .ok (.goto (-29), 3) := by decide +kernel
theorem dX2_givePower_78 : decode cX2_givePower 78 = .ok (.aload_n 0, 1) := by decide +kernel
theorem dX2_givePower_79 : decode cX2_givePower 79 = .ok (.invokevirtual 110, 3) := by decide +kernel
theorem dX2_givePower_82 : decode cX2_givePower 82 = .ok (.iconst 1, 1) := by decide +kernel
theorem dX2_givePower_83 : decode cX2_givePower 83 = .ok (.ireturn, 1) := by decide +kernel
theorem dX2_meetLog_0 : decode cX2_meetLog 0 = .ok (.aload_n 0, 1) := by decide +kernel
theorem dX2_meetLog_1 : decode cX2_meetLog 1 = .ok (.getfield 11, 3) := by decide +kernel
theorem dX2_meetLog_4 : decode cX2_meetLog 4 = .ok (.iconst 1, 1) := by decide +kernel
theorem dX2_meetLog_5 : decode cX2_meetLog 5 = .ok (.iaload, 1) := by decide +kernel
theorem dX2_meetLog_6 : decode cX2_meetLog 6 = .ok (.bipush 16, 2) := by decide +kernel
theorem dX2_meetLog_8 : decode cX2_meetLog 8 = .ok (.iushr, 1) := by decide +kernel
theorem dX2_meetLog_9 : decode cX2_meetLog 9 = .ok (.istore_n 1, 1) := by decide +kernel
theorem dX2_meetLog_10 : decode cX2_meetLog 10 = .ok (.iload_n 1, 1) := by decide +kernel
theorem dX2_meetLog_11 : decode cX2_meetLog 11 = .ok (.aload_n 0, 1) := by decide +kernel
theorem dX2_meetLog_12 : decode cX2_meetLog 12 = .ok (.invokevirtual 96, 3) := by decide +kernel
theorem dX2_meetLog_15 : decode cX2_meetLog 15 = .ok (.if_icmp .eq 26, 3) := by decide +kernel
theorem dX2_meetLog_18 : decode cX2_meetLog 18 = .ok (.iload_n 1, 1) := by decide +kernel
theorem dX2_meetLog_19 : decode cX2_meetLog 19 = .ok (.aload_n 0, 1) := by decide +kernel
theorem dX2_meetLog_20 : decode cX2_meetLog 20 = .ok (.invokevirtual 96, 3) := by decide +kernel
theorem dX2_meetLog_23 : decode cX2_meetLog 23 = .ok (.iconst 1, 1) := by decide +kernel
theorem dX2_meetLog_24 : decode cX2_meetLog 24 = .ok (.isub, 1) := by decide +kernel
theorem dX2_meetLog_25 : decode cX2_meetLog 25 = .ok (.ldc 113, 2) := by decide +kernel
theorem dX2_meetLog_27 : decode cX2_meetLog 27 = .ok (.iand, 1) := by decide +kernel
theorem dX2_meetLog_28 : decode cX2_meetLog 28 = .ok (.if_icmp .eq 13, 3) := by decide +kernel
theorem dX2_meetLog_31 : decode cX2_meetLog 31 = .ok (.aload_n 0, 1) := by decide +kernel
theorem dX2_meetLog_32 : decode cX2_meetLog 32 = .ok (.dup, 1) := by decide +kernel
theorem dX2_meetLog_33 : decode cX2_meetLog 33 = .ok (.getfield 80, 3) := by decide +kernel
theorem dX2_meetLog_36 : decode cX2_meetLog 36 = .ok (.iconst 1, 1) := by decide +kernel
theorem dX2_meetLog_37 : decode cX2_meetLog 37 = .ok (.iadd, 1) := by decide +kernel
theorem dX2_meetLog_38 : decode cX2_meetLog 38 = .ok (.putfield 80, 3) := by decide +kernel
theorem dX2_meetLog_41 : decode cX2_meetLog 41 = .ok (.aload_n 0, 1) := by decide +kernel
theorem dX2_meetLog_42 : decode cX2_meetLog 42 = .ok (.iload_n 1, 1) := by decide +kernel
theorem dX2_meetLog_43 : decode cX2_meetLog 43 = .ok (.aload_n 0, 1) := by decide +kernel
theorem dX2_meetLog_44 : decode cX2_meetLog 44 = .ok (.invokevirtual 96, 3) := by decide +kernel
theorem dX2_meetLog_47 : decode cX2_meetLog 47 = .ok (.if_icmp .ne 10, 3) := by decide +kernel
theorem dX2_meetLog_50 : decode cX2_meetLog 50 = .ok (.aload_n 0, 1) := by decide +kernel
theorem dX2_meetLog_51 : decode cX2_meetLog 51 = .ok (.invokevirtual 114, 3) := by decide +kernel
theorem dX2_meetLog_54 : decode cX2_meetLog 54 = .ok (.ifCond .le 7, 3) := by decide +kernel
theorem dX2_meetLog_57 : decode cX2_meetLog 57 = .ok (.iconst 2, 1) := by decide +kernel
theorem dX2_meetLog_58 : decode cX2_meetLog 58 = .ok (.goto 4, 3) := by decide +kernel
theorem dX2_meetLog_61 : decode cX2_meetLog 61 = .ok (.iconst 3, 1) := by decide +kernel
theorem dX2_meetLog_62 : decode cX2_meetLog 62 = .ok (.putfield 41, 3) := by decide +kernel
theorem dX2_meetLog_65 : decode cX2_meetLog 65 = .ok (.return_, 1) := by decide +kernel
theorem dX2_cutPower_0 : decode cX2_cutPower 0 = .ok (.aload_n 0, 1) := by decide +kernel
theorem dX2_cutPower_1 : decode cX2_cutPower 1 = .ok (.invokevirtual 117, 3) := by decide +kernel
theorem dX2_cutPower_4 : decode cX2_cutPower 4 = .ok (.ifCond .ne 5, 3) := by decide +kernel
theorem dX2_cutPower_7 : decode cX2_cutPower 7 = .ok (.iconst 0, 1) := by decide +kernel
theorem dX2_cutPower_8 : decode cX2_cutPower 8 = .ok (.ireturn, 1) := by decide +kernel
theorem dX2_cutPower_9 : decode cX2_cutPower 9 = .ok (.aload_n 0, 1) := by decide +kernel
theorem dX2_cutPower_10 : decode cX2_cutPower 10 = .ok (.getfield 18, 3) := by decide +kernel
theorem dX2_cutPower_13 : decode cX2_cutPower 13 = .ok (.iconst 5, 1) := by decide +kernel
theorem dX2_cutPower_14 : decode cX2_cutPower 14 = .ok (.dup2, 1) := by decide +kernel
theorem dX2_cutPower_15 : decode cX2_cutPower 15 = .ok (.iaload, 1) := by decide +kernel
theorem dX2_cutPower_16 : decode cX2_cutPower 16 = .ok (.iconst 1, 1) := by decide +kernel
theorem dX2_cutPower_17 : decode cX2_cutPower 17 = .ok (.iadd, 1) := by decide +kernel
theorem dX2_cutPower_18 : decode cX2_cutPower 18 = .ok (.iastore, 1) := by decide +kernel
theorem dX2_cutPower_19 : decode cX2_cutPower 19 = .ok (.aload_n 0, 1) := by decide +kernel
theorem dX2_cutPower_20 : decode cX2_cutPower 20 = .ok (.getfield 18, 3) := by decide +kernel
theorem dX2_cutPower_23 : decode cX2_cutPower 23 = .ok (.iconst 3, 1) := by decide +kernel
theorem dX2_cutPower_24 : decode cX2_cutPower 24 = .ok (.dup2, 1) := by decide +kernel
theorem dX2_cutPower_25 : decode cX2_cutPower 25 = .ok (.iaload, 1) := by decide +kernel
theorem dX2_cutPower_26 : decode cX2_cutPower 26 = .ok (.aload_n 0, 1) := by decide +kernel
theorem dX2_cutPower_27 : decode cX2_cutPower 27 = .ok (.getfield 83, 3) := by decide +kernel
theorem dX2_cutPower_30 : decode cX2_cutPower 30 = .ok (.iadd, 1) := by decide +kernel
theorem dX2_cutPower_31 : decode cX2_cutPower 31 = .ok (.iastore, 1) := by decide +kernel
theorem dX2_cutPower_32 : decode cX2_cutPower 32 = .ok (.aload_n 0, 1) := by decide +kernel
theorem dX2_cutPower_33 : decode cX2_cutPower 33 = .ok (.iconst 0, 1) := by decide +kernel
theorem dX2_cutPower_34 : decode cX2_cutPower 34 = .ok (.putfield 83, 3) := by decide +kernel
theorem dX2_cutPower_37 : decode cX2_cutPower 37 = .ok (.aload_n 0, 1) := by decide +kernel
theorem dX2_cutPower_38 : decode cX2_cutPower 38 = .ok (.iconst 1, 1) := by decide +kernel
theorem dX2_cutPower_39 : decode cX2_cutPower 39 = .ok (.putfield 41, 3) := by decide +kernel
theorem dX2_cutPower_42 : decode cX2_cutPower 42 = .ok (.iconst 1, 1) := by decide +kernel
theorem dX2_cutPower_43 : decode cX2_cutPower 43 = .ok (.ireturn, 1) := by decide +kernel
theorem dX2_act_0 : decode cX2_act 0 = .ok (.iconst 0, 1) := by decide +kernel
theorem dX2_act_1 : decode cX2_act 1 = .ok (.istore_n 2, 1) := by decide +kernel
theorem dX2_act_2 : decode cX2_act 2 = .ok (.iload_n 2, 1) := by decide +kernel
theorem dX2_act_3 : decode cX2_act 3 = .ok (.iload_n 1, 1) := by decide +kernel
theorem dX2_act_4 : decode cX2_act 4 = .ok (.if_icmp .ge 79, 3) := by decide +kernel
theorem dX2_act_7 : decode cX2_act 7 = .ok (.aload_n 0, 1) := by decide +kernel
theorem dX2_act_8 : decode cX2_act 8 = .ok (.invokevirtual 117, 3) := by decide +kernel
theorem dX2_act_11 : decode cX2_act 11 = .ok (.ifCond .eq 72, 3) := by decide +kernel
theorem dX2_act_14 : decode cX2_act 14 = .ok (.aload_n 0, 1) := by decide +kernel
theorem dX2_act_15 : decode cX2_act 15 = .ok (.getfield 41, 3) := by decide +kernel
theorem dX2_act_18 : decode cX2_act 18 = .ok (.bipush 6, 2) := by decide +kernel
theorem dX2_act_20 : decode cX2_act 20 = .ok (.if_icmp .ge 63, 3) := by decide +kernel
theorem dX2_act_23 : decode cX2_act 23 = .ok (.aload_n 0, 1) := by decide +kernel
theorem dX2_act_24 : decode cX2_act 24 = .ok (.getfield 41, 3) := by decide +kernel
theorem dX2_act_27 : decode cX2_act 27 = .ok (.iconst 3, 1) := by decide +kernel
theorem dX2_act_28 : decode cX2_act 28 = .ok (.if_icmp .ne 7, 3) := by decide +kernel
theorem dX2_act_31 : decode cX2_act 31 = .ok (.aload_n 0, 1) := by decide +kernel
theorem dX2_act_32 : decode cX2_act 32 = .ok (.invokevirtual 121, 3) := by decide +kernel
theorem dX2_act_35 : decode cX2_act 35 = .ok (.aload_n 0, 1) := by decide +kernel
theorem dX2_act_36 : decode cX2_act 36 = .ok (.getfield 41, 3) := by decide +kernel
theorem dX2_act_39 : decode cX2_act 39 = .ok (.iconst 2, 1) := by decide +kernel
theorem dX2_act_40 : decode cX2_act 40 = .ok (.if_icmp .ne 10, 3) := by decide +kernel
theorem dX2_act_43 : decode cX2_act 43 = .ok (.aload_n 0, 1) := by decide +kernel
theorem dX2_act_44 : decode cX2_act 44 = .ok (.invokevirtual 124, 3) := by decide +kernel
theorem dX2_act_47 : decode cX2_act 47 = .ok (.goto 30, 3) := by decide +kernel
theorem dX2_act_50 : decode cX2_act 50 = .ok (.aload_n 0, 1) := by decide +kernel
theorem dX2_act_51 : decode cX2_act 51 = .ok (.getfield 41, 3) := by decide +kernel
theorem dX2_act_54 : decode cX2_act 54 = .ok (.iconst 4, 1) := by decide +kernel
theorem dX2_act_55 : decode cX2_act 55 = .ok (.if_icmp .ne 10, 3) := by decide +kernel
theorem dX2_act_58 : decode cX2_act 58 = .ok (.aload_n 0, 1) := by decide +kernel
theorem dX2_act_59 : decode cX2_act 59 = .ok (.invokevirtual 127, 3) := by decide +kernel
theorem dX2_act_62 : decode cX2_act 62 = .ok (.goto 15, 3) := by decide +kernel
theorem dX2_act_65 : decode cX2_act 65 = .ok (.aload_n 0, 1) := by decide +kernel
theorem dX2_act_66 : decode cX2_act 66 = .ok (.getfield 41, 3) := by decide +kernel
theorem dX2_act_69 : decode cX2_act 69 = .ok (.iconst 5, 1) := by decide +kernel
theorem dX2_act_70 : decode cX2_act 70 = .ok (.if_icmp .ne 7, 3) := by decide +kernel
theorem dX2_act_73 : decode cX2_act 73 = .ok (.aload_n 0, 1) := by decide +kernel
theorem dX2_act_74 : decode cX2_act 74 = .ok (.invokevirtual 130, 3) := by decide +kernel
theorem dX2_act_77 : decode cX2_act 77 = .ok (.iinc 2 1, 3) := by decide +kernel
theorem dX2_act_80 : decode cX2_act 80 = .ok (.goto (-78), 3) := by decide +kernel
theorem dX2_act_83 : decode cX2_act 83 = .ok (.aload_n 0, 1) := by decide +kernel
theorem dX2_act_84 : decode cX2_act 84 = .ok (.getfield 18, 3) := by decide +kernel
theorem dX2_act_87 : decode cX2_act 87 = .ok (.iconst 0, 1) := by decide +kernel
theorem dX2_act_88 : decode cX2_act 88 = .ok (.dup2, 1) := by decide +kernel
theorem dX2_act_89 : decode cX2_act 89 = .ok (.iaload, 1) := by decide +kernel
theorem dX2_act_90 : decode cX2_act 90 = .ok (.iload_n 2, 1) := by decide +kernel
theorem dX2_act_91 : decode cX2_act 91 = .ok (.iadd, 1) := by decide +kernel
theorem dX2_act_92 : decode cX2_act 92 = .ok (.iastore, 1) := by decide +kernel
theorem dX2_act_93 : decode cX2_act 93 = .ok (.iload_n 2, 1) := by decide +kernel
theorem dX2_act_94 : decode cX2_act 94 = .ok (.ireturn, 1) := by decide +kernel
theorem dX2_choose_0 : decode cX2_choose 0 = .ok (.aload_n 0, 1) := by decide +kernel
theorem dX2_choose_1 : decode cX2_choose 1 = .ok (.iconst 0, 1) := by decide +kernel
theorem dX2_choose_2 : decode cX2_choose 2 = .ok (.putfield 90, 3) := by decide +kernel
theorem dX2_choose_5 : decode cX2_choose 5 = .ok (.aload_n 0, 1) := by decide +kernel
theorem dX2_choose_6 : decode cX2_choose 6 = .ok (.getfield 83, 3) := by decide +kernel
theorem dX2_choose_9 : decode cX2_choose 9 = .ok (.aload_n 0, 1) := by decide +kernel
theorem dX2_choose_10 : decode cX2_choose 10 = .ok (.getfield 28, 3) := by decide +kernel
theorem dX2_choose_13 : decode cX2_choose 13 = .ok (.getfield 133, 3) := by decide +kernel
theorem dX2_choose_16 : decode cX2_choose 16 = .ok (.if_icmp .ne 9, 3) := by decide +kernel
theorem dX2_choose_19 : decode cX2_choose 19 = .ok (.aload_n 0, 1) := by decide +kernel
theorem dX2_choose_20 : decode cX2_choose 20 = .ok (.iconst 4, 1) := by decide +kernel
theorem dX2_choose_21 : decode cX2_choose 21 = .ok (.putfield 41, 3) := by decide +kernel
theorem dX2_choose_24 : decode cX2_choose 24 = .ok (.return_, 1) := by decide +kernel
theorem dX2_choose_25 : decode cX2_choose 25 = .ok (.aload_n 0, 1) := by decide +kernel
theorem dX2_choose_26 : decode cX2_choose 26 = .ok (.getfield 37, 3) := by decide +kernel
theorem dX2_choose_29 : decode cX2_choose 29 = .ok (.invokevirtual 136, 3) := by decide +kernel
theorem dX2_choose_32 : decode cX2_choose 32 = .ok (.istore_n 1, 1) := by decide +kernel
theorem dX2_choose_33 : decode cX2_choose 33 = .ok (.iload_n 1, 1) := by decide +kernel
theorem dX2_choose_34 : decode cX2_choose 34 = .ok (.ifCond .eq 11, 3) := by decide +kernel
theorem dX2_choose_37 : decode cX2_choose 37 = .ok (.aload_n 0, 1) := by decide +kernel
theorem dX2_choose_38 : decode cX2_choose 38 = .ok (.iload_n 1, 1) := by decide +kernel
theorem dX2_choose_39 : decode cX2_choose 39 = .ok (.putfield 41, 3) := by decide +kernel
theorem dX2_choose_42 : decode cX2_choose 42 = .ok (.goto 19, 3) := by decide +kernel
theorem dX2_choose_45 : decode cX2_choose 45 = .ok (.aload_n 0, 1) := by decide +kernel
theorem dX2_choose_46 : decode cX2_choose 46 = .ok (.aload_n 0, 1) := by decide +kernel
theorem dX2_choose_47 : decode cX2_choose 47 = .ok (.invokevirtual 139, 3) := by decide +kernel
theorem dX2_choose_50 : decode cX2_choose 50 = .ok (.ifCond .eq 7, 3) := by decide +kernel
theorem dX2_choose_53 : decode cX2_choose 53 = .ok (.iconst 4, 1) := by decide +kernel
theorem dX2_choose_54 : decode cX2_choose 54 = .ok (.goto 4, 3) := by decide +kernel
theorem dX2_choose_57 : decode cX2_choose 57 = .ok (.iconst 5, 1) := by decide +kernel
theorem dX2_choose_58 : decode cX2_choose 58 = .ok (.putfield 41, 3) := by decide +kernel
theorem dX2_choose_61 : decode cX2_choose 61 = .ok (.return_, 1) := by decide +kernel
theorem dX2_needsCheckpoint_0 : decode cX2_needsCheckpoint 0 = .ok (.aload_n 0, 1) := by decide +kernel
theorem dX2_needsCheckpoint_1 : decode cX2_needsCheckpoint 1 = .ok (.getfield 37, 3) := by decide +kernel
theorem dX2_needsCheckpoint_4 : decode cX2_needsCheckpoint 4 = .ok (.invokevirtual 142, 3) := by decide +kernel
theorem dX2_needsCheckpoint_7 : decode cX2_needsCheckpoint 7 = .ok (.iconst 2, 1) := by decide +kernel
theorem dX2_needsCheckpoint_8 : decode cX2_needsCheckpoint 8 = .ok (.if_icmp .ne 16, 3) := by decide +kernel
theorem dX2_needsCheckpoint_11 : decode cX2_needsCheckpoint 11 = .ok (.aload_n 0, 1) := by decide +kernel
theorem dX2_needsCheckpoint_12 : decode cX2_needsCheckpoint 12 = .ok (.getfield 83, 3) := by decide +kernel
theorem dX2_needsCheckpoint_15 : decode cX2_needsCheckpoint 15 = .ok (.ifCond .le 7, 3) := by decide +kernel
theorem dX2_needsCheckpoint_18 : decode cX2_needsCheckpoint 18 = .ok (.iconst 1, 1) := by decide +kernel
theorem dX2_needsCheckpoint_19 : decode cX2_needsCheckpoint 19 = .ok (.goto 4, 3) := by decide +kernel
theorem dX2_needsCheckpoint_22 : decode cX2_needsCheckpoint 22 = .ok (.iconst 0, 1) := by decide +kernel
theorem dX2_needsCheckpoint_23 : decode cX2_needsCheckpoint 23 = .ok (.ireturn, 1) := by decide +kernel
theorem dX2_needsCheckpoint_24 : decode cX2_needsCheckpoint 24 = .ok (.aload_n 0, 1) := by decide +kernel
theorem dX2_needsCheckpoint_25 : decode cX2_needsCheckpoint 25 = .ok (.invokevirtual 145, 3) := by decide +kernel
theorem dX2_needsCheckpoint_28 : decode cX2_needsCheckpoint 28 = .ok (.ifCond .eq 21, 3) := by decide +kernel
theorem dX2_needsCheckpoint_31 : decode cX2_needsCheckpoint 31 = .ok (.aload_n 0, 1) := by decide +kernel
theorem dX2_needsCheckpoint_32 : decode cX2_needsCheckpoint 32 = .ok (.invokevirtual 114, 3) := by decide +kernel
theorem dX2_needsCheckpoint_35 : decode cX2_needsCheckpoint 35 = .ok (.aload_n 0, 1) := by decide +kernel
theorem dX2_needsCheckpoint_36 : decode cX2_needsCheckpoint 36 = .ok (.getfield 28, 3) := by decide +kernel
theorem dX2_needsCheckpoint_39 : decode cX2_needsCheckpoint 39 = .ok (.getfield 54, 3) := by decide +kernel
theorem dX2_needsCheckpoint_42 : decode cX2_needsCheckpoint 42 = .ok (.if_icmp .lt 7, 3) := by decide +kernel
theorem dX2_needsCheckpoint_45 : decode cX2_needsCheckpoint 45 = .ok (.iconst 1, 1) := by decide +kernel
theorem dX2_needsCheckpoint_46 : decode cX2_needsCheckpoint 46 = .ok (.goto 4, 3) := by decide +kernel
theorem dX2_needsCheckpoint_49 : decode cX2_needsCheckpoint 49 = .ok (.iconst 0, 1) := by decide +kernel
theorem dX2_needsCheckpoint_50 : decode cX2_needsCheckpoint 50 = .ok (.ireturn, 1) := by decide +kernel
theorem dX2_needsEntry_0 : decode cX2_needsEntry 0 = .ok (.aload_n 0, 1) := by decide +kernel
theorem dX2_needsEntry_1 : decode cX2_needsEntry 1 = .ok (.getfield 37, 3) := by decide +kernel
theorem dX2_needsEntry_4 : decode cX2_needsEntry 4 = .ok (.invokevirtual 148, 3) := by decide +kernel
theorem dX2_needsEntry_7 : decode cX2_needsEntry 7 = .ok (.istore_n 1, 1) := by decide +kernel
theorem dX2_needsEntry_8 : decode cX2_needsEntry 8 = .ok (.aload_n 0, 1) := by decide +kernel
theorem dX2_needsEntry_9 : decode cX2_needsEntry 9 = .ok (.getfield 37, 3) := by decide +kernel
theorem dX2_needsEntry_12 : decode cX2_needsEntry 12 = .ok (.invokevirtual 142, 3) := by decide +kernel
theorem dX2_needsEntry_15 : decode cX2_needsEntry 15 = .ok (.iconst 4, 1) := by decide +kernel
theorem dX2_needsEntry_16 : decode cX2_needsEntry 16 = .ok (.if_icmp .ne 33, 3) := by decide +kernel
theorem dX2_needsEntry_19 : decode cX2_needsEntry 19 = .ok (.iload_n 1, 1) := by decide +kernel
theorem dX2_needsEntry_20 : decode cX2_needsEntry 20 = .ok (.ifCond .lt 29, 3) := by decide +kernel
theorem dX2_needsEntry_23 : decode cX2_needsEntry 23 = .ok (.iload_n 1, 1) := by decide +kernel
theorem dX2_needsEntry_24 : decode cX2_needsEntry 24 = .ok (.aload_n 0, 1) := by decide +kernel
theorem dX2_needsEntry_25 : decode cX2_needsEntry 25 = .ok (.getfield 15, 3) := by decide +kernel
theorem dX2_needsEntry_28 : decode cX2_needsEntry 28 = .ok (.arraylength, 1) := by decide +kernel
theorem dX2_needsEntry_29 : decode cX2_needsEntry 29 = .ok (.if_icmp .ge 20, 3) := by decide +kernel
theorem dX2_needsEntry_32 : decode cX2_needsEntry 32 = .ok (.aload_n 0, 1) := by decide +kernel
theorem dX2_needsEntry_33 : decode cX2_needsEntry 33 = .ok (.getfield 15, 3) := by decide +kernel
theorem dX2_needsEntry_36 : decode cX2_needsEntry 36 = .ok (.iload_n 1, 1) := by decide +kernel
theorem dX2_needsEntry_37 : decode cX2_needsEntry 37 = .ok (.iaload, 1) := by decide +kernel
theorem dX2_needsEntry_38 : decode cX2_needsEntry 38 = .ok (.aload_n 0, 1) := by decide +kernel
theorem dX2_needsEntry_39 : decode cX2_needsEntry 39 = .ok (.getfield 93, 3) := by decide +kernel
theorem dX2_needsEntry_42 : decode cX2_needsEntry 42 = .ok (.if_icmp .eq 7, 3) := by decide +kernel
theorem dX2_needsEntry_45 : decode cX2_needsEntry 45 = .ok (.iconst 1, 1) := by decide +kernel
theorem dX2_needsEntry_46 : decode cX2_needsEntry 46 = .ok (.goto 4, 3) := by decide +kernel
theorem dX2_needsEntry_49 : decode cX2_needsEntry 49 = .ok (.iconst 0, 1) := by decide +kernel
theorem dX2_needsEntry_50 : decode cX2_needsEntry 50 = .ok (.ireturn, 1) := by decide +kernel
theorem dX2_boot_0 : decode cX2_boot 0 = .ok (.aload_n 0, 1) := by decide +kernel
theorem dX2_boot_1 : decode cX2_boot 1 = .ok (.getfield 11, 3) := by decide +kernel
theorem dX2_boot_4 : decode cX2_boot 4 = .ok (.iconst 1, 1) := by decide +kernel
theorem dX2_boot_5 : decode cX2_boot 5 = .ok (.iaload, 1) := by decide +kernel
theorem dX2_boot_6 : decode cX2_boot 6 = .ok (.bipush 16, 2) := by decide +kernel
theorem dX2_boot_8 : decode cX2_boot 8 = .ok (.iushr, 1) := by decide +kernel
theorem dX2_boot_9 : decode cX2_boot 9 = .ok (.aload_n 0, 1) := by decide +kernel
theorem dX2_boot_10 : decode cX2_boot 10 = .ok (.invokevirtual 96, 3) := by decide +kernel
theorem dX2_boot_13 : decode cX2_boot 13 = .ok (.if_icmp .ne 7, 3) := by decide +kernel
theorem dX2_boot_16 : decode cX2_boot 16 = .ok (.iconst 1, 1) := by decide +kernel
theorem dX2_boot_17 : decode cX2_boot 17 = .ok (.goto 4, 3) := by decide +kernel
theorem dX2_boot_20 : decode cX2_boot 20 = .ok (.iconst 0, 1) := by decide +kernel
theorem dX2_boot_21 : decode cX2_boot 21 = .ok (.istore_n 1, 1) := by decide +kernel
theorem dX2_boot_22 : decode cX2_boot 22 = .ok (.iload_n 1, 1) := by decide +kernel
theorem dX2_boot_23 : decode cX2_boot 23 = .ok (.ifCond .eq 15, 3) := by decide +kernel
theorem dX2_boot_26 : decode cX2_boot 26 = .ok (.aload_n 0, 1) := by decide +kernel
theorem dX2_boot_27 : decode cX2_boot 27 = .ok (.invokevirtual 114, 3) := by decide +kernel
theorem dX2_boot_30 : decode cX2_boot 30 = .ok (.aload_n 0, 1) := by decide +kernel
theorem dX2_boot_31 : decode cX2_boot 31 = .ok (.getfield 90, 3) := by decide +kernel
theorem dX2_boot_34 : decode cX2_boot 34 = .ok (.isub, 1) := by decide +kernel
theorem dX2_boot_35 : decode cX2_boot 35 = .ok (.goto 4, 3) := by decide +kernel
theorem dX2_boot_38 : decode cX2_boot 38 = .ok (.iconst 0, 1) := by decide +kernel
theorem dX2_boot_39 : decode cX2_boot 39 = .ok (.istore_n 2, 1) := by decide +kernel
theorem dX2_boot_40 : decode cX2_boot 40 = .ok (.iload_n 2, 1) := by decide +kernel
theorem dX2_boot_41 : decode cX2_boot 41 = .ok (.ifCond .le 54, 3) := by decide +kernel
theorem dX2_boot_44 : decode cX2_boot 44 = .ok (.aload_n 0, 1) := by decide +kernel
theorem dX2_boot_45 : decode cX2_boot 45 = .ok (.getfield 51, 3) := by decide +kernel
theorem dX2_boot_48 : decode cX2_boot 48 = .ok (.iconst 2, 1) := by decide +kernel
theorem dX2_boot_49 : decode cX2_boot 49 = .ok (.iload_n 2, 1) := by decide +kernel
theorem dX2_boot_50 : decode cX2_boot 50 = .ok (.iconst 1, 1) := by decide +kernel
theorem dX2_boot_51 : decode cX2_boot 51 = .ok (.isub, 1) := by decide +kernel
theorem dX2_boot_52 : decode cX2_boot 52 = .ok (.imul, 1) := by decide +kernel
theorem dX2_boot_53 : decode cX2_boot 53 = .ok (.iadd, 1) := by decide +kernel
theorem dX2_boot_54 : decode cX2_boot 54 = .ok (.istore_n 3, 1) := by decide +kernel
theorem dX2_boot_55 : decode cX2_boot 55 = .ok (.aload_n 0, 1) := by decide +kernel
theorem dX2_boot_56 : decode cX2_boot 56 = .ok (.aload_n 0, 1) := by decide +kernel
theorem dX2_boot_57 : decode cX2_boot 57 = .ok (.iload_n 3, 1) := by decide +kernel
theorem dX2_boot_58 : decode cX2_boot 58 = .ok (.invokevirtual 103, 3) := by decide +kernel
theorem dX2_boot_61 : decode cX2_boot 61 = .ok (.aload_n 0, 1) := by decide +kernel
theorem dX2_boot_62 : decode cX2_boot 62 = .ok (.iload_n 3, 1) := by decide +kernel
theorem dX2_boot_63 : decode cX2_boot 63 = .ok (.iconst 1, 1) := by decide +kernel
theorem dX2_boot_64 : decode cX2_boot 64 = .ok (.iadd, 1) := by decide +kernel
theorem dX2_boot_65 : decode cX2_boot 65 = .ok (.invokevirtual 103, 3) := by decide +kernel
theorem dX2_boot_68 : decode cX2_boot 68 = .ok (.invokevirtual 151, 3) := by decide +kernel
theorem dX2_boot_71 : decode cX2_boot 71 = .ok (.aload_n 0, 1) := by decide +kernel
theorem dX2_boot_72 : decode cX2_boot 72 = .ok (.getfield 18, 3) := by decide +kernel
theorem dX2_boot_75 : decode cX2_boot 75 = .ok (.bipush 6, 2) := by decide +kernel
theorem dX2_boot_77 : decode cX2_boot 77 = .ok (.dup2, 1) := by decide +kernel
theorem dX2_boot_78 : decode cX2_boot 78 = .ok (.iaload, 1) := by decide +kernel
theorem dX2_boot_79 : decode cX2_boot 79 = .ok (.iconst 1, 1) := by decide +kernel
theorem dX2_boot_80 : decode cX2_boot 80 = .ok (.iadd, 1) := by decide +kernel
theorem dX2_boot_81 : decode cX2_boot 81 = .ok (.iastore, 1) := by decide +kernel
theorem dX2_boot_82 : decode cX2_boot 82 = .ok (.aload_n 0, 1) := by decide +kernel
theorem dX2_boot_83 : decode cX2_boot 83 = .ok (.dup, 1) := by decide +kernel
theorem dX2_boot_84 : decode cX2_boot 84 = .ok (.getfield 90, 3) := by decide +kernel
theorem dX2_boot_87 : decode cX2_boot 87 = .ok (.iconst 1, 1) := by decide +kernel
theorem dX2_boot_88 : decode cX2_boot 88 = .ok (.iadd, 1) := by decide +kernel
theorem dX2_boot_89 : decode cX2_boot 89 = .ok (.putfield 90, 3) := by decide +kernel
theorem dX2_boot_92 : decode cX2_boot 92 = .ok (.goto 20, 3) := by decide +kernel
theorem dX2_boot_95 : decode cX2_boot 95 = .ok (.aload_n 0, 1) := by decide +kernel
theorem dX2_boot_96 : decode cX2_boot 96 = .ok (.iconst 1, 1) := by decide +kernel
theorem dX2_boot_97 : decode cX2_boot 97 = .ok (.aload_n 0, 1) := by decide +kernel
theorem dX2_boot_98 : decode cX2_boot 98 = .ok (.invokevirtual 96, 3) := by decide +kernel
theorem dX2_boot_101 : decode cX2_boot 101 = .ok (.bipush 16, 2) := by decide +kernel
theorem dX2_boot_103 : decode cX2_boot 103 = .ok (.ishl, 1) := by decide +kernel
theorem dX2_boot_104 : decode cX2_boot 104 = .ok (.invokevirtual 151, 3) := by decide +kernel
theorem dX2_boot_107 : decode cX2_boot 107 = .ok (.aload_n 0, 1) := by decide +kernel
theorem dX2_boot_108 : decode cX2_boot 108 = .ok (.iconst 3, 1) := by decide +kernel
theorem dX2_boot_109 : decode cX2_boot 109 = .ok (.putfield 41, 3) := by decide +kernel
theorem dX2_boot_112 : decode cX2_boot 112 = .ok (.return_, 1) := by decide +kernel
theorem dX2_checkpoint_0 : decode cX2_checkpoint 0 = .ok (.aload_n 0, 1) := by decide +kernel
theorem dX2_checkpoint_1 : decode cX2_checkpoint 1 = .ok (.getfield 28, 3) := by decide +kernel
theorem dX2_checkpoint_4 : decode cX2_checkpoint 4 = .ok (.invokevirtual 45, 3) := by decide +kernel
theorem dX2_checkpoint_7 : decode cX2_checkpoint 7 = .ok (.istore_n 1, 1) := by decide +kernel
theorem dX2_checkpoint_8 : decode cX2_checkpoint 8 = .ok (.aload_n 0, 1) := by decide +kernel
theorem dX2_checkpoint_9 : decode cX2_checkpoint 9 = .ok (.invokevirtual 96, 3) := by decide +kernel
theorem dX2_checkpoint_12 : decode cX2_checkpoint 12 = .ok (.iconst 1, 1) := by decide +kernel
theorem dX2_checkpoint_13 : decode cX2_checkpoint 13 = .ok (.iadd, 1) := by decide +kernel
theorem dX2_checkpoint_14 : decode cX2_checkpoint 14 = .ok (.ldc 113, 2) := by decide +kernel
theorem dX2_checkpoint_16 : decode cX2_checkpoint 16 = .ok (.iand, 1) := by decide +kernel
theorem dX2_checkpoint_17 : decode cX2_checkpoint 17 = .ok (.istore_n 2, 1) := by decide +kernel
theorem dX2_checkpoint_18 : decode cX2_checkpoint 18 = .ok (.aload_n 0, 1) := by decide +kernel
theorem dX2_checkpoint_19 : decode cX2_checkpoint 19 = .ok (.getfield 90, 3) := by decide +kernel
theorem dX2_checkpoint_22 : decode cX2_checkpoint 22 = .ok (.iload_n 1, 1) := by decide +kernel
theorem dX2_checkpoint_23 : decode cX2_checkpoint 23 = .ok (.if_icmp .ge 31, 3) := by decide +kernel
theorem dX2_checkpoint_26 : decode cX2_checkpoint 26 = .ok (.aload_n 0, 1) := by decide +kernel
theorem dX2_checkpoint_27 : decode cX2_checkpoint 27 = .ok (.aload_n 0, 1) := by decide +kernel
theorem dX2_checkpoint_28 : decode cX2_checkpoint 28 = .ok (.iload_n 2, 1) := by decide +kernel
theorem dX2_checkpoint_29 : decode cX2_checkpoint 29 = .ok (.invokevirtual 99, 3) := by decide +kernel
theorem dX2_checkpoint_32 : decode cX2_checkpoint 32 = .ok (.aload_n 0, 1) := by decide +kernel
theorem dX2_checkpoint_33 : decode cX2_checkpoint 33 = .ok (.getfield 90, 3) := by decide +kernel
theorem dX2_checkpoint_36 : decode cX2_checkpoint 36 = .ok (.iadd, 1) := by decide +kernel
theorem dX2_checkpoint_37 : decode cX2_checkpoint 37 = .ok (.aload_n 0, 1) := by decide +kernel
theorem dX2_checkpoint_38 : decode cX2_checkpoint 38 = .ok (.getfield 37, 3) := by decide +kernel
theorem dX2_checkpoint_41 : decode cX2_checkpoint 41 = .ok (.aload_n 0, 1) := by decide +kernel
theorem dX2_checkpoint_42 : decode cX2_checkpoint 42 = .ok (.getfield 90, 3) := by decide +kernel
theorem dX2_checkpoint_45 : decode cX2_checkpoint 45 = .ok (.invokevirtual 154, 3) := by decide +kernel
theorem dX2_checkpoint_48 : decode cX2_checkpoint 48 = .ok (.invokevirtual 151, 3) := by decide +kernel
theorem dX2_checkpoint_51 : decode cX2_checkpoint 51 = .ok (.goto 62, 3) := by decide +kernel
theorem dX2_checkpoint_54 : decode cX2_checkpoint 54 = .ok (.aload_n 0, 1) := by decide +kernel
theorem dX2_checkpoint_55 : decode cX2_checkpoint 55 = .ok (.getfield 90, 3) := by decide +kernel
theorem dX2_checkpoint_58 : decode cX2_checkpoint 58 = .ok (.iload_n 1, 1) := by decide +kernel
theorem dX2_checkpoint_59 : decode cX2_checkpoint 59 = .ok (.if_icmp .ne 37, 3) := by decide +kernel
theorem dX2_checkpoint_62 : decode cX2_checkpoint 62 = .ok (.aload_n 0, 1) := by decide +kernel
theorem dX2_checkpoint_63 : decode cX2_checkpoint 63 = .ok (.iconst 0, 1) := by decide +kernel
theorem dX2_checkpoint_64 : decode cX2_checkpoint 64 = .ok (.iload_n 2, 1) := by decide +kernel
theorem dX2_checkpoint_65 : decode cX2_checkpoint 65 = .ok (.invokevirtual 151, 3) := by decide +kernel
theorem dX2_checkpoint_68 : decode cX2_checkpoint 68 = .ok (.aload_n 0, 1) := by decide +kernel
theorem dX2_checkpoint_69 : decode cX2_checkpoint 69 = .ok (.getfield 18, 3) := by decide +kernel
theorem dX2_checkpoint_72 : decode cX2_checkpoint 72 = .ok (.iconst 4, 1) := by decide +kernel
theorem dX2_checkpoint_73 : decode cX2_checkpoint 73 = .ok (.dup2, 1) := by decide +kernel
theorem dX2_checkpoint_74 : decode cX2_checkpoint 74 = .ok (.iaload, 1) := by decide +kernel
theorem dX2_checkpoint_75 : decode cX2_checkpoint 75 = .ok (.iconst 1, 1) := by decide +kernel
theorem dX2_checkpoint_76 : decode cX2_checkpoint 76 = .ok (.iadd, 1) := by decide +kernel
theorem dX2_checkpoint_77 : decode cX2_checkpoint 77 = .ok (.iastore, 1) := by decide +kernel
theorem dX2_checkpoint_78 : decode cX2_checkpoint 78 = .ok (.aload_n 0, 1) := by decide +kernel
theorem dX2_checkpoint_79 : decode cX2_checkpoint 79 = .ok (.iconst 0, 1) := by decide +kernel
theorem dX2_checkpoint_80 : decode cX2_checkpoint 80 = .ok (.putfield 83, 3) := by decide +kernel
theorem dX2_checkpoint_83 : decode cX2_checkpoint 83 = .ok (.aload_n 0, 1) := by decide +kernel
theorem dX2_checkpoint_84 : decode cX2_checkpoint 84 = .ok (.dup, 1) := by decide +kernel
theorem dX2_checkpoint_85 : decode cX2_checkpoint 85 = .ok (.getfield 93, 3) := by decide +kernel
theorem dX2_checkpoint_88 : decode cX2_checkpoint 88 = .ok (.iconst 1, 1) := by decide +kernel
theorem dX2_checkpoint_89 : decode cX2_checkpoint 89 = .ok (.iadd, 1) := by decide +kernel
theorem dX2_checkpoint_90 : decode cX2_checkpoint 90 = .ok (.putfield 93, 3) := by decide +kernel
theorem dX2_checkpoint_93 : decode cX2_checkpoint 93 = .ok (.goto 20, 3) := by decide +kernel
theorem dX2_checkpoint_96 : decode cX2_checkpoint 96 = .ok (.aload_n 0, 1) := by decide +kernel
theorem dX2_checkpoint_97 : decode cX2_checkpoint 97 = .ok (.iconst 1, 1) := by decide +kernel
theorem dX2_checkpoint_98 : decode cX2_checkpoint 98 = .ok (.aload_n 0, 1) := by decide +kernel
theorem dX2_checkpoint_99 : decode cX2_checkpoint 99 = .ok (.invokevirtual 96, 3) := by decide +kernel
theorem dX2_checkpoint_102 : decode cX2_checkpoint 102 = .ok (.bipush 16, 2) := by decide +kernel
theorem dX2_checkpoint_104 : decode cX2_checkpoint 104 = .ok (.ishl, 1) := by decide +kernel
theorem dX2_checkpoint_105 : decode cX2_checkpoint 105 = .ok (.invokevirtual 151, 3) := by decide +kernel
theorem dX2_checkpoint_108 : decode cX2_checkpoint 108 = .ok (.aload_n 0, 1) := by decide +kernel
theorem dX2_checkpoint_109 : decode cX2_checkpoint 109 = .ok (.iconst 3, 1) := by decide +kernel
theorem dX2_checkpoint_110 : decode cX2_checkpoint 110 = .ok (.putfield 41, 3) := by decide +kernel
theorem dX2_checkpoint_113 : decode cX2_checkpoint 113 = .ok (.aload_n 0, 1) := by decide +kernel
theorem dX2_checkpoint_114 : decode cX2_checkpoint 114 = .ok (.dup, 1) := by decide +kernel
theorem dX2_checkpoint_115 : decode cX2_checkpoint 115 = .ok (.getfield 90, 3) := by decide +kernel
theorem dX2_checkpoint_118 : decode cX2_checkpoint 118 = .ok (.iconst 1, 1) := by decide +kernel
theorem dX2_checkpoint_119 : decode cX2_checkpoint 119 = .ok (.iadd, 1) := by decide +kernel
theorem dX2_checkpoint_120 : decode cX2_checkpoint 120 = .ok (.putfield 90, 3) := by decide +kernel
theorem dX2_checkpoint_123 : decode cX2_checkpoint 123 = .ok (.return_, 1) := by decide +kernel
theorem dX2_instruct_0 : decode cX2_instruct 0 = .ok (.aload_n 0, 1) := by decide +kernel
theorem dX2_instruct_1 : decode cX2_instruct 1 = .ok (.getfield 37, 3) := by decide +kernel
theorem dX2_instruct_4 : decode cX2_instruct 4 = .ok (.bipush 34, 2) := by decide +kernel
theorem dX2_instruct_6 : decode cX2_instruct 6 = .ok (.invokevirtual 157, 3) := by decide +kernel
theorem dX2_instruct_9 : decode cX2_instruct 9 = .ok (.iconst 1, 1) := by decide +kernel
theorem dX2_instruct_10 : decode cX2_instruct 10 = .ok (.iadd, 1) := by decide +kernel
theorem dX2_instruct_11 : decode cX2_instruct 11 = .ok (.istore_n 1, 1) := by decide +kernel
theorem dX2_instruct_12 : decode cX2_instruct 12 = .ok (.aload_n 0, 1) := by decide +kernel
theorem dX2_instruct_13 : decode cX2_instruct 13 = .ok (.getfield 37, 3) := by decide +kernel
theorem dX2_instruct_16 : decode cX2_instruct 16 = .ok (.invokevirtual 142, 3) := by decide +kernel
theorem dX2_instruct_19 : decode cX2_instruct 19 = .ok (.iconst 2, 1) := by decide +kernel
theorem dX2_instruct_20 : decode cX2_instruct 20 = .ok (.if_icmp .ne 17, 3) := by decide +kernel
theorem dX2_instruct_23 : decode cX2_instruct 23 = .ok (.aload_n 0, 1) := by decide +kernel
theorem dX2_instruct_24 : decode cX2_instruct 24 = .ok (.getfield 11, 3) := by decide +kernel
theorem dX2_instruct_27 : decode cX2_instruct 27 = .ok (.iconst 2, 1) := by decide +kernel
theorem dX2_instruct_28 : decode cX2_instruct 28 = .ok (.iaload, 1) := by decide +kernel
theorem dX2_instruct_29 : decode cX2_instruct 29 = .ok (.iload_n 1, 1) := by decide +kernel
theorem dX2_instruct_30 : decode cX2_instruct 30 = .ok (.if_icmp .eq 7, 3) := by decide +kernel
theorem dX2_instruct_33 : decode cX2_instruct 33 = .ok (.iconst 1, 1) := by decide +kernel
theorem dX2_instruct_34 : decode cX2_instruct 34 = .ok (.goto 4, 3) := by decide +kernel
theorem dX2_instruct_37 : decode cX2_instruct 37 = .ok (.iconst 0, 1) := by decide +kernel
theorem dX2_instruct_38 : decode cX2_instruct 38 = .ok (.istore_n 2, 1) := by decide +kernel
theorem dX2_instruct_39 : decode cX2_instruct 39 = .ok (.iload_n 2, 1) := by decide +kernel
theorem dX2_instruct_40 : decode cX2_instruct 40 = .ok (.ifCond .eq 31, 3) := by decide +kernel
theorem dX2_instruct_43 : decode cX2_instruct 43 = .ok (.aload_n 0, 1) := by decide +kernel
theorem dX2_instruct_44 : decode cX2_instruct 44 = .ok (.getfield 90, 3) := by decide +kernel
theorem dX2_instruct_47 : decode cX2_instruct 47 = .ok (.ifCond .ne 24, 3) := by decide +kernel
theorem dX2_instruct_50 : decode cX2_instruct 50 = .ok (.aload_n 0, 1) := by decide +kernel
theorem dX2_instruct_51 : decode cX2_instruct 51 = .ok (.getfield 24, 3) := by decide +kernel
theorem dX2_instruct_54 : decode cX2_instruct 54 = .ok (.aload_n 0, 1) := by decide +kernel
theorem dX2_instruct_55 : decode cX2_instruct 55 = .ok (.getfield 37, 3) := by decide +kernel
theorem dX2_instruct_58 : decode cX2_instruct 58 = .ok (.iload_n 1, 1) := by decide +kernel
theorem dX2_instruct_59 : decode cX2_instruct 59 = .ok (.aload_n 0, 1) := by decide +kernel
theorem dX2_instruct_60 : decode cX2_instruct 60 = .ok (.getfield 18, 3) := by decide +kernel
theorem dX2_instruct_63 : decode cX2_instruct 63 = .ok (.iconst 5, 1) := by decide +kernel
theorem dX2_instruct_64 : decode cX2_instruct 64 = .ok (.iaload, 1) := by decide +kernel
theorem dX2_instruct_65 : decode cX2_instruct 65 = .ok (.invokevirtual 160, 3) := by decide +kernel
theorem dX2_instruct_68 : decode cX2_instruct 68 = .ok (.goto 41, 3) := by decide +kernel
theorem dX2_instruct_71 : decode cX2_instruct 71 = .ok (.iload_n 2, 1) := by decide +kernel
theorem dX2_instruct_72 : decode cX2_instruct 72 = .ok (.ifCond .eq 12, 3) := by decide +kernel
theorem dX2_instruct_75 : decode cX2_instruct 75 = .ok (.aload_n 0, 1) := by decide +kernel
theorem dX2_instruct_76 : decode cX2_instruct 76 = .ok (.iconst 2, 1) := by decide +kernel
theorem dX2_instruct_77 : decode cX2_instruct 77 = .ok (.iload_n 1, 1) := by decide +kernel
theorem dX2_instruct_78 : decode cX2_instruct 78 = .ok (.invokevirtual 151, 3) := by decide +kernel
theorem dX2_instruct_81 : decode cX2_instruct 81 = .ok (.goto 28, 3) := by decide +kernel
theorem dX2_instruct_84 : decode cX2_instruct 84 = .ok (.aload_n 0, 1) := by decide +kernel
theorem dX2_instruct_85 : decode cX2_instruct 85 = .ok (.invokevirtual 145, 3) := by decide +kernel
theorem dX2_instruct_88 : decode cX2_instruct 88 = .ok (.ifCond .eq 17, 3) := by decide +kernel
theorem dX2_instruct_91 : decode cX2_instruct 91 = .ok (.aload_n 0, 1) := by decide +kernel
theorem dX2_instruct_92 : decode cX2_instruct 92 = .ok (.aload_n 0, 1) := by decide +kernel
theorem dX2_instruct_93 : decode cX2_instruct 93 = .ok (.getfield 37, 3) := by decide +kernel
theorem dX2_instruct_96 : decode cX2_instruct 96 = .ok (.invokevirtual 148, 3) := by decide +kernel
theorem dX2_instruct_99 : decode cX2_instruct 99 = .ok (.invokevirtual 164, 3) := by decide +kernel
theorem dX2_instruct_102 : decode cX2_instruct 102 = .ok (.goto 7, 3) := by decide +kernel
theorem dX2_instruct_105 : decode cX2_instruct 105 = .ok (.aload_n 0, 1) := by decide +kernel
theorem dX2_instruct_106 : decode cX2_instruct 106 = .ok (.invokevirtual 167, 3) := by decide +kernel
theorem dX2_instruct_109 : decode cX2_instruct 109 = .ok (.aload_n 0, 1) := by decide +kernel
theorem dX2_instruct_110 : decode cX2_instruct 110 = .ok (.dup, 1) := by decide +kernel
theorem dX2_instruct_111 : decode cX2_instruct 111 = .ok (.getfield 90, 3) := by decide +kernel
theorem dX2_instruct_114 : decode cX2_instruct 114 = .ok (.iconst 1, 1) := by decide +kernel
theorem dX2_instruct_115 : decode cX2_instruct 115 = .ok (.iadd, 1) := by decide +kernel
theorem dX2_instruct_116 : decode cX2_instruct 116 = .ok (.putfield 90, 3) := by decide +kernel
theorem dX2_instruct_119 : decode cX2_instruct 119 = .ok (.return_, 1) := by decide +kernel
theorem dX2_log_0 : decode cX2_log 0 = .ok (.aload_n 0, 1) := by decide +kernel
theorem dX2_log_1 : decode cX2_log 1 = .ok (.getfield 51, 3) := by decide +kernel
theorem dX2_log_4 : decode cX2_log 4 = .ok (.iconst 2, 1) := by decide +kernel
theorem dX2_log_5 : decode cX2_log 5 = .ok (.aload_n 0, 1) := by decide +kernel
theorem dX2_log_6 : decode cX2_log 6 = .ok (.invokevirtual 114, 3) := by decide +kernel
theorem dX2_log_9 : decode cX2_log 9 = .ok (.imul, 1) := by decide +kernel
theorem dX2_log_10 : decode cX2_log 10 = .ok (.iadd, 1) := by decide +kernel
theorem dX2_log_11 : decode cX2_log 11 = .ok (.istore_n 2, 1) := by decide +kernel
theorem dX2_log_12 : decode cX2_log 12 = .ok (.aload_n 0, 1) := by decide +kernel
theorem dX2_log_13 : decode cX2_log 13 = .ok (.getfield 90, 3) := by decide +kernel
theorem dX2_log_16 : decode cX2_log 16 = .ok (.ifCond .ne 17, 3) := by decide +kernel
theorem dX2_log_19 : decode cX2_log 19 = .ok (.aload_n 0, 1) := by decide +kernel
theorem dX2_log_20 : decode cX2_log 20 = .ok (.iload_n 2, 1) := by decide +kernel
theorem dX2_log_21 : decode cX2_log 21 = .ok (.aload_n 0, 1) := by decide +kernel
theorem dX2_log_22 : decode cX2_log 22 = .ok (.getfield 57, 3) := by decide +kernel
theorem dX2_log_25 : decode cX2_log 25 = .ok (.iload_n 1, 1) := by decide +kernel
theorem dX2_log_26 : decode cX2_log 26 = .ok (.iadd, 1) := by decide +kernel
theorem dX2_log_27 : decode cX2_log 27 = .ok (.invokevirtual 151, 3) := by decide +kernel
theorem dX2_log_30 : decode cX2_log 30 = .ok (.goto 73, 3) := by decide +kernel
theorem dX2_log_33 : decode cX2_log 33 = .ok (.aload_n 0, 1) := by decide +kernel
theorem dX2_log_34 : decode cX2_log 34 = .ok (.getfield 90, 3) := by decide +kernel
theorem dX2_log_37 : decode cX2_log 37 = .ok (.iconst 1, 1) := by decide +kernel
theorem dX2_log_38 : decode cX2_log 38 = .ok (.if_icmp .ne 23, 3) := by decide +kernel
theorem dX2_log_41 : decode cX2_log 41 = .ok (.aload_n 0, 1) := by decide +kernel
theorem dX2_log_42 : decode cX2_log 42 = .ok (.iload_n 2, 1) := by decide +kernel
theorem dX2_log_43 : decode cX2_log 43 = .ok (.iconst 1, 1) := by decide +kernel
theorem dX2_log_44 : decode cX2_log 44 = .ok (.iadd, 1) := by decide +kernel
theorem dX2_log_45 : decode cX2_log 45 = .ok (.aload_n 0, 1) := by decide +kernel
theorem dX2_log_46 : decode cX2_log 46 = .ok (.aload_n 0, 1) := by decide +kernel
theorem dX2_log_47 : decode cX2_log 47 = .ok (.getfield 57, 3) := by decide +kernel
theorem dX2_log_50 : decode cX2_log 50 = .ok (.iload_n 1, 1) := by decide +kernel
theorem dX2_log_51 : decode cX2_log 51 = .ok (.iadd, 1) := by decide +kernel
theorem dX2_log_52 : decode cX2_log 52 = .ok (.invokevirtual 103, 3) := by decide +kernel
theorem dX2_log_55 : decode cX2_log 55 = .ok (.invokevirtual 151, 3) := by decide +kernel
theorem dX2_log_58 : decode cX2_log 58 = .ok (.goto 45, 3) := by decide +kernel
theorem dX2_log_61 : decode cX2_log 61 = .ok (.aload_n 0, 1) := by decide +kernel
theorem dX2_log_62 : decode cX2_log 62 = .ok (.iconst 1, 1) := by decide +kernel
theorem dX2_log_63 : decode cX2_log 63 = .ok (.aload_n 0, 1) := by decide +kernel
theorem dX2_log_64 : decode cX2_log 64 = .ok (.invokevirtual 96, 3) := by decide +kernel
theorem dX2_log_67 : decode cX2_log 67 = .ok (.bipush 16, 2) := by decide +kernel
theorem dX2_log_69 : decode cX2_log 69 = .ok (.ishl, 1) := by decide +kernel
theorem dX2_log_70 : decode cX2_log 70 = .ok (.aload_n 0, 1) := by decide +kernel
theorem dX2_log_71 : decode cX2_log 71 = .ok (.invokevirtual 114, 3) := by decide +kernel
theorem dX2_log_74 : decode cX2_log 74 = .ok (.iconst 1, 1) := by decide +kernel
theorem dX2_log_75 : decode cX2_log 75 = .ok (.iadd, 1) := by decide +kernel
theorem dX2_log_76 : decode cX2_log 76 = .ok (.ior, 1) := by decide +kernel
theorem dX2_log_77 : decode cX2_log 77 = .ok (.invokevirtual 151, 3) := by decide +kernel
theorem dX2_log_80 : decode cX2_log 80 = .ok (.iload_n 1, 1) := by decide +kernel
theorem dX2_log_81 : decode cX2_log 81 = .ok (.ifCond .lt 22, 3) := by decide +kernel
theorem dX2_log_84 : decode cX2_log 84 = .ok (.iload_n 1, 1) := by decide +kernel
theorem dX2_log_85 : decode cX2_log 85 = .ok (.aload_n 0, 1) := by decide +kernel
theorem dX2_log_86 : decode cX2_log 86 = .ok (.getfield 15, 3) := by decide +kernel
theorem dX2_log_89 : decode cX2_log 89 = .ok (.arraylength, 1) := by decide +kernel
theorem dX2_log_90 : decode cX2_log 90 = .ok (.if_icmp .ge 13, 3) := by decide +kernel
theorem dX2_log_93 : decode cX2_log 93 = .ok (.aload_n 0, 1) := by decide +kernel
theorem dX2_log_94 : decode cX2_log 94 = .ok (.getfield 15, 3) := by decide +kernel
theorem dX2_log_97 : decode cX2_log 97 = .ok (.iload_n 1, 1) := by decide +kernel
theorem dX2_log_98 : decode cX2_log 98 = .ok (.aload_n 0, 1) := by decide +kernel
theorem dX2_log_99 : decode cX2_log 99 = .ok (.getfield 93, 3) := by decide +kernel
theorem dX2_log_102 : decode cX2_log 102 = .ok (.iastore, 1) := by decide +kernel
theorem dX2_log_103 : decode cX2_log 103 = .ok (.return_, 1) := by decide +kernel
theorem dX2_finish_0 : decode cX2_finish 0 = .ok (.aload_n 0, 1) := by decide +kernel
theorem dX2_finish_1 : decode cX2_finish 1 = .ok (.getfield 37, 3) := by decide +kernel
theorem dX2_finish_4 : decode cX2_finish 4 = .ok (.invokevirtual 142, 3) := by decide +kernel
theorem dX2_finish_7 : decode cX2_finish 7 = .ok (.iconst 4, 1) := by decide +kernel
theorem dX2_finish_8 : decode cX2_finish 8 = .ok (.if_icmp .ne 13, 3) := by decide +kernel
theorem dX2_finish_11 : decode cX2_finish 11 = .ok (.aload_n 0, 1) := by decide +kernel
theorem dX2_finish_12 : decode cX2_finish 12 = .ok (.getfield 18, 3) := by decide +kernel
theorem dX2_finish_15 : decode cX2_finish 15 = .ok (.iconst 1, 1) := by decide +kernel
theorem dX2_finish_16 : decode cX2_finish 16 = .ok (.dup2, 1) := by decide +kernel
theorem dX2_finish_17 : decode cX2_finish 17 = .ok (.iaload, 1) := by decide +kernel
theorem dX2_finish_18 : decode cX2_finish 18 = .ok (.iconst 1, 1) := by decide +kernel
theorem dX2_finish_19 : decode cX2_finish 19 = .ok (.iadd, 1) := by decide +kernel
theorem dX2_finish_20 : decode cX2_finish 20 = .ok (.iastore, 1) := by decide +kernel
theorem dX2_finish_21 : decode cX2_finish 21 = .ok (.aload_n 0, 1) := by decide +kernel
theorem dX2_finish_22 : decode cX2_finish 22 = .ok (.getfield 37, 3) := by decide +kernel
theorem dX2_finish_25 : decode cX2_finish 25 = .ok (.invokevirtual 142, 3) := by decide +kernel
theorem dX2_finish_28 : decode cX2_finish 28 = .ok (.iconst 2, 1) := by decide +kernel
theorem dX2_finish_29 : decode cX2_finish 29 = .ok (.if_icmp .ne 34, 3) := by decide +kernel
theorem dX2_finish_32 : decode cX2_finish 32 = .ok (.aload_n 0, 1) := by decide +kernel
theorem dX2_finish_33 : decode cX2_finish 33 = .ok (.getfield 24, 3) := by decide +kernel
theorem dX2_finish_36 : decode cX2_finish 36 = .ok (.invokevirtual 170, 3) := by decide +kernel
theorem dX2_finish_39 : decode cX2_finish 39 = .ok (.aload_n 0, 1) := by decide +kernel
theorem dX2_finish_40 : decode cX2_finish 40 = .ok (.getfield 37, 3) := by decide +kernel
theorem dX2_finish_43 : decode cX2_finish 43 = .ok (.bipush 34, 2) := by decide +kernel
theorem dX2_finish_45 : decode cX2_finish 45 = .ok (.invokevirtual 157, 3) := by decide +kernel
theorem dX2_finish_48 : decode cX2_finish 48 = .ok (.iconst 1, 1) := by decide +kernel
theorem dX2_finish_49 : decode cX2_finish 49 = .ok (.iadd, 1) := by decide +kernel
theorem dX2_finish_50 : decode cX2_finish 50 = .ok (.if_icmp .eq 13, 3) := by decide +kernel
theorem dX2_finish_53 : decode cX2_finish 53 = .ok (.aload_n 0, 1) := by decide +kernel
theorem dX2_finish_54 : decode cX2_finish 54 = .ok (.dup, 1) := by decide +kernel
theorem dX2_finish_55 : decode cX2_finish 55 = .ok (.getfield 80, 3) := by decide +kernel
theorem dX2_finish_58 : decode cX2_finish 58 = .ok (.iconst 1, 1) := by decide +kernel
theorem dX2_finish_59 : decode cX2_finish 59 = .ok (.iadd, 1) := by decide +kernel
theorem dX2_finish_60 : decode cX2_finish 60 = .ok (.putfield 80, 3) := by decide +kernel
theorem dX2_finish_63 : decode cX2_finish 63 = .ok (.aload_n 0, 1) := by decide +kernel
theorem dX2_finish_64 : decode cX2_finish 64 = .ok (.getfield 37, 3) := by decide +kernel
theorem dX2_finish_67 : decode cX2_finish 67 = .ok (.invokevirtual 173, 3) := by decide +kernel
theorem dX2_finish_70 : decode cX2_finish 70 = .ok (.aload_n 0, 1) := by decide +kernel
theorem dX2_finish_71 : decode cX2_finish 71 = .ok (.getfield 18, 3) := by decide +kernel
theorem dX2_finish_74 : decode cX2_finish 74 = .ok (.iconst 2, 1) := by decide +kernel
theorem dX2_finish_75 : decode cX2_finish 75 = .ok (.dup2, 1) := by decide +kernel
theorem dX2_finish_76 : decode cX2_finish 76 = .ok (.iaload, 1) := by decide +kernel
theorem dX2_finish_77 : decode cX2_finish 77 = .ok (.iconst 1, 1) := by decide +kernel
theorem dX2_finish_78 : decode cX2_finish 78 = .ok (.iadd, 1) := by decide +kernel
theorem dX2_finish_79 : decode cX2_finish 79 = .ok (.iastore, 1) := by decide +kernel
theorem dX2_finish_80 : decode cX2_finish 80 = .ok (.aload_n 0, 1) := by decide +kernel
theorem dX2_finish_81 : decode cX2_finish 81 = .ok (.dup, 1) := by decide +kernel
theorem dX2_finish_82 : decode cX2_finish 82 = .ok (.getfield 83, 3) := by decide +kernel
theorem dX2_finish_85 : decode cX2_finish 85 = .ok (.iconst 1, 1) := by decide +kernel
theorem dX2_finish_86 : decode cX2_finish 86 = .ok (.iadd, 1) := by decide +kernel
theorem dX2_finish_87 : decode cX2_finish 87 = .ok (.putfield 83, 3) := by decide +kernel
theorem dX2_finish_90 : decode cX2_finish 90 = .ok (.aload_n 0, 1) := by decide +kernel
theorem dX2_finish_91 : decode cX2_finish 91 = .ok (.iconst 3, 1) := by decide +kernel
theorem dX2_finish_92 : decode cX2_finish 92 = .ok (.putfield 41, 3) := by decide +kernel
theorem dX2_finish_95 : decode cX2_finish 95 = .ok (.return_, 1) := by decide +kernel
theorem dX2_write_0 : decode cX2_write 0 = .ok (.iload_n 1, 1) := by decide +kernel
theorem dX2_write_1 : decode cX2_write 1 = .ok (.ifCond .lt 29, 3) := by decide +kernel
theorem dX2_write_4 : decode cX2_write 4 = .ok (.iload_n 1, 1) := by decide +kernel
theorem dX2_write_5 : decode cX2_write 5 = .ok (.aload_n 0, 1) := by decide +kernel
theorem dX2_write_6 : decode cX2_write 6 = .ok (.getfield 11, 3) := by decide +kernel
theorem dX2_write_9 : decode cX2_write 9 = .ok (.arraylength, 1) := by decide +kernel
theorem dX2_write_10 : decode cX2_write 10 = .ok (.if_icmp .ge 20, 3) := by decide +kernel
theorem dX2_write_13 : decode cX2_write 13 = .ok (.aload_n 0, 1) := by decide +kernel
theorem dX2_write_14 : decode cX2_write 14 = .ok (.getfield 11, 3) := by decide +kernel
theorem dX2_write_17 : decode cX2_write 17 = .ok (.iload_n 1, 1) := by decide +kernel
theorem dX2_write_18 : decode cX2_write 18 = .ok (.iload_n 2, 1) := by decide +kernel
theorem dX2_write_19 : decode cX2_write 19 = .ok (.iastore, 1) := by decide +kernel
theorem dX2_write_20 : decode cX2_write 20 = .ok (.aload_n 0, 1) := by decide +kernel
theorem dX2_write_21 : decode cX2_write 21 = .ok (.getfield 18, 3) := by decide +kernel
theorem dX2_write_24 : decode cX2_write 24 = .ok (.iconst 1, 1) := by decide +kernel
theorem dX2_write_25 : decode cX2_write 25 = .ok (.dup2, 1) := by decide +kernel
theorem dX2_write_26 : decode cX2_write 26 = .ok (.iaload, 1) := by decide +kernel
theorem dX2_write_27 : decode cX2_write 27 = .ok (.iconst 1, 1) := by decide +kernel
theorem dX2_write_28 : decode cX2_write 28 = .ok (.iadd, 1) := by decide +kernel
theorem dX2_write_29 : decode cX2_write 29 = .ok (.iastore, 1) := by decide +kernel
theorem dX2_write_30 : decode cX2_write 30 = .ok (.return_, 1) := by decide +kernel
theorem dX2_generation_0 : decode cX2_generation 0 = .ok (.aload_n 0, 1) := by decide +kernel
theorem dX2_generation_1 : decode cX2_generation 1 = .ok (.getfield 11, 3) := by decide +kernel
theorem dX2_generation_4 : decode cX2_generation 4 = .ok (.iconst 0, 1) := by decide +kernel
theorem dX2_generation_5 : decode cX2_generation 5 = .ok (.iaload, 1) := by decide +kernel
theorem dX2_generation_6 : decode cX2_generation 6 = .ok (.ldc 113, 2) := by decide +kernel
theorem dX2_generation_8 : decode cX2_generation 8 = .ok (.iand, 1) := by decide +kernel
theorem dX2_generation_9 : decode cX2_generation 9 = .ok (.ireturn, 1) := by decide +kernel
theorem dX2_entriesThatCount_0 : decode cX2_entriesThatCount 0 = .ok (.aload_n 0, 1) := by decide +kernel
theorem dX2_entriesThatCount_1 : decode cX2_entriesThatCount 1 = .ok (.getfield 11, 3) := by decide +kernel
theorem dX2_entriesThatCount_4 : decode cX2_entriesThatCount 4 = .ok (.iconst 1, 1) := by decide +kernel
theorem dX2_entriesThatCount_5 : decode cX2_entriesThatCount 5 = .ok (.iaload, 1) := by decide +kernel
theorem dX2_entriesThatCount_6 : decode cX2_entriesThatCount 6 = .ok (.ldc 113, 2) := by decide +kernel
theorem dX2_entriesThatCount_8 : decode cX2_entriesThatCount 8 = .ok (.iand, 1) := by decide +kernel
theorem dX2_entriesThatCount_9 : decode cX2_entriesThatCount 9 = .ok (.ireturn, 1) := by decide +kernel
theorem dX2_bufferStart_0 : decode cX2_bufferStart 0 = .ok (.iconst 3, 1) := by decide +kernel
theorem dX2_bufferStart_1 : decode cX2_bufferStart 1 = .ok (.iload_n 1, 1) := by decide +kernel
theorem dX2_bufferStart_2 : decode cX2_bufferStart 2 = .ok (.iconst 1, 1) := by decide +kernel
theorem dX2_bufferStart_3 : decode cX2_bufferStart 3 = .ok (.iand, 1) := by decide +kernel
theorem dX2_bufferStart_4 : decode cX2_bufferStart 4 = .ok (.aload_n 0, 1) := by decide +kernel
theorem dX2_bufferStart_5 : decode cX2_bufferStart 5 = .ok (.getfield 28, 3) := by decide +kernel
theorem dX2_bufferStart_8 : decode cX2_bufferStart 8 = .ok (.invokevirtual 45, 3) := by decide +kernel
theorem dX2_bufferStart_11 : decode cX2_bufferStart 11 = .ok (.imul, 1) := by decide +kernel
theorem dX2_bufferStart_12 : decode cX2_bufferStart 12 = .ok (.iadd, 1) := by decide +kernel
theorem dX2_bufferStart_13 : decode cX2_bufferStart 13 = .ok (.ireturn, 1) := by decide +kernel
theorem dX2_condition_0 : decode cX2_condition 0 = .ok (.aload_n 0, 1) := by decide +kernel
theorem dX2_condition_1 : decode cX2_condition 1 = .ok (.getfield 41, 3) := by decide +kernel
theorem dX2_condition_4 : decode cX2_condition 4 = .ok (.ireturn, 1) := by decide +kernel
theorem dX2_owned_0 : decode cX2_owned 0 = .ok (.aload_n 0, 1) := by decide +kernel
theorem dX2_owned_1 : decode cX2_owned 1 = .ok (.invokevirtual 117, 3) := by decide +kernel
theorem dX2_owned_4 : decode cX2_owned 4 = .ok (.ifCond .ne 5, 3) := by decide +kernel
theorem dX2_owned_7 : decode cX2_owned 7 = .ok (.iconst 0, 1) := by decide +kernel
theorem dX2_owned_8 : decode cX2_owned 8 = .ok (.ireturn, 1) := by decide +kernel
theorem dX2_owned_9 : decode cX2_owned 9 = .ok (.iload_n 1, 1) := by decide +kernel
theorem dX2_owned_10 : decode cX2_owned 10 = .ok (.bipush 36, 2) := by decide +kernel
theorem dX2_owned_12 : decode cX2_owned 12 = .ok (.if_icmp .ne 10, 3) := by decide +kernel
theorem dX2_owned_15 : decode cX2_owned 15 = .ok (.aload_n 0, 1) := by decide +kernel
theorem dX2_owned_16 : decode cX2_owned 16 = .ok (.getfield 83, 3) := by decide +kernel
theorem dX2_owned_19 : decode cX2_owned 19 = .ok (.goto 11, 3) := by decide +kernel
theorem dX2_owned_22 : decode cX2_owned 22 = .ok (.aload_n 0, 1) := by decide +kernel
theorem dX2_owned_23 : decode cX2_owned 23 = .ok (.getfield 37, 3) := by decide +kernel
theorem dX2_owned_26 : decode cX2_owned 26 = .ok (.iload_n 1, 1) := by decide +kernel
theorem dX2_owned_27 : decode cX2_owned 27 = .ok (.invokevirtual 157, 3) := by decide +kernel
theorem dX2_owned_30 : decode cX2_owned 30 = .ok (.ireturn, 1) := by decide +kernel
theorem dX2_ramByte_0 : decode cX2_ramByte 0 = .ok (.aload_n 0, 1) := by decide +kernel
theorem dX2_ramByte_1 : decode cX2_ramByte 1 = .ok (.invokevirtual 117, 3) := by decide +kernel
theorem dX2_ramByte_4 : decode cX2_ramByte 4 = .ok (.ifCond .eq 25, 3) := by decide +kernel
theorem dX2_ramByte_7 : decode cX2_ramByte 7 = .ok (.aload_n 0, 1) := by decide +kernel
theorem dX2_ramByte_8 : decode cX2_ramByte 8 = .ok (.getfield 37, 3) := by decide +kernel
theorem dX2_ramByte_11 : decode cX2_ramByte 11 = .ok (.iload_n 1, 1) := by decide +kernel
theorem dX2_ramByte_12 : decode cX2_ramByte 12 = .ok (.invokevirtual 174, 3) := by decide +kernel
theorem dX2_ramByte_15 : decode cX2_ramByte 15 = .ok (.ifCond .eq 14, 3) := by decide +kernel
theorem dX2_ramByte_18 : decode cX2_ramByte 18 = .ok (.aload_n 0, 1) := by decide +kernel
theorem dX2_ramByte_19 : decode cX2_ramByte 19 = .ok (.getfield 37, 3) := by decide +kernel
theorem dX2_ramByte_22 : decode cX2_ramByte 22 = .ok (.iload_n 1, 1) := by decide +kernel
theorem dX2_ramByte_23 : decode cX2_ramByte 23 = .ok (.invokevirtual 178, 3) := by decide +kernel
theorem dX2_ramByte_26 : decode cX2_ramByte 26 = .ok (.goto 4, 3) := by decide +kernel
theorem dX2_ramByte_29 : decode cX2_ramByte 29 = .ok (.iconst (-1), 1) := by decide +kernel
theorem dX2_ramByte_30 : decode cX2_ramByte 30 = .ok (.ireturn, 1) := by decide +kernel
theorem dX2_size_0 : decode cX2_size 0 = .ok (.aload_n 0, 1) := by decide +kernel
theorem dX2_size_1 : decode cX2_size 1 = .ok (.getfield 63, 3) := by decide +kernel
theorem dX2_size_4 : decode cX2_size 4 = .ok (.ireturn, 1) := by decide +kernel
theorem dX2_stored_0 : decode cX2_stored 0 = .ok (.iload_n 1, 1) := by decide +kernel
theorem dX2_stored_1 : decode cX2_stored 1 = .ok (.ifCond .lt 29, 3) := by decide +kernel
theorem dX2_stored_4 : decode cX2_stored 4 = .ok (.iload_n 1, 1) := by decide +kernel
theorem dX2_stored_5 : decode cX2_stored 5 = .ok (.aload_n 0, 1) := by decide +kernel
theorem dX2_stored_6 : decode cX2_stored 6 = .ok (.getfield 63, 3) := by decide +kernel
theorem dX2_stored_9 : decode cX2_stored 9 = .ok (.if_icmp .ge 21, 3) := by decide +kernel
theorem dX2_stored_12 : decode cX2_stored 12 = .ok (.iload_n 1, 1) := by decide +kernel
theorem dX2_stored_13 : decode cX2_stored 13 = .ok (.aload_n 0, 1) := by decide +kernel
theorem dX2_stored_14 : decode cX2_stored 14 = .ok (.getfield 11, 3) := by decide +kernel
theorem dX2_stored_17 : decode cX2_stored 17 = .ok (.arraylength, 1) := by decide +kernel
theorem dX2_stored_18 : decode cX2_stored 18 = .ok (.if_icmp .ge 12, 3) := by decide +kernel
theorem dX2_stored_21 : decode cX2_stored 21 = .ok (.aload_n 0, 1) := by decide +kernel
theorem dX2_stored_22 : decode cX2_stored 22 = .ok (.getfield 11, 3) := by decide +kernel
theorem dX2_stored_25 : decode cX2_stored 25 = .ok (.iload_n 1, 1) := by decide +kernel
theorem dX2_stored_26 : decode cX2_stored 26 = .ok (.iaload, 1) := by decide +kernel
theorem dX2_stored_27 : decode cX2_stored 27 = .ok (.goto 4, 3) := by decide +kernel
theorem dX2_stored_30 : decode cX2_stored 30 = .ok (.iconst 0, 1) := by decide +kernel
theorem dX2_stored_31 : decode cX2_stored 31 = .ok (.ireturn, 1) := by decide +kernel
theorem dX2_radio_0 : decode cX2_radio 0 = .ok (.aload_n 0, 1) := by decide +kernel
theorem dX2_radio_1 : decode cX2_radio 1 = .ok (.getfield 24, 3) := by decide +kernel
theorem dX2_radio_4 : decode cX2_radio 4 = .ok (.areturn, 1) := by decide +kernel
theorem dX2_counted_0 : decode cX2_counted 0 = .ok (.aload_n 0, 1) := by decide +kernel
theorem dX2_counted_1 : decode cX2_counted 1 = .ok (.getfield 41, 3) := by decide +kernel
theorem dX2_counted_4 : decode cX2_counted 4 = .ok (.ifCond .eq 25, 3) := by decide +kernel
theorem dX2_counted_7 : decode cX2_counted 7 = .ok (.iload_n 1, 1) := by decide +kernel
theorem dX2_counted_8 : decode cX2_counted 8 = .ok (.ifCond .lt 21, 3) := by decide +kernel
theorem dX2_counted_11 : decode cX2_counted 11 = .ok (.iload_n 1, 1) := by decide +kernel
theorem dX2_counted_12 : decode cX2_counted 12 = .ok (.aload_n 0, 1) := by decide +kernel
theorem dX2_counted_13 : decode cX2_counted 13 = .ok (.getfield 18, 3) := by decide +kernel
theorem dX2_counted_16 : decode cX2_counted 16 = .ok (.arraylength, 1) := by decide +kernel
theorem dX2_counted_17 : decode cX2_counted 17 = .ok (.if_icmp .ge 12, 3) := by decide +kernel
theorem dX2_counted_20 : decode cX2_counted 20 = .ok (.aload_n 0, 1) := by decide +kernel
theorem dX2_counted_21 : decode cX2_counted 21 = .ok (.getfield 18, 3) := by decide +kernel
theorem dX2_counted_24 : decode cX2_counted 24 = .ok (.iload_n 1, 1) := by decide +kernel
theorem dX2_counted_25 : decode cX2_counted 25 = .ok (.iaload, 1) := by decide +kernel
theorem dX2_counted_26 : decode cX2_counted 26 = .ok (.goto 4, 3) := by decide +kernel
theorem dX2_counted_29 : decode cX2_counted 29 = .ok (.iconst (-1), 1) := by decide +kernel
theorem dX2_counted_30 : decode cX2_counted 30 = .ok (.ireturn, 1) := by decide +kernel
theorem dX2_strayed_0 : decode cX2_strayed 0 = .ok (.aload_n 0, 1) := by decide +kernel
theorem dX2_strayed_1 : decode cX2_strayed 1 = .ok (.getfield 80, 3) := by decide +kernel
theorem dX2_strayed_4 : decode cX2_strayed 4 = .ok (.ireturn, 1) := by decide +kernel
theorem dX3_init_0 : decode cX3_init 0 = .ok (.aload_n 0, 1) := by decide +kernel
theorem dX3_init_1 : decode cX3_init 1 = .ok (.invokespecial 3, 3) := by decide +kernel
theorem dX3_init_4 : decode cX3_init 4 = .ok (.aload_n 0, 1) := by decide +kernel
theorem dX3_init_5 : decode cX3_init 5 = .ok (.sipush 2048, 3) := by decide +kernel
theorem dX3_init_8 : decode cX3_init 8 = .ok (.newarray .int, 2) := by decide +kernel
theorem dX3_init_10 : decode cX3_init 10 = .ok (.putfield 9, 3) := by decide +kernel
theorem dX3_init_13 : decode cX3_init 13 = .ok (.aload_n 0, 1) := by decide +kernel
theorem dX3_init_14 : decode cX3_init 14 = .ok (.new 15, 3) := by decide +kernel
theorem dX3_init_17 : decode cX3_init 17 = .ok (.dup, 1) := by decide +kernel
theorem dX3_init_18 : decode cX3_init 18 = .ok (.invokespecial 17, 3) := by decide +kernel
theorem dX3_init_21 : decode cX3_init 21 = .ok (.putfield 18, 3) := by decide +kernel
theorem dX3_init_24 : decode cX3_init 24 = .ok (.aload_n 0, 1) := by decide +kernel
theorem dX3_init_25 : decode cX3_init 25 = .ok (.aload_n 1, 1) := by decide +kernel
theorem dX3_init_26 : decode cX3_init 26 = .ok (.putfield 22, 3) := by decide +kernel
theorem dX3_init_29 : decode cX3_init 29 = .ok (.aload_n 0, 1) := by decide +kernel
theorem dX3_init_30 : decode cX3_init 30 = .ok (.new 26, 3) := by decide +kernel
theorem dX3_init_33 : decode cX3_init 33 = .ok (.dup, 1) := by decide +kernel
theorem dX3_init_34 : decode cX3_init 34 = .ok (.aload_n 1, 1) := by decide +kernel
theorem dX3_init_35 : decode cX3_init 35 = .ok (.aload_n 0, 1) := by decide +kernel
theorem dX3_init_36 : decode cX3_init 36 = .ok (.getfield 9, 3) := by decide +kernel
theorem dX3_init_39 : decode cX3_init 39 = .ok (.invokespecial 28, 3) := by decide +kernel
theorem dX3_init_42 : decode cX3_init 42 = .ok (.putfield 31, 3) := by decide +kernel
theorem dX3_init_45 : decode cX3_init 45 = .ok (.return_, 1) := by decide +kernel
theorem dX3_forget_0 : decode cX3_forget 0 = .ok (.aload_n 0, 1) := by decide +kernel
theorem dX3_forget_1 : decode cX3_forget 1 = .ok (.iconst 0, 1) := by decide +kernel
theorem dX3_forget_2 : decode cX3_forget 2 = .ok (.putfield 35, 3) := by decide +kernel
theorem dX3_forget_5 : decode cX3_forget 5 = .ok (.aload_n 0, 1) := by decide +kernel
theorem dX3_forget_6 : decode cX3_forget 6 = .ok (.iconst 0, 1) := by decide +kernel
theorem dX3_forget_7 : decode cX3_forget 7 = .ok (.putfield 39, 3) := by decide +kernel
theorem dX3_forget_10 : decode cX3_forget 10 = .ok (.aload_n 0, 1) := by decide +kernel
theorem dX3_forget_11 : decode cX3_forget 11 = .ok (.getfield 18, 3) := by decide +kernel
theorem dX3_forget_14 : decode cX3_forget 14 = .ok (.invokevirtual 43, 3) := by decide +kernel
theorem dX3_forget_17 : decode cX3_forget 17 = .ok (.return_, 1) := by decide +kernel
theorem dX3_run_0 : decode cX3_run 0 = .ok (.aload_n 0, 1) := by decide +kernel
theorem dX3_run_1 : decode cX3_run 1 = .ok (.invokevirtual 46, 3) := by decide +kernel
theorem dX3_run_4 : decode cX3_run 4 = .ok (.iconst 0, 1) := by decide +kernel
theorem dX3_run_5 : decode cX3_run 5 = .ok (.istore_n 2, 1) := by decide +kernel
theorem dX3_run_6 : decode cX3_run 6 = .ok (.iload_n 2, 1) := by decide +kernel
theorem dX3_run_7 : decode cX3_run 7 = .ok (.iload_n 1, 1) := by decide +kernel
theorem dX3_run_8 : decode cX3_run 8 = .ok (.if_icmp .ge 68, 3) := by decide +kernel
theorem dX3_run_11 : decode cX3_run 11 = .ok (.aload_n 0, 1) := by decide +kernel
theorem dX3_run_12 : decode cX3_run 12 = .ok (.getfield 39, 3) := by decide +kernel
theorem dX3_run_15 : decode cX3_run 15 = .ok (.ifCond .ne 61, 3) := by decide +kernel
theorem dX3_run_18 : decode cX3_run 18 = .ok (.aload_n 0, 1) := by decide +kernel
theorem dX3_run_19 : decode cX3_run 19 = .ok (.getfield 31, 3) := by decide +kernel
theorem dX3_run_22 : decode cX3_run 22 = .ok (.invokevirtual 49, 3) := by decide +kernel
theorem dX3_run_25 : decode cX3_run 25 = .ok (.iconst 2, 1) := by decide +kernel
theorem dX3_run_26 : decode cX3_run 26 = .ok (.if_icmp .ne 26, 3) := by decide +kernel
theorem dX3_run_29 : decode cX3_run 29 = .ok (.aload_n 0, 1) := by decide +kernel
theorem dX3_run_30 : decode cX3_run 30 = .ok (.getfield 18, 3) := by decide +kernel
theorem dX3_run_33 : decode cX3_run 33 = .ok (.aload_n 0, 1) := by decide +kernel
theorem dX3_run_34 : decode cX3_run 34 = .ok (.getfield 31, 3) := by decide +kernel
theorem dX3_run_37 : decode cX3_run 37 = .ok (.aload_n 0, 1) := by decide +kernel
theorem dX3_run_38 : decode cX3_run 38 = .ok (.getfield 31, 3) := by decide +kernel
theorem dX3_run_41 : decode cX3_run 41 = .ok (.bipush 34, 2) := by decide +kernel
theorem dX3_run_43 : decode cX3_run 43 = .ok (.invokevirtual 53, 3) := by decide +kernel
theorem dX3_run_46 : decode cX3_run 46 = .ok (.iconst 1, 1) := by decide +kernel
theorem dX3_run_47 : decode cX3_run 47 = .ok (.iadd, 1) := by decide +kernel
theorem dX3_run_48 : decode cX3_run 48 = .ok (.iconst 0, 1) := by decide +kernel
theorem dX3_run_49 : decode cX3_run 49 = .ok (.invokevirtual 57, 3) := by decide +kernel
theorem dX3_run_52 : decode cX3_run 52 = .ok (.aload_n 0, 1) := by decide +kernel
theorem dX3_run_53 : decode cX3_run 53 = .ok (.getfield 31, 3) := by decide +kernel
theorem dX3_run_56 : decode cX3_run 56 = .ok (.invokevirtual 61, 3) := by decide +kernel
theorem dX3_run_59 : decode cX3_run 59 = .ok (.iinc 2 1, 3) := by decide +kernel
theorem dX3_run_62 : decode cX3_run 62 = .ok (.aload_n 0, 1) := by decide +kernel
theorem dX3_run_63 : decode cX3_run 63 = .ok (.aload_n 0, 1) := by decide +kernel
theorem dX3_run_64 : decode cX3_run 64 = .ok (.getfield 31, 3) := by decide +kernel
theorem dX3_run_67 : decode cX3_run 67 = .ok (.invokevirtual 64, 3) := by decide +kernel
end
section
theorem dX3_run_70 : decode cX3_run 70 = .ok (.putfield 39, 3) := by decide +kernel
theorem dX3_run_73 : decode cX3_run 73 = .ok (.goto (-67), 3) := by decide +kernel
theorem dX3_run_76 : decode cX3_run 76 = .ok (.iload_n 2, 1) := by decide +kernel
theorem dX3_run_77 : decode cX3_run 77 = .ok (.ireturn, 1) := by decide +kernel
theorem dX3_begin_0 : decode cX3_begin 0 = .ok (.aload_n 0, 1) := by decide +kernel
theorem dX3_begin_1 : decode cX3_begin 1 = .ok (.invokevirtual 67, 3) := by decide +kernel
theorem dX3_begin_4 : decode cX3_begin 4 = .ok (.aload_n 0, 1) := by decide +kernel
theorem dX3_begin_5 : decode cX3_begin 5 = .ok (.iconst 1, 1) := by decide +kernel
theorem dX3_begin_6 : decode cX3_begin 6 = .ok (.putfield 35, 3) := by decide +kernel
theorem dX3_begin_9 : decode cX3_begin 9 = .ok (.iconst 0, 1) := by decide +kernel
theorem dX3_begin_10 : decode cX3_begin 10 = .ok (.istore_n 1, 1) := by decide +kernel
theorem dX3_begin_11 : decode cX3_begin 11 = .ok (.iload_n 1, 1) := by decide +kernel
theorem dX3_begin_12 : decode cX3_begin 12 = .ok (.aload_n 0, 1) := by decide +kernel
theorem dX3_begin_13 : decode cX3_begin 13 = .ok (.getfield 22, 3) := by decide +kernel
theorem dX3_begin_16 : decode cX3_begin 16 = .ok (.invokevirtual 70, 3) := by decide +kernel
theorem dX3_begin_19 : decode cX3_begin 19 = .ok (.if_icmp .ge 34, 3) := by decide +kernel
theorem dX3_begin_22 : decode cX3_begin 22 = .ok (.aload_n 0, 1) := by decide +kernel
theorem dX3_begin_23 : decode cX3_begin 23 = .ok (.getfield 31, 3) := by decide +kernel
theorem dX3_begin_26 : decode cX3_begin 26 = .ok (.iload_n 1, 1) := by decide +kernel
theorem dX3_begin_27 : decode cX3_begin 27 = .ok (.iload_n 1, 1) := by decide +kernel
theorem dX3_begin_28 : decode cX3_begin 28 = .ok (.bipush 32, 2) := by decide +kernel
theorem dX3_begin_30 : decode cX3_begin 30 = .ok (.if_icmp .ne 13, 3) := by decide +kernel
theorem dX3_begin_33 : decode cX3_begin 33 = .ok (.aload_n 0, 1) := by decide +kernel
theorem dX3_begin_34 : decode cX3_begin 34 = .ok (.getfield 22, 3) := by decide +kernel
theorem dX3_begin_37 : decode cX3_begin 37 = .ok (.getfield 75, 3) := by decide +kernel
theorem dX3_begin_40 : decode cX3_begin 40 = .ok (.goto 4, 3) := by decide +kernel
theorem dX3_begin_43 : decode cX3_begin 43 = .ok (.iconst 0, 1) := by decide +kernel
theorem dX3_begin_44 : decode cX3_begin 44 = .ok (.invokevirtual 78, 3) := by decide +kernel
theorem dX3_begin_47 : decode cX3_begin 47 = .ok (.iinc 1 1, 3) := by decide +kernel
theorem dX3_begin_50 : decode cX3_begin 50 = .ok (.goto (-39), 3) := by decide +kernel
theorem dX3_begin_53 : decode cX3_begin 53 = .ok (.aload_n 0, 1) := by decide +kernel
theorem dX3_begin_54 : decode cX3_begin 54 = .ok (.getfield 22, 3) := by decide +kernel
theorem dX3_begin_57 : decode cX3_begin 57 = .ok (.aload_n 0, 1) := by decide +kernel
theorem dX3_begin_58 : decode cX3_begin 58 = .ok (.getfield 9, 3) := by decide +kernel
theorem dX3_begin_61 : decode cX3_begin 61 = .ok (.iconst 0, 1) := by decide +kernel
theorem dX3_begin_62 : decode cX3_begin 62 = .ok (.invokevirtual 82, 3) := by decide +kernel
theorem dX3_begin_65 : decode cX3_begin 65 = .ok (.aload_n 0, 1) := by decide +kernel
theorem dX3_begin_66 : decode cX3_begin 66 = .ok (.aload_n 0, 1) := by decide +kernel
theorem dX3_begin_67 : decode cX3_begin 67 = .ok (.getfield 31, 3) := by decide +kernel
theorem dX3_begin_70 : decode cX3_begin 70 = .ok (.invokevirtual 64, 3) := by decide +kernel
theorem dX3_begin_73 : decode cX3_begin 73 = .ok (.putfield 39, 3) := by decide +kernel
theorem dX3_begin_76 : decode cX3_begin 76 = .ok (.return_, 1) := by decide +kernel
theorem dX3_owned_0 : decode cX3_owned 0 = .ok (.aload_n 0, 1) := by decide +kernel
theorem dX3_owned_1 : decode cX3_owned 1 = .ok (.getfield 35, 3) := by decide +kernel
theorem dX3_owned_4 : decode cX3_owned 4 = .ok (.ifCond .ne 5, 3) := by decide +kernel
theorem dX3_owned_7 : decode cX3_owned 7 = .ok (.iconst 0, 1) := by decide +kernel
theorem dX3_owned_8 : decode cX3_owned 8 = .ok (.ireturn, 1) := by decide +kernel
theorem dX3_owned_9 : decode cX3_owned 9 = .ok (.iload_n 1, 1) := by decide +kernel
theorem dX3_owned_10 : decode cX3_owned 10 = .ok (.bipush 35, 2) := by decide +kernel
theorem dX3_owned_12 : decode cX3_owned 12 = .ok (.if_icmp .ne 10, 3) := by decide +kernel
theorem dX3_owned_15 : decode cX3_owned 15 = .ok (.aload_n 0, 1) := by decide +kernel
theorem dX3_owned_16 : decode cX3_owned 16 = .ok (.getfield 39, 3) := by decide +kernel
theorem dX3_owned_19 : decode cX3_owned 19 = .ok (.goto 11, 3) := by decide +kernel
theorem dX3_owned_22 : decode cX3_owned 22 = .ok (.aload_n 0, 1) := by decide +kernel
theorem dX3_owned_23 : decode cX3_owned 23 = .ok (.getfield 31, 3) := by decide +kernel
theorem dX3_owned_26 : decode cX3_owned 26 = .ok (.iload_n 1, 1) := by decide +kernel
theorem dX3_owned_27 : decode cX3_owned 27 = .ok (.invokevirtual 53, 3) := by decide +kernel
theorem dX3_owned_30 : decode cX3_owned 30 = .ok (.ireturn, 1) := by decide +kernel
theorem dX3_memoryByte_0 : decode cX3_memoryByte 0 = .ok (.aload_n 0, 1) := by decide +kernel
theorem dX3_memoryByte_1 : decode cX3_memoryByte 1 = .ok (.getfield 35, 3) := by decide +kernel
theorem dX3_memoryByte_4 : decode cX3_memoryByte 4 = .ok (.ifCond .eq 26, 3) := by decide +kernel
theorem dX3_memoryByte_7 : decode cX3_memoryByte 7 = .ok (.aload_n 0, 1) := by decide +kernel
theorem dX3_memoryByte_8 : decode cX3_memoryByte 8 = .ok (.getfield 31, 3) := by decide +kernel
theorem dX3_memoryByte_11 : decode cX3_memoryByte 11 = .ok (.iload_n 1, 1) := by decide +kernel
theorem dX3_memoryByte_12 : decode cX3_memoryByte 12 = .ok (.iconst 1, 1) := by decide +kernel
theorem dX3_memoryByte_13 : decode cX3_memoryByte 13 = .ok (.invokevirtual 86, 3) := by decide +kernel
theorem dX3_memoryByte_16 : decode cX3_memoryByte 16 = .ok (.ifCond .eq 14, 3) := by decide +kernel
theorem dX3_memoryByte_19 : decode cX3_memoryByte 19 = .ok (.aload_n 0, 1) := by decide +kernel
theorem dX3_memoryByte_20 : decode cX3_memoryByte 20 = .ok (.getfield 31, 3) := by decide +kernel
theorem dX3_memoryByte_23 : decode cX3_memoryByte 23 = .ok (.iload_n 1, 1) := by decide +kernel
theorem dX3_memoryByte_24 : decode cX3_memoryByte 24 = .ok (.invokevirtual 90, 3) := by decide +kernel
theorem dX3_memoryByte_27 : decode cX3_memoryByte 27 = .ok (.goto 4, 3) := by decide +kernel
theorem dX3_memoryByte_30 : decode cX3_memoryByte 30 = .ok (.iconst (-1), 1) := by decide +kernel
theorem dX3_memoryByte_31 : decode cX3_memoryByte 31 = .ok (.ireturn, 1) := by decide +kernel
theorem dX3_radio_0 : decode cX3_radio 0 = .ok (.aload_n 0, 1) := by decide +kernel
theorem dX3_radio_1 : decode cX3_radio 1 = .ok (.getfield 18, 3) := by decide +kernel
theorem dX3_radio_4 : decode cX3_radio 4 = .ok (.areturn, 1) := by decide +kernel
theorem dX4_init_0 : decode cX4_init 0 = .ok (.aload_n 0, 1) := by decide +kernel
theorem dX4_init_1 : decode cX4_init 1 = .ok (.invokespecial 3, 3) := by decide +kernel
theorem dX4_init_4 : decode cX4_init 4 = .ok (.aload_n 0, 1) := by decide +kernel
theorem dX4_init_5 : decode cX4_init 5 = .ok (.sipush 2048, 3) := by decide +kernel
theorem dX4_init_8 : decode cX4_init 8 = .ok (.newarray .int, 2) := by decide +kernel
theorem dX4_init_10 : decode cX4_init 10 = .ok (.putfield 9, 3) := by decide +kernel
theorem dX4_init_13 : decode cX4_init 13 = .ok (.aload_n 0, 1) := by decide +kernel
theorem dX4_init_14 : decode cX4_init 14 = .ok (.sipush 1000, 3) := by decide +kernel
theorem dX4_init_17 : decode cX4_init 17 = .ok (.newarray .int, 2) := by decide +kernel
theorem dX4_init_19 : decode cX4_init 19 = .ok (.putfield 15, 3) := by decide +kernel
theorem dX4_init_22 : decode cX4_init 22 = .ok (.return_, 1) := by decide +kernel
theorem dX4_allows_0 : decode cX4_allows 0 = .ok (.iload_n 0, 1) := by decide +kernel
theorem dX4_allows_1 : decode cX4_allows 1 = .ok (.iconst 4, 1) := by decide +kernel
theorem dX4_allows_2 : decode cX4_allows 2 = .ok (.if_icmp .lt 63, 3) := by decide +kernel
theorem dX4_allows_5 : decode cX4_allows 5 = .ok (.iload_n 0, 1) := by decide +kernel
theorem dX4_allows_6 : decode cX4_allows 6 = .ok (.sipush 4096, 3) := by decide +kernel
theorem dX4_allows_9 : decode cX4_allows 9 = .ok (.if_icmp .gt 56, 3) := by decide +kernel
theorem dX4_allows_12 : decode cX4_allows 12 = .ok (.iload_n 0, 1) := by decide +kernel
theorem dX4_allows_13 : decode cX4_allows 13 = .ok (.iconst 3, 1) := by decide +kernel
theorem dX4_allows_14 : decode cX4_allows 14 = .ok (.iand, 1) := by decide +kernel
theorem dX4_allows_15 : decode cX4_allows 15 = .ok (.ifCond .ne 50, 3) := by decide +kernel
theorem dX4_allows_18 : decode cX4_allows 18 = .ok (.iload_n 1, 1) := by decide +kernel
theorem dX4_allows_19 : decode cX4_allows 19 = .ok (.iconst 4, 1) := by decide +kernel
theorem dX4_allows_20 : decode cX4_allows 20 = .ok (.if_icmp .lt 45, 3) := by decide +kernel
theorem dX4_allows_23 : decode cX4_allows 23 = .ok (.iload_n 1, 1) := by decide +kernel
theorem dX4_allows_24 : decode cX4_allows 24 = .ok (.sipush 8192, 3) := by decide +kernel
theorem dX4_allows_27 : decode cX4_allows 27 = .ok (.if_icmp .gt 38, 3) := by decide +kernel
theorem dX4_allows_30 : decode cX4_allows 30 = .ok (.iload_n 1, 1) := by decide +kernel
theorem dX4_allows_31 : decode cX4_allows 31 = .ok (.iconst 3, 1) := by decide +kernel
theorem dX4_allows_32 : decode cX4_allows 32 = .ok (.iand, 1) := by decide +kernel
theorem dX4_allows_33 : decode cX4_allows 33 = .ok (.ifCond .ne 32, 3) := by decide +kernel
theorem dX4_allows_36 : decode cX4_allows 36 = .ok (.iload_n 2, 1) := by decide +kernel
theorem dX4_allows_37 : decode cX4_allows 37 = .ok (.bipush 8, 2) := by decide +kernel
theorem dX4_allows_39 : decode cX4_allows 39 = .ok (.if_icmp .lt 26, 3) := by decide +kernel
theorem dX4_allows_42 : decode cX4_allows 42 = .ok (.iload_n 2, 1) := by decide +kernel
theorem dX4_allows_43 : decode cX4_allows 43 = .ok (.sipush 1024, 3) := by decide +kernel
theorem dX4_allows_46 : decode cX4_allows 46 = .ok (.if_icmp .gt 19, 3) := by decide +kernel
theorem dX4_allows_49 : decode cX4_allows 49 = .ok (.iload_n 3, 1) := by decide +kernel
theorem dX4_allows_50 : decode cX4_allows 50 = .ok (.bipush 16, 2) := by decide +kernel
theorem dX4_allows_52 : decode cX4_allows 52 = .ok (.if_icmp .lt 13, 3) := by decide +kernel
theorem dX4_allows_55 : decode cX4_allows 55 = .ok (.iload_n 3, 1) := by decide +kernel
theorem dX4_allows_56 : decode cX4_allows 56 = .ok (.ldc 18, 2) := by decide +kernel
theorem dX4_allows_58 : decode cX4_allows 58 = .ok (.if_icmp .gt 7, 3) := by decide +kernel
theorem dX4_allows_61 : decode cX4_allows 61 = .ok (.iconst 1, 1) := by decide +kernel
theorem dX4_allows_62 : decode cX4_allows 62 = .ok (.goto 4, 3) := by decide +kernel
theorem dX4_allows_65 : decode cX4_allows 65 = .ok (.iconst 0, 1) := by decide +kernel
theorem dX4_allows_66 : decode cX4_allows 66 = .ok (.ireturn, 1) := by decide +kernel
theorem dX4_set_0 : decode cX4_set 0 = .ok (.aload_n 0, 1) := by decide +kernel
theorem dX4_set_1 : decode cX4_set 1 = .ok (.iconst 1, 1) := by decide +kernel
theorem dX4_set_2 : decode cX4_set 2 = .ok (.putfield 19, 3) := by decide +kernel
theorem dX4_set_5 : decode cX4_set 5 = .ok (.aload_n 0, 1) := by decide +kernel
theorem dX4_set_6 : decode cX4_set 6 = .ok (.iload_n 1, 1) := by decide +kernel
theorem dX4_set_7 : decode cX4_set 7 = .ok (.putfield 23, 3) := by decide +kernel
theorem dX4_set_10 : decode cX4_set 10 = .ok (.aload_n 0, 1) := by decide +kernel
theorem dX4_set_11 : decode cX4_set 11 = .ok (.iload_n 2, 1) := by decide +kernel
theorem dX4_set_12 : decode cX4_set 12 = .ok (.putfield 27, 3) := by decide +kernel
theorem dX4_set_15 : decode cX4_set 15 = .ok (.aload_n 0, 1) := by decide +kernel
theorem dX4_set_16 : decode cX4_set 16 = .ok (.iload_n 3, 1) := by decide +kernel
theorem dX4_set_17 : decode cX4_set 17 = .ok (.putfield 30, 3) := by decide +kernel
theorem dX4_set_20 : decode cX4_set 20 = .ok (.aload_n 0, 1) := by decide +kernel
theorem dX4_set_21 : decode cX4_set 21 = .ok (.iload 4, 2) := by decide +kernel
theorem dX4_set_23 : decode cX4_set 23 = .ok (.putfield 33, 3) := by decide +kernel
theorem dX4_set_26 : decode cX4_set 26 = .ok (.aload_n 0, 1) := by decide +kernel
theorem dX4_set_27 : decode cX4_set 27 = .ok (.iload 5, 2) := by decide +kernel
theorem dX4_set_29 : decode cX4_set 29 = .ok (.putfield 36, 3) := by decide +kernel
theorem dX4_set_32 : decode cX4_set 32 = .ok (.aload_n 0, 1) := by decide +kernel
theorem dX4_set_33 : decode cX4_set 33 = .ok (.iconst 0, 1) := by decide +kernel
theorem dX4_set_34 : decode cX4_set 34 = .ok (.putfield 39, 3) := by decide +kernel
theorem dX4_set_37 : decode cX4_set 37 = .ok (.return_, 1) := by decide +kernel
theorem dX4_fill_0 : decode cX4_fill 0 = .ok (.iconst 0, 1) := by decide +kernel
theorem dX4_fill_1 : decode cX4_fill 1 = .ok (.istore_n 3, 1) := by decide +kernel
theorem dX4_fill_2 : decode cX4_fill 2 = .ok (.iload_n 3, 1) := by decide +kernel
theorem dX4_fill_3 : decode cX4_fill 3 = .ok (.aload_n 0, 1) := by decide +kernel
theorem dX4_fill_4 : decode cX4_fill 4 = .ok (.getfield 9, 3) := by decide +kernel
theorem dX4_fill_7 : decode cX4_fill 7 = .ok (.arraylength, 1) := by decide +kernel
theorem dX4_fill_8 : decode cX4_fill 8 = .ok (.if_icmp .ge 16, 3) := by decide +kernel
theorem dX4_fill_11 : decode cX4_fill 11 = .ok (.aload_n 0, 1) := by decide +kernel
theorem dX4_fill_12 : decode cX4_fill 12 = .ok (.getfield 9, 3) := by decide +kernel
theorem dX4_fill_15 : decode cX4_fill 15 = .ok (.iload_n 3, 1) := by decide +kernel
theorem dX4_fill_16 : decode cX4_fill 16 = .ok (.iconst 0, 1) := by decide +kernel
theorem dX4_fill_17 : decode cX4_fill 17 = .ok (.iastore, 1) := by decide +kernel
theorem dX4_fill_18 : decode cX4_fill 18 = .ok (.iinc 3 1, 3) := by decide +kernel
theorem dX4_fill_21 : decode cX4_fill 21 = .ok (.goto (-19), 3) := by decide +kernel
theorem dX4_fill_24 : decode cX4_fill 24 = .ok (.iconst 0, 1) := by decide +kernel
theorem dX4_fill_25 : decode cX4_fill 25 = .ok (.istore_n 3, 1) := by decide +kernel
theorem dX4_fill_26 : decode cX4_fill 26 = .ok (.iload_n 3, 1) := by decide +kernel
theorem dX4_fill_27 : decode cX4_fill 27 = .ok (.iload_n 2, 1) := by decide +kernel
theorem dX4_fill_28 : decode cX4_fill 28 = .ok (.if_icmp .ge 43, 3) := by decide +kernel
theorem dX4_fill_31 : decode cX4_fill 31 = .ok (.iload_n 3, 1) := by decide +kernel
theorem dX4_fill_32 : decode cX4_fill 32 = .ok (.iconst 2, 1) := by decide +kernel
theorem dX4_fill_33 : decode cX4_fill 33 = .ok (.ishr, 1) := by decide +kernel
theorem dX4_fill_34 : decode cX4_fill 34 = .ok (.aload_n 0, 1) := by decide +kernel
theorem dX4_fill_35 : decode cX4_fill 35 = .ok (.getfield 9, 3) := by decide +kernel
theorem dX4_fill_38 : decode cX4_fill 38 = .ok (.arraylength, 1) := by decide +kernel
theorem dX4_fill_39 : decode cX4_fill 39 = .ok (.if_icmp .ge 32, 3) := by decide +kernel
theorem dX4_fill_42 : decode cX4_fill 42 = .ok (.aload_n 0, 1) := by decide +kernel
theorem dX4_fill_43 : decode cX4_fill 43 = .ok (.getfield 9, 3) := by decide +kernel
theorem dX4_fill_46 : decode cX4_fill 46 = .ok (.iload_n 3, 1) := by decide +kernel
theorem dX4_fill_47 : decode cX4_fill 47 = .ok (.iconst 2, 1) := by decide +kernel
theorem dX4_fill_48 : decode cX4_fill 48 = .ok (.ishr, 1) := by decide +kernel
theorem dX4_fill_49 : decode cX4_fill 49 = .ok (.dup2, 1) := by decide +kernel
theorem dX4_fill_50 : decode cX4_fill 50 = .ok (.iaload, 1) := by decide +kernel
theorem dX4_fill_51 : decode cX4_fill 51 = .ok (.aload_n 1, 1) := by decide +kernel
theorem dX4_fill_52 : decode cX4_fill 52 = .ok (.iload_n 3, 1) := by decide +kernel
theorem dX4_fill_53 : decode cX4_fill 53 = .ok (.invokevirtual 42, 3) := by decide +kernel
theorem dX4_fill_56 : decode cX4_fill 56 = .ok (.bipush 8, 2) := by decide +kernel
theorem dX4_fill_58 : decode cX4_fill 58 = .ok (.iload_n 3, 1) := by decide +kernel
theorem dX4_fill_59 : decode cX4_fill 59 = .ok (.iconst 3, 1) := by decide +kernel
theorem dX4_fill_60 : decode cX4_fill 60 = .ok (.iand, 1) := by decide +kernel
theorem dX4_fill_61 : decode cX4_fill 61 = .ok (.imul, 1) := by decide +kernel
theorem dX4_fill_62 : decode cX4_fill 62 = .ok (.ishl, 1) := by decide +kernel
theorem dX4_fill_63 : decode cX4_fill 63 = .ok (.ior, 1) := by decide +kernel
theorem dX4_fill_64 : decode cX4_fill 64 = .ok (.iastore, 1) := by decide +kernel
theorem dX4_fill_65 : decode cX4_fill 65 = .ok (.iinc 3 1, 3) := by decide +kernel
theorem dX4_fill_68 : decode cX4_fill 68 = .ok (.goto (-42), 3) := by decide +kernel
theorem dX4_fill_71 : decode cX4_fill 71 = .ok (.return_, 1) := by decide +kernel
theorem dX4_copyImage_0 : decode cX4_copyImage 0 = .ok (.iconst 0, 1) := by decide +kernel
theorem dX4_copyImage_1 : decode cX4_copyImage 1 = .ok (.istore_n 3, 1) := by decide +kernel
theorem dX4_copyImage_2 : decode cX4_copyImage 2 = .ok (.iload_n 3, 1) := by decide +kernel
theorem dX4_copyImage_3 : decode cX4_copyImage 3 = .ok (.aload_n 0, 1) := by decide +kernel
theorem dX4_copyImage_4 : decode cX4_copyImage 4 = .ok (.getfield 9, 3) := by decide +kernel
theorem dX4_copyImage_7 : decode cX4_copyImage 7 = .ok (.arraylength, 1) := by decide +kernel
theorem dX4_copyImage_8 : decode cX4_copyImage 8 = .ok (.if_icmp .ge 46, 3) := by decide +kernel
theorem dX4_copyImage_11 : decode cX4_copyImage 11 = .ok (.iload_n 3, 1) := by decide +kernel
theorem dX4_copyImage_12 : decode cX4_copyImage 12 = .ok (.aload_n 0, 1) := by decide +kernel
theorem dX4_copyImage_13 : decode cX4_copyImage 13 = .ok (.getfield 27, 3) := by decide +kernel
theorem dX4_copyImage_16 : decode cX4_copyImage 16 = .ok (.iconst 4, 1) := by decide +kernel
theorem dX4_copyImage_17 : decode cX4_copyImage 17 = .ok (.idiv, 1) := by decide +kernel
theorem dX4_copyImage_18 : decode cX4_copyImage 18 = .ok (.if_icmp .ge 36, 3) := by decide +kernel
theorem dX4_copyImage_21 : decode cX4_copyImage 21 = .ok (.iload_n 2, 1) := by decide +kernel
theorem dX4_copyImage_22 : decode cX4_copyImage 22 = .ok (.iload_n 3, 1) := by decide +kernel
theorem dX4_copyImage_23 : decode cX4_copyImage 23 = .ok (.iadd, 1) := by decide +kernel
theorem dX4_copyImage_24 : decode cX4_copyImage 24 = .ok (.istore 4, 2) := by decide +kernel
theorem dX4_copyImage_26 : decode cX4_copyImage 26 = .ok (.iload 4, 2) := by decide +kernel
theorem dX4_copyImage_28 : decode cX4_copyImage 28 = .ok (.ifCond .lt 20, 3) := by decide +kernel
theorem dX4_copyImage_31 : decode cX4_copyImage 31 = .ok (.iload 4, 2) := by decide +kernel
theorem dX4_copyImage_33 : decode cX4_copyImage 33 = .ok (.aload_n 1, 1) := by decide +kernel
theorem dX4_copyImage_34 : decode cX4_copyImage 34 = .ok (.arraylength, 1) := by decide +kernel
theorem dX4_copyImage_35 : decode cX4_copyImage 35 = .ok (.if_icmp .ge 13, 3) := by decide +kernel
theorem dX4_copyImage_38 : decode cX4_copyImage 38 = .ok (.aload_n 1, 1) := by decide +kernel
theorem dX4_copyImage_39 : decode cX4_copyImage 39 = .ok (.iload 4, 2) := by decide +kernel
theorem dX4_copyImage_41 : decode cX4_copyImage 41 = .ok (.aload_n 0, 1) := by decide +kernel
theorem dX4_copyImage_42 : decode cX4_copyImage 42 = .ok (.getfield 9, 3) := by decide +kernel
theorem dX4_copyImage_45 : decode cX4_copyImage 45 = .ok (.iload_n 3, 1) := by decide +kernel
theorem dX4_copyImage_46 : decode cX4_copyImage 46 = .ok (.iaload, 1) := by decide +kernel
theorem dX4_copyImage_47 : decode cX4_copyImage 47 = .ok (.iastore, 1) := by decide +kernel
theorem dX4_copyImage_48 : decode cX4_copyImage 48 = .ok (.iinc 3 1, 3) := by decide +kernel
theorem dX4_copyImage_51 : decode cX4_copyImage 51 = .ok (.goto (-49), 3) := by decide +kernel
theorem dX4_copyImage_54 : decode cX4_copyImage 54 = .ok (.return_, 1) := by decide +kernel
theorem dX4_addSample_0 : decode cX4_addSample 0 = .ok (.aload_n 0, 1) := by decide +kernel
theorem dX4_addSample_1 : decode cX4_addSample 1 = .ok (.getfield 19, 3) := by decide +kernel
theorem dX4_addSample_4 : decode cX4_addSample 4 = .ok (.ifCond .eq 22, 3) := by decide +kernel
theorem dX4_addSample_7 : decode cX4_addSample 7 = .ok (.aload_n 0, 1) := by decide +kernel
theorem dX4_addSample_8 : decode cX4_addSample 8 = .ok (.getfield 39, 3) := by decide +kernel
theorem dX4_addSample_11 : decode cX4_addSample 11 = .ok (.ifCond .lt 15, 3) := by decide +kernel
theorem dX4_addSample_14 : decode cX4_addSample 14 = .ok (.aload_n 0, 1) := by decide +kernel
theorem dX4_addSample_15 : decode cX4_addSample 15 = .ok (.getfield 39, 3) := by decide +kernel
theorem dX4_addSample_18 : decode cX4_addSample 18 = .ok (.aload_n 0, 1) := by decide +kernel
theorem dX4_addSample_19 : decode cX4_addSample 19 = .ok (.getfield 15, 3) := by decide +kernel
theorem dX4_addSample_22 : decode cX4_addSample 22 = .ok (.arraylength, 1) := by decide +kernel
theorem dX4_addSample_23 : decode cX4_addSample 23 = .ok (.if_icmp .lt 5, 3) := by decide +kernel
theorem dX4_addSample_26 : decode cX4_addSample 26 = .ok (.iconst (-1), 1) := by decide +kernel
theorem dX4_addSample_27 : decode cX4_addSample 27 = .ok (.ireturn, 1) := by decide +kernel
theorem dX4_addSample_28 : decode cX4_addSample 28 = .ok (.aload_n 0, 1) := by decide +kernel
theorem dX4_addSample_29 : decode cX4_addSample 29 = .ok (.getfield 15, 3) := by decide +kernel
theorem dX4_addSample_32 : decode cX4_addSample 32 = .ok (.aload_n 0, 1) := by decide +kernel
theorem dX4_addSample_33 : decode cX4_addSample 33 = .ok (.getfield 39, 3) := by decide +kernel
theorem dX4_addSample_36 : decode cX4_addSample 36 = .ok (.iload_n 1, 1) := by decide +kernel
theorem dX4_addSample_37 : decode cX4_addSample 37 = .ok (.iastore, 1) := by decide +kernel
theorem dX4_addSample_38 : decode cX4_addSample 38 = .ok (.aload_n 0, 1) := by decide +kernel
theorem dX4_addSample_39 : decode cX4_addSample 39 = .ok (.dup, 1) := by decide +kernel
theorem dX4_addSample_40 : decode cX4_addSample 40 = .ok (.getfield 39, 3) := by decide +kernel
theorem dX4_addSample_43 : decode cX4_addSample 43 = .ok (.iconst 1, 1) := by decide +kernel
theorem dX4_addSample_44 : decode cX4_addSample 44 = .ok (.iadd, 1) := by decide +kernel
theorem dX4_addSample_45 : decode cX4_addSample 45 = .ok (.putfield 39, 3) := by decide +kernel
theorem dX4_addSample_48 : decode cX4_addSample 48 = .ok (.aload_n 0, 1) := by decide +kernel
theorem dX4_addSample_49 : decode cX4_addSample 49 = .ok (.getfield 39, 3) := by decide +kernel
theorem dX4_addSample_52 : decode cX4_addSample 52 = .ok (.ireturn, 1) := by decide +kernel
theorem dX4_sampleAt_0 : decode cX4_sampleAt 0 = .ok (.iload_n 1, 1) := by decide +kernel
theorem dX4_sampleAt_1 : decode cX4_sampleAt 1 = .ok (.ifCond .lt 20, 3) := by decide +kernel
theorem dX4_sampleAt_4 : decode cX4_sampleAt 4 = .ok (.iload_n 1, 1) := by decide +kernel
theorem dX4_sampleAt_5 : decode cX4_sampleAt 5 = .ok (.aload_n 0, 1) := by decide +kernel
theorem dX4_sampleAt_6 : decode cX4_sampleAt 6 = .ok (.getfield 39, 3) := by decide +kernel
theorem dX4_sampleAt_9 : decode cX4_sampleAt 9 = .ok (.if_icmp .ge 12, 3) := by decide +kernel
theorem dX4_sampleAt_12 : decode cX4_sampleAt 12 = .ok (.iload_n 1, 1) := by decide +kernel
theorem dX4_sampleAt_13 : decode cX4_sampleAt 13 = .ok (.aload_n 0, 1) := by decide +kernel
theorem dX4_sampleAt_14 : decode cX4_sampleAt 14 = .ok (.getfield 15, 3) := by decide +kernel
theorem dX4_sampleAt_17 : decode cX4_sampleAt 17 = .ok (.arraylength, 1) := by decide +kernel
theorem dX4_sampleAt_18 : decode cX4_sampleAt 18 = .ok (.if_icmp .lt 7, 3) := by decide +kernel
theorem dX4_sampleAt_21 : decode cX4_sampleAt 21 = .ok (.iconst 0, 1) := by decide +kernel
theorem dX4_sampleAt_22 : decode cX4_sampleAt 22 = .ok (.goto 9, 3) := by decide +kernel
theorem dX4_sampleAt_25 : decode cX4_sampleAt 25 = .ok (.aload_n 0, 1) := by decide +kernel
theorem dX4_sampleAt_26 : decode cX4_sampleAt 26 = .ok (.getfield 15, 3) := by decide +kernel
theorem dX4_sampleAt_29 : decode cX4_sampleAt 29 = .ok (.iload_n 1, 1) := by decide +kernel
theorem dX4_sampleAt_30 : decode cX4_sampleAt 30 = .ok (.iaload, 1) := by decide +kernel
theorem dX4_sampleAt_31 : decode cX4_sampleAt 31 = .ok (.ireturn, 1) := by decide +kernel
theorem dX4_bufferWords_0 : decode cX4_bufferWords 0 = .ok (.bipush 36, 2) := by decide +kernel
theorem dX4_bufferWords_2 : decode cX4_bufferWords 2 = .ok (.aload_n 0, 1) := by decide +kernel
theorem dX4_bufferWords_3 : decode cX4_bufferWords 3 = .ok (.getfield 23, 3) := by decide +kernel
theorem dX4_bufferWords_6 : decode cX4_bufferWords 6 = .ok (.iconst 4, 1) := by decide +kernel
theorem dX4_bufferWords_7 : decode cX4_bufferWords 7 = .ok (.idiv, 1) := by decide +kernel
theorem dX4_bufferWords_8 : decode cX4_bufferWords 8 = .ok (.iadd, 1) := by decide +kernel
theorem dX4_bufferWords_9 : decode cX4_bufferWords 9 = .ok (.ireturn, 1) := by decide +kernel
theorem dX5_init_0 : decode cX5_init 0 = .ok (.aload_n 0, 1) := by decide +kernel
theorem dX5_init_1 : decode cX5_init 1 = .ok (.invokespecial 3, 3) := by decide +kernel
theorem dX5_init_4 : decode cX5_init 4 = .ok (.aload_n 0, 1) := by decide +kernel
theorem dX5_init_5 : decode cX5_init 5 = .ok (.sipush 400, 3) := by decide +kernel
theorem dX5_init_8 : decode cX5_init 8 = .ok (.newarray .int, 2) := by decide +kernel
theorem dX5_init_10 : decode cX5_init 10 = .ok (.putfield 9, 3) := by decide +kernel
theorem dX5_init_13 : decode cX5_init 13 = .ok (.aload_n 0, 1) := by decide +kernel
theorem dX5_init_14 : decode cX5_init 14 = .ok (.sipush 400, 3) := by decide +kernel
theorem dX5_init_17 : decode cX5_init 17 = .ok (.newarray .int, 2) := by decide +kernel
theorem dX5_init_19 : decode cX5_init 19 = .ok (.putfield 15, 3) := by decide +kernel
theorem dX5_init_22 : decode cX5_init 22 = .ok (.aload_n 0, 1) := by decide +kernel
theorem dX5_init_23 : decode cX5_init 23 = .ok (.sipush 400, 3) := by decide +kernel
theorem dX5_init_26 : decode cX5_init 26 = .ok (.newarray .int, 2) := by decide +kernel
theorem dX5_init_28 : decode cX5_init 28 = .ok (.putfield 18, 3) := by decide +kernel
theorem dX5_init_31 : decode cX5_init 31 = .ok (.aload_n 0, 1) := by decide +kernel
theorem dX5_init_32 : decode cX5_init 32 = .ok (.new 21, 3) := by decide +kernel
theorem dX5_init_35 : decode cX5_init 35 = .ok (.dup, 1) := by decide +kernel
theorem dX5_init_36 : decode cX5_init 36 = .ok (.sipush 25600, 3) := by decide +kernel
theorem dX5_init_39 : decode cX5_init 39 = .ok (.invokespecial 23, 3) := by decide +kernel
theorem dX5_init_42 : decode cX5_init 42 = .ok (.putfield 26, 3) := by decide +kernel
theorem dX5_init_45 : decode cX5_init 45 = .ok (.return_, 1) := by decide +kernel
theorem dX5_clear_0 : decode cX5_clear 0 = .ok (.aload_n 0, 1) := by decide +kernel
theorem dX5_clear_1 : decode cX5_clear 1 = .ok (.iconst 0, 1) := by decide +kernel
theorem dX5_clear_2 : decode cX5_clear 2 = .ok (.putfield 30, 3) := by decide +kernel
theorem dX5_clear_5 : decode cX5_clear 5 = .ok (.aload_n 0, 1) := by decide +kernel
theorem dX5_clear_6 : decode cX5_clear 6 = .ok (.iconst 0, 1) := by decide +kernel
theorem dX5_clear_7 : decode cX5_clear 7 = .ok (.putfield 34, 3) := by decide +kernel
theorem dX5_clear_10 : decode cX5_clear 10 = .ok (.return_, 1) := by decide +kernel
theorem dX5_send_0 : decode cX5_send 0 = .ok (.aload_n 0, 1) := by decide +kernel
theorem dX5_send_1 : decode cX5_send 1 = .ok (.getfield 30, 3) := by decide +kernel
theorem dX5_send_4 : decode cX5_send 4 = .ok (.istore 4, 2) := by decide +kernel
theorem dX5_send_6 : decode cX5_send 6 = .ok (.aload_n 0, 1) := by decide +kernel
theorem dX5_send_7 : decode cX5_send 7 = .ok (.dup, 1) := by decide +kernel
theorem dX5_send_8 : decode cX5_send 8 = .ok (.getfield 30, 3) := by decide +kernel
theorem dX5_send_11 : decode cX5_send 11 = .ok (.iconst 1, 1) := by decide +kernel
theorem dX5_send_12 : decode cX5_send 12 = .ok (.iadd, 1) := by decide +kernel
theorem dX5_send_13 : decode cX5_send 13 = .ok (.putfield 30, 3) := by decide +kernel
theorem dX5_send_16 : decode cX5_send 16 = .ok (.aload_n 0, 1) := by decide +kernel
theorem dX5_send_17 : decode cX5_send 17 = .ok (.iload_n 2, 1) := by decide +kernel
theorem dX5_send_18 : decode cX5_send 18 = .ok (.putfield 34, 3) := by decide +kernel
theorem dX5_send_21 : decode cX5_send 21 = .ok (.iload 4, 2) := by decide +kernel
theorem dX5_send_23 : decode cX5_send 23 = .ok (.ifCond .lt 11, 3) := by decide +kernel
theorem dX5_send_26 : decode cX5_send 26 = .ok (.iload 4, 2) := by decide +kernel
theorem dX5_send_28 : decode cX5_send 28 = .ok (.sipush 400, 3) := by decide +kernel
theorem dX5_send_31 : decode cX5_send 31 = .ok (.if_icmp .lt 4, 3) := by decide +kernel
theorem dX5_send_34 : decode cX5_send 34 = .ok (.return_, 1) := by decide +kernel
theorem dX5_send_35 : decode cX5_send 35 = .ok (.aload_n 0, 1) := by decide +kernel
theorem dX5_send_36 : decode cX5_send 36 = .ok (.getfield 9, 3) := by decide +kernel
theorem dX5_send_39 : decode cX5_send 39 = .ok (.iload 4, 2) := by decide +kernel
theorem dX5_send_41 : decode cX5_send 41 = .ok (.iload_n 2, 1) := by decide +kernel
theorem dX5_send_42 : decode cX5_send 42 = .ok (.iastore, 1) := by decide +kernel
theorem dX5_send_43 : decode cX5_send 43 = .ok (.aload_n 0, 1) := by decide +kernel
theorem dX5_send_44 : decode cX5_send 44 = .ok (.getfield 18, 3) := by decide +kernel
theorem dX5_send_47 : decode cX5_send 47 = .ok (.iload 4, 2) := by decide +kernel
theorem dX5_send_49 : decode cX5_send 49 = .ok (.iload_n 3, 1) := by decide +kernel
theorem dX5_send_50 : decode cX5_send 50 = .ok (.iastore, 1) := by decide +kernel
theorem dX5_send_51 : decode cX5_send 51 = .ok (.aload_n 0, 1) := by decide +kernel
theorem dX5_send_52 : decode cX5_send 52 = .ok (.getfield 15, 3) := by decide +kernel
theorem dX5_send_55 : decode cX5_send 55 = .ok (.iload 4, 2) := by decide +kernel
theorem dX5_send_57 : decode cX5_send 57 = .ok (.aload_n 1, 1) := by decide +kernel
theorem dX5_send_58 : decode cX5_send 58 = .ok (.invokevirtual 37, 3) := by decide +kernel
theorem dX5_send_61 : decode cX5_send 61 = .ok (.iastore, 1) := by decide +kernel
theorem dX5_send_62 : decode cX5_send 62 = .ok (.iconst 0, 1) := by decide +kernel
theorem dX5_send_63 : decode cX5_send 63 = .ok (.istore 5, 2) := by decide +kernel
theorem dX5_send_65 : decode cX5_send 65 = .ok (.iload 5, 2) := by decide +kernel
theorem dX5_send_67 : decode cX5_send 67 = .ok (.aload_n 1, 1) := by decide +kernel
theorem dX5_send_68 : decode cX5_send 68 = .ok (.invokevirtual 37, 3) := by decide +kernel
theorem dX5_send_71 : decode cX5_send 71 = .ok (.if_icmp .ge 42, 3) := by decide +kernel
theorem dX5_send_74 : decode cX5_send 74 = .ok (.iload 5, 2) := by decide +kernel
theorem dX5_send_76 : decode cX5_send 76 = .ok (.bipush 64, 2) := by decide +kernel
theorem dX5_send_78 : decode cX5_send 78 = .ok (.if_icmp .ge 35, 3) := by decide +kernel
theorem dX5_send_81 : decode cX5_send 81 = .ok (.aload_n 0, 1) := by decide +kernel
theorem dX5_send_82 : decode cX5_send 82 = .ok (.getfield 26, 3) := by decide +kernel
theorem dX5_send_85 : decode cX5_send 85 = .ok (.iload 4, 2) := by decide +kernel
theorem dX5_send_87 : decode cX5_send 87 = .ok (.bipush 64, 2) := by decide +kernel
theorem dX5_send_89 : decode cX5_send 89 = .ok (.imul, 1) := by decide +kernel
theorem dX5_send_90 : decode cX5_send 90 = .ok (.iload 5, 2) := by decide +kernel
theorem dX5_send_92 : decode cX5_send 92 = .ok (.iadd, 1) := by decide +kernel
theorem dX5_send_93 : decode cX5_send 93 = .ok (.aload_n 1, 1) := by decide +kernel
theorem dX5_send_94 : decode cX5_send 94 = .ok (.aload_n 1, 1) := by decide +kernel
theorem dX5_send_95 : decode cX5_send 95 = .ok (.invokevirtual 43, 3) := by decide +kernel
theorem dX5_send_98 : decode cX5_send 98 = .ok (.iload 5, 2) := by decide +kernel
theorem dX5_send_100 : decode cX5_send 100 = .ok (.iadd, 1) := by decide +kernel
theorem dX5_send_101 : decode cX5_send 101 = .ok (.invokevirtual 46, 3) := by decide +kernel
theorem dX5_send_104 : decode cX5_send 104 = .ok (.invokevirtual 50, 3) := by decide +kernel
theorem dX5_send_107 : decode cX5_send 107 = .ok (.iinc 5 1, 3) := by decide +kernel
theorem dX5_send_110 : decode cX5_send 110 = .ok (.goto (-45), 3) := by decide +kernel
theorem dX5_send_113 : decode cX5_send 113 = .ok (.return_, 1) := by decide +kernel
theorem dX5_keeps_0 : decode cX5_keeps 0 = .ok (.iload_n 1, 1) := by decide +kernel
theorem dX5_keeps_1 : decode cX5_keeps 1 = .ok (.ifCond .lt 22, 3) := by decide +kernel
theorem dX5_keeps_4 : decode cX5_keeps 4 = .ok (.iload_n 1, 1) := by decide +kernel
theorem dX5_keeps_5 : decode cX5_keeps 5 = .ok (.aload_n 0, 1) := by decide +kernel
theorem dX5_keeps_6 : decode cX5_keeps 6 = .ok (.getfield 30, 3) := by decide +kernel
theorem dX5_keeps_9 : decode cX5_keeps 9 = .ok (.if_icmp .ge 14, 3) := by decide +kernel
theorem dX5_keeps_12 : decode cX5_keeps 12 = .ok (.iload_n 1, 1) := by decide +kernel
theorem dX5_keeps_13 : decode cX5_keeps 13 = .ok (.sipush 400, 3) := by decide +kernel
theorem dX5_keeps_16 : decode cX5_keeps 16 = .ok (.if_icmp .ge 7, 3) := by decide +kernel
theorem dX5_keeps_19 : decode cX5_keeps 19 = .ok (.iconst 1, 1) := by decide +kernel
theorem dX5_keeps_20 : decode cX5_keeps 20 = .ok (.goto 4, 3) := by decide +kernel
theorem dX5_keeps_23 : decode cX5_keeps 23 = .ok (.iconst 0, 1) := by decide +kernel
theorem dX5_keeps_24 : decode cX5_keeps 24 = .ok (.ireturn, 1) := by decide +kernel
theorem dX5_total_0 : decode cX5_total 0 = .ok (.aload_n 0, 1) := by decide +kernel
theorem dX5_total_1 : decode cX5_total 1 = .ok (.getfield 30, 3) := by decide +kernel
theorem dX5_total_4 : decode cX5_total 4 = .ok (.ireturn, 1) := by decide +kernel
theorem dX5_newest_0 : decode cX5_newest 0 = .ok (.aload_n 0, 1) := by decide +kernel
theorem dX5_newest_1 : decode cX5_newest 1 = .ok (.getfield 34, 3) := by decide +kernel
theorem dX5_newest_4 : decode cX5_newest 4 = .ok (.ireturn, 1) := by decide +kernel
theorem dX5_number_0 : decode cX5_number 0 = .ok (.aload_n 0, 1) := by decide +kernel
theorem dX5_number_1 : decode cX5_number 1 = .ok (.iload_n 1, 1) := by decide +kernel
theorem dX5_number_2 : decode cX5_number 2 = .ok (.invokevirtual 54, 3) := by decide +kernel
theorem dX5_number_5 : decode cX5_number 5 = .ok (.ifCond .eq 12, 3) := by decide +kernel
theorem dX5_number_8 : decode cX5_number 8 = .ok (.aload_n 0, 1) := by decide +kernel
theorem dX5_number_9 : decode cX5_number 9 = .ok (.getfield 9, 3) := by decide +kernel
theorem dX5_number_12 : decode cX5_number 12 = .ok (.iload_n 1, 1) := by decide +kernel
theorem dX5_number_13 : decode cX5_number 13 = .ok (.iaload, 1) := by decide +kernel
theorem dX5_number_14 : decode cX5_number 14 = .ok (.goto 4, 3) := by decide +kernel
theorem dX5_number_17 : decode cX5_number 17 = .ok (.iconst (-1), 1) := by decide +kernel
theorem dX5_number_18 : decode cX5_number 18 = .ok (.ireturn, 1) := by decide +kernel
theorem dX5_length_0 : decode cX5_length 0 = .ok (.aload_n 0, 1) := by decide +kernel
theorem dX5_length_1 : decode cX5_length 1 = .ok (.iload_n 1, 1) := by decide +kernel
theorem dX5_length_2 : decode cX5_length 2 = .ok (.invokevirtual 54, 3) := by decide +kernel
theorem dX5_length_5 : decode cX5_length 5 = .ok (.ifCond .eq 12, 3) := by decide +kernel
theorem dX5_length_8 : decode cX5_length 8 = .ok (.aload_n 0, 1) := by decide +kernel
theorem dX5_length_9 : decode cX5_length 9 = .ok (.getfield 15, 3) := by decide +kernel
theorem dX5_length_12 : decode cX5_length 12 = .ok (.iload_n 1, 1) := by decide +kernel
theorem dX5_length_13 : decode cX5_length 13 = .ok (.iaload, 1) := by decide +kernel
theorem dX5_length_14 : decode cX5_length 14 = .ok (.goto 4, 3) := by decide +kernel
theorem dX5_length_17 : decode cX5_length 17 = .ok (.iconst (-1), 1) := by decide +kernel
theorem dX5_length_18 : decode cX5_length 18 = .ok (.ireturn, 1) := by decide +kernel
theorem dX5_cutsBefore_0 : decode cX5_cutsBefore 0 = .ok (.aload_n 0, 1) := by decide +kernel
theorem dX5_cutsBefore_1 : decode cX5_cutsBefore 1 = .ok (.iload_n 1, 1) := by decide +kernel
theorem dX5_cutsBefore_2 : decode cX5_cutsBefore 2 = .ok (.invokevirtual 54, 3) := by decide +kernel
theorem dX5_cutsBefore_5 : decode cX5_cutsBefore 5 = .ok (.ifCond .eq 12, 3) := by decide +kernel
theorem dX5_cutsBefore_8 : decode cX5_cutsBefore 8 = .ok (.aload_n 0, 1) := by decide +kernel
theorem dX5_cutsBefore_9 : decode cX5_cutsBefore 9 = .ok (.getfield 18, 3) := by decide +kernel
theorem dX5_cutsBefore_12 : decode cX5_cutsBefore 12 = .ok (.iload_n 1, 1) := by decide +kernel
theorem dX5_cutsBefore_13 : decode cX5_cutsBefore 13 = .ok (.iaload, 1) := by decide +kernel
theorem dX5_cutsBefore_14 : decode cX5_cutsBefore 14 = .ok (.goto 4, 3) := by decide +kernel
theorem dX5_cutsBefore_17 : decode cX5_cutsBefore 17 = .ok (.iconst (-1), 1) := by decide +kernel
theorem dX5_cutsBefore_18 : decode cX5_cutsBefore 18 = .ok (.ireturn, 1) := by decide +kernel
theorem dX5_byteOf_0 : decode cX5_byteOf 0 = .ok (.iload_n 2, 1) := by decide +kernel
theorem dX5_byteOf_1 : decode cX5_byteOf 1 = .ok (.ifCond .lt 28, 3) := by decide +kernel
theorem dX5_byteOf_4 : decode cX5_byteOf 4 = .ok (.iload_n 2, 1) := by decide +kernel
theorem dX5_byteOf_5 : decode cX5_byteOf 5 = .ok (.aload_n 0, 1) := by decide +kernel
theorem dX5_byteOf_6 : decode cX5_byteOf 6 = .ok (.iload_n 1, 1) := by decide +kernel
theorem dX5_byteOf_7 : decode cX5_byteOf 7 = .ok (.invokevirtual 58, 3) := by decide +kernel
theorem dX5_byteOf_10 : decode cX5_byteOf 10 = .ok (.if_icmp .ge 19, 3) := by decide +kernel
theorem dX5_byteOf_13 : decode cX5_byteOf 13 = .ok (.aload_n 0, 1) := by decide +kernel
theorem dX5_byteOf_14 : decode cX5_byteOf 14 = .ok (.getfield 26, 3) := by decide +kernel
theorem dX5_byteOf_17 : decode cX5_byteOf 17 = .ok (.iload_n 1, 1) := by decide +kernel
theorem dX5_byteOf_18 : decode cX5_byteOf 18 = .ok (.bipush 64, 2) := by decide +kernel
theorem dX5_byteOf_20 : decode cX5_byteOf 20 = .ok (.imul, 1) := by decide +kernel
theorem dX5_byteOf_21 : decode cX5_byteOf 21 = .ok (.iload_n 2, 1) := by decide +kernel
theorem dX5_byteOf_22 : decode cX5_byteOf 22 = .ok (.iadd, 1) := by decide +kernel
theorem dX5_byteOf_23 : decode cX5_byteOf 23 = .ok (.invokevirtual 61, 3) := by decide +kernel
theorem dX5_byteOf_26 : decode cX5_byteOf 26 = .ok (.goto 4, 3) := by decide +kernel
theorem dX5_byteOf_29 : decode cX5_byteOf 29 = .ok (.iconst (-1), 1) := by decide +kernel
theorem dX5_byteOf_30 : decode cX5_byteOf 30 = .ok (.ireturn, 1) := by decide +kernel
theorem dX6_init_0 : decode cX6_init 0 = .ok (.aload_n 0, 1) := by decide +kernel
theorem dX6_init_1 : decode cX6_init 1 = .ok (.invokespecial 3, 3) := by decide +kernel
theorem dX6_init_4 : decode cX6_init 4 = .ok (.aload_n 0, 1) := by decide +kernel
theorem dX6_init_5 : decode cX6_init 5 = .ok (.new 9, 3) := by decide +kernel
theorem dX6_init_8 : decode cX6_init 8 = .ok (.dup, 1) := by decide +kernel
theorem dX6_init_9 : decode cX6_init 9 = .ok (.sipush 8200, 3) := by decide +kernel
theorem dX6_init_12 : decode cX6_init 12 = .ok (.invokespecial 11, 3) := by decide +kernel
theorem dX6_init_15 : decode cX6_init 15 = .ok (.putfield 14, 3) := by decide +kernel
theorem dX6_init_18 : decode cX6_init 18 = .ok (.return_, 1) := by decide +kernel
theorem dX6_hasRoom_0 : decode cX6_hasRoom 0 = .ok (.aload_n 0, 1) := by decide +kernel
theorem dX6_hasRoom_1 : decode cX6_hasRoom 1 = .ok (.getfield 20, 3) := by decide +kernel
theorem dX6_hasRoom_4 : decode cX6_hasRoom 4 = .ok (.bipush 20, 2) := by decide +kernel
theorem dX6_hasRoom_6 : decode cX6_hasRoom 6 = .ok (.iadd, 1) := by decide +kernel
theorem dX6_hasRoom_7 : decode cX6_hasRoom 7 = .ok (.sipush 8200, 3) := by decide +kernel
theorem dX6_hasRoom_10 : decode cX6_hasRoom 10 = .ok (.if_icmp .gt 19, 3) := by decide +kernel
theorem dX6_hasRoom_13 : decode cX6_hasRoom 13 = .ok (.aload_n 0, 1) := by decide +kernel
theorem dX6_hasRoom_14 : decode cX6_hasRoom 14 = .ok (.getfield 24, 3) := by decide +kernel
theorem dX6_hasRoom_17 : decode cX6_hasRoom 17 = .ok (.bipush 20, 2) := by decide +kernel
theorem dX6_hasRoom_19 : decode cX6_hasRoom 19 = .ok (.iadd, 1) := by decide +kernel
theorem dX6_hasRoom_20 : decode cX6_hasRoom 20 = .ok (.ldc 27, 2) := by decide +kernel
theorem dX6_hasRoom_22 : decode cX6_hasRoom 22 = .ok (.if_icmp .gt 7, 3) := by decide +kernel
theorem dX6_hasRoom_25 : decode cX6_hasRoom 25 = .ok (.iconst 1, 1) := by decide +kernel
theorem dX6_hasRoom_26 : decode cX6_hasRoom 26 = .ok (.goto 4, 3) := by decide +kernel
theorem dX6_hasRoom_29 : decode cX6_hasRoom 29 = .ok (.iconst 0, 1) := by decide +kernel
theorem dX6_hasRoom_30 : decode cX6_hasRoom 30 = .ok (.ireturn, 1) := by decide +kernel
theorem dX6_size_0 : decode cX6_size 0 = .ok (.aload_n 0, 1) := by decide +kernel
theorem dX6_size_1 : decode cX6_size 1 = .ok (.getfield 20, 3) := by decide +kernel
theorem dX6_size_4 : decode cX6_size 4 = .ok (.ireturn, 1) := by decide +kernel
theorem dX6_add_0 : decode cX6_add 0 = .ok (.bipush 24, 2) := by decide +kernel
theorem dX6_add_2 : decode cX6_add 2 = .ok (.istore_n 2, 1) := by decide +kernel
theorem dX6_add_3 : decode cX6_add 3 = .ok (.iload_n 2, 1) := by decide +kernel
theorem dX6_add_4 : decode cX6_add 4 = .ok (.ifCond .lt 33, 3) := by decide +kernel
theorem dX6_add_7 : decode cX6_add 7 = .ok (.aload_n 0, 1) := by decide +kernel
theorem dX6_add_8 : decode cX6_add 8 = .ok (.getfield 14, 3) := by decide +kernel
theorem dX6_add_11 : decode cX6_add 11 = .ok (.aload_n 0, 1) := by decide +kernel
theorem dX6_add_12 : decode cX6_add 12 = .ok (.getfield 20, 3) := by decide +kernel
theorem dX6_add_15 : decode cX6_add 15 = .ok (.iload_n 1, 1) := by decide +kernel
theorem dX6_add_16 : decode cX6_add 16 = .ok (.iload_n 2, 1) := by decide +kernel
theorem dX6_add_17 : decode cX6_add 17 = .ok (.iushr, 1) := by decide +kernel
theorem dX6_add_18 : decode cX6_add 18 = .ok (.invokevirtual 28, 3) := by decide +kernel
theorem dX6_add_21 : decode cX6_add 21 = .ok (.aload_n 0, 1) := by decide +kernel
theorem dX6_add_22 : decode cX6_add 22 = .ok (.dup, 1) := by decide +kernel
theorem dX6_add_23 : decode cX6_add 23 = .ok (.getfield 20, 3) := by decide +kernel
theorem dX6_add_26 : decode cX6_add 26 = .ok (.iconst 1, 1) := by decide +kernel
theorem dX6_add_27 : decode cX6_add 27 = .ok (.iadd, 1) := by decide +kernel
theorem dX6_add_28 : decode cX6_add 28 = .ok (.putfield 20, 3) := by decide +kernel
theorem dX6_add_31 : decode cX6_add 31 = .ok (.iinc 2 (-8), 3) := by decide +kernel
theorem dX6_add_34 : decode cX6_add 34 = .ok (.goto (-31), 3) := by decide +kernel
theorem dX6_add_37 : decode cX6_add 37 = .ok (.aload_n 0, 1) := by decide +kernel
theorem dX6_add_38 : decode cX6_add 38 = .ok (.dup, 1) := by decide +kernel
theorem dX6_add_39 : decode cX6_add 39 = .ok (.getfield 24, 3) := by decide +kernel
theorem dX6_add_42 : decode cX6_add 42 = .ok (.iconst 4, 1) := by decide +kernel
theorem dX6_add_43 : decode cX6_add 43 = .ok (.iadd, 1) := by decide +kernel
theorem dX6_add_44 : decode cX6_add 44 = .ok (.putfield 24, 3) := by decide +kernel
theorem dX6_add_47 : decode cX6_add 47 = .ok (.return_, 1) := by decide +kernel
theorem dX6_shorten_0 : decode cX6_shorten 0 = .ok (.iload_n 1, 1) := by decide +kernel
theorem dX6_shorten_1 : decode cX6_shorten 1 = .ok (.ifCond .lt 11, 3) := by decide +kernel
theorem dX6_shorten_4 : decode cX6_shorten 4 = .ok (.iload_n 1, 1) := by decide +kernel
theorem dX6_shorten_5 : decode cX6_shorten 5 = .ok (.aload_n 0, 1) := by decide +kernel
theorem dX6_shorten_6 : decode cX6_shorten 6 = .ok (.getfield 20, 3) := by decide +kernel
theorem dX6_shorten_9 : decode cX6_shorten 9 = .ok (.if_icmp .le 5, 3) := by decide +kernel
theorem dX6_shorten_12 : decode cX6_shorten 12 = .ok (.iconst 0, 1) := by decide +kernel
theorem dX6_shorten_13 : decode cX6_shorten 13 = .ok (.ireturn, 1) := by decide +kernel
theorem dX6_shorten_14 : decode cX6_shorten 14 = .ok (.aload_n 0, 1) := by decide +kernel
theorem dX6_shorten_15 : decode cX6_shorten 15 = .ok (.iload_n 1, 1) := by decide +kernel
theorem dX6_shorten_16 : decode cX6_shorten 16 = .ok (.putfield 20, 3) := by decide +kernel
theorem dX6_shorten_19 : decode cX6_shorten 19 = .ok (.iconst 1, 1) := by decide +kernel
theorem dX6_shorten_20 : decode cX6_shorten 20 = .ok (.ireturn, 1) := by decide +kernel
theorem dX6_get_0 : decode cX6_get 0 = .ok (.aload_n 0, 1) := by decide +kernel
theorem dX6_get_1 : decode cX6_get 1 = .ok (.getfield 14, 3) := by decide +kernel
theorem dX6_get_4 : decode cX6_get 4 = .ok (.iload_n 1, 1) := by decide +kernel
theorem dX6_get_5 : decode cX6_get 5 = .ok (.invokevirtual 32, 3) := by decide +kernel
theorem dX6_get_8 : decode cX6_get 8 = .ok (.ireturn, 1) := by decide +kernel
theorem dX7_init_0 : decode cX7_init 0 = .ok (.aload_n 0, 1) := by decide +kernel
theorem dX7_init_1 : decode cX7_init 1 = .ok (.invokespecial 1, 3) := by decide +kernel
theorem dX7_init_4 : decode cX7_init 4 = .ok (.aload_n 0, 1) := by decide +kernel
theorem dX7_init_5 : decode cX7_init 5 = .ok (.new 7, 3) := by decide +kernel
theorem dX7_init_8 : decode cX7_init 8 = .ok (.dup, 1) := by decide +kernel
theorem dX7_init_9 : decode cX7_init 9 = .ok (.invokespecial 9, 3) := by decide +kernel
theorem dX7_init_12 : decode cX7_init 12 = .ok (.putfield 10, 3) := by decide +kernel
theorem dX7_init_15 : decode cX7_init 15 = .ok (.aload_n 0, 1) := by decide +kernel
theorem dX7_init_16 : decode cX7_init 16 = .ok (.new 16, 3) := by decide +kernel
theorem dX7_init_19 : decode cX7_init 19 = .ok (.dup, 1) := by decide +kernel
theorem dX7_init_20 : decode cX7_init 20 = .ok (.invokespecial 18, 3) := by decide +kernel
theorem dX7_init_23 : decode cX7_init 23 = .ok (.putfield 19, 3) := by decide +kernel
theorem dX7_init_26 : decode cX7_init 26 = .ok (.aload_n 0, 1) := by decide +kernel
theorem dX7_init_27 : decode cX7_init 27 = .ok (.new 23, 3) := by decide +kernel
theorem dX7_init_30 : decode cX7_init 30 = .ok (.dup, 1) := by decide +kernel
theorem dX7_init_31 : decode cX7_init 31 = .ok (.aload_n 0, 1) := by decide +kernel
theorem dX7_init_32 : decode cX7_init 32 = .ok (.getfield 19, 3) := by decide +kernel
theorem dX7_init_35 : decode cX7_init 35 = .ok (.invokespecial 25, 3) := by decide +kernel
theorem dX7_init_38 : decode cX7_init 38 = .ok (.putfield 28, 3) := by decide +kernel
theorem dX7_init_41 : decode cX7_init 41 = .ok (.aload_n 0, 1) := by decide +kernel
theorem dX7_init_42 : decode cX7_init 42 = .ok (.new 32, 3) := by decide +kernel
theorem dX7_init_45 : decode cX7_init 45 = .ok (.dup, 1) := by decide +kernel
theorem dX7_init_46 : decode cX7_init 46 = .ok (.aload_n 0, 1) := by decide +kernel
theorem dX7_init_47 : decode cX7_init 47 = .ok (.getfield 19, 3) := by decide +kernel
theorem dX7_init_50 : decode cX7_init 50 = .ok (.invokespecial 34, 3) := by decide +kernel
theorem dX7_init_53 : decode cX7_init 53 = .ok (.putfield 35, 3) := by decide +kernel
theorem dX7_init_56 : decode cX7_init 56 = .ok (.return_, 1) := by decide +kernel
theorem dX7_feed_0 : decode cX7_feed 0 = .ok (.aload_n 0, 1) := by decide +kernel
theorem dX7_feed_1 : decode cX7_feed 1 = .ok (.getfield 10, 3) := by decide +kernel
theorem dX7_feed_4 : decode cX7_feed 4 = .ok (.invokevirtual 39, 3) := by decide +kernel
theorem dX7_feed_7 : decode cX7_feed 7 = .ok (.ifCond .ne 5, 3) := by decide +kernel
theorem dX7_feed_10 : decode cX7_feed 10 = .ok (.iconst (-1), 1) := by decide +kernel
theorem dX7_feed_11 : decode cX7_feed 11 = .ok (.ireturn, 1) := by decide +kernel
theorem dX7_feed_12 : decode cX7_feed 12 = .ok (.aload_n 0, 1) := by decide +kernel
theorem dX7_feed_13 : decode cX7_feed 13 = .ok (.getfield 10, 3) := by decide +kernel
theorem dX7_feed_16 : decode cX7_feed 16 = .ok (.iload_n 1, 1) := by decide +kernel
theorem dX7_feed_17 : decode cX7_feed 17 = .ok (.invokevirtual 43, 3) := by decide +kernel
theorem dX7_feed_20 : decode cX7_feed 20 = .ok (.aload_n 0, 1) := by decide +kernel
theorem dX7_feed_21 : decode cX7_feed 21 = .ok (.getfield 10, 3) := by decide +kernel
theorem dX7_feed_24 : decode cX7_feed 24 = .ok (.iload_n 2, 1) := by decide +kernel
theorem dX7_feed_25 : decode cX7_feed 25 = .ok (.invokevirtual 43, 3) := by decide +kernel
theorem dX7_feed_28 : decode cX7_feed 28 = .ok (.aload_n 0, 1) := by decide +kernel
theorem dX7_feed_29 : decode cX7_feed 29 = .ok (.getfield 10, 3) := by decide +kernel
theorem dX7_feed_32 : decode cX7_feed 32 = .ok (.iload_n 3, 1) := by decide +kernel
theorem dX7_feed_33 : decode cX7_feed 33 = .ok (.invokevirtual 43, 3) := by decide +kernel
theorem dX7_feed_36 : decode cX7_feed 36 = .ok (.aload_n 0, 1) := by decide +kernel
theorem dX7_feed_37 : decode cX7_feed 37 = .ok (.getfield 10, 3) := by decide +kernel
theorem dX7_feed_40 : decode cX7_feed 40 = .ok (.iload 4, 2) := by decide +kernel
theorem dX7_feed_42 : decode cX7_feed 42 = .ok (.invokevirtual 43, 3) := by decide +kernel
theorem dX7_feed_45 : decode cX7_feed 45 = .ok (.aload_n 0, 1) := by decide +kernel
theorem dX7_feed_46 : decode cX7_feed 46 = .ok (.getfield 10, 3) := by decide +kernel
theorem dX7_feed_49 : decode cX7_feed 49 = .ok (.iload 5, 2) := by decide +kernel
theorem dX7_feed_51 : decode cX7_feed 51 = .ok (.invokevirtual 43, 3) := by decide +kernel
theorem dX7_feed_54 : decode cX7_feed 54 = .ok (.aload_n 0, 1) := by decide +kernel
theorem dX7_feed_55 : decode cX7_feed 55 = .ok (.getfield 10, 3) := by decide +kernel
theorem dX7_feed_58 : decode cX7_feed 58 = .ok (.invokevirtual 47, 3) := by decide +kernel
theorem dX7_feed_61 : decode cX7_feed 61 = .ok (.ireturn, 1) := by decide +kernel
theorem dX7_end_0 : decode cX7_end 0 = .ok (.aload_n 0, 1) := by decide +kernel
theorem dX7_end_1 : decode cX7_end 1 = .ok (.getfield 10, 3) := by decide +kernel
theorem dX7_end_4 : decode cX7_end 4 = .ok (.iload_n 1, 1) := by decide +kernel
theorem dX7_end_5 : decode cX7_end 5 = .ok (.invokevirtual 51, 3) := by decide +kernel
theorem dX7_end_8 : decode cX7_end 8 = .ok (.ireturn, 1) := by decide +kernel
theorem dX7_install_0 : decode cX7_install 0 = .ok (.aload_n 0, 1) := by decide +kernel
theorem dX7_install_1 : decode cX7_install 1 = .ok (.getfield 10, 3) := by decide +kernel
theorem dX7_install_4 : decode cX7_install 4 = .ok (.invokevirtual 47, 3) := by decide +kernel
theorem dX7_install_7 : decode cX7_install 7 = .ok (.istore 6, 2) := by decide +kernel
theorem dX7_install_9 : decode cX7_install 9 = .ok (.aload_n 0, 1) := by decide +kernel
theorem dX7_install_10 : decode cX7_install 10 = .ok (.getfield 10, 3) := by decide +kernel
theorem dX7_install_13 : decode cX7_install 13 = .ok (.iconst 0, 1) := by decide +kernel
theorem dX7_install_14 : decode cX7_install 14 = .ok (.invokevirtual 51, 3) := by decide +kernel
theorem dX7_install_17 : decode cX7_install 17 = .ok (.pop, 1) := by decide +kernel
theorem dX7_install_18 : decode cX7_install 18 = .ok (.iload_n 1, 1) := by decide +kernel
theorem dX7_install_19 : decode cX7_install 19 = .ok (.iload_n 2, 1) := by decide +kernel
theorem dX7_install_20 : decode cX7_install 20 = .ok (.iload_n 3, 1) := by decide +kernel
theorem dX7_install_21 : decode cX7_install 21 = .ok (.iload 4, 2) := by decide +kernel
theorem dX7_install_23 : decode cX7_install 23 = .ok (.invokestatic 55, 3) := by decide +kernel
theorem dX7_install_26 : decode cX7_install 26 = .ok (.ifCond .ne 5, 3) := by decide +kernel
theorem dX7_install_29 : decode cX7_install 29 = .ok (.iconst (-1), 1) := by decide +kernel
theorem dX7_install_30 : decode cX7_install 30 = .ok (.ireturn, 1) := by decide +kernel
theorem dX7_install_31 : decode cX7_install 31 = .ok (.iload 6, 2) := by decide +kernel
theorem dX7_install_33 : decode cX7_install 33 = .ok (.iload_n 2, 1) := by decide +kernel
theorem dX7_install_34 : decode cX7_install 34 = .ok (.if_icmp .le 6, 3) := by decide +kernel
theorem dX7_install_37 : decode cX7_install 37 = .ok (.bipush (-2), 2) := by decide +kernel
theorem dX7_install_39 : decode cX7_install 39 = .ok (.ireturn, 1) := by decide +kernel
theorem dX7_install_40 : decode cX7_install 40 = .ok (.aload_n 0, 1) := by decide +kernel
theorem dX7_install_41 : decode cX7_install 41 = .ok (.getfield 19, 3) := by decide +kernel
theorem dX7_install_44 : decode cX7_install 44 = .ok (.iload_n 1, 1) := by decide +kernel
theorem dX7_install_45 : decode cX7_install 45 = .ok (.iload_n 2, 1) := by decide +kernel
theorem dX7_install_46 : decode cX7_install 46 = .ok (.iload_n 3, 1) := by decide +kernel
theorem dX7_install_47 : decode cX7_install 47 = .ok (.iload 4, 2) := by decide +kernel
theorem dX7_install_49 : decode cX7_install 49 = .ok (.iload 5, 2) := by decide +kernel
theorem dX7_install_51 : decode cX7_install 51 = .ok (.invokevirtual 59, 3) := by decide +kernel
theorem dX7_install_54 : decode cX7_install 54 = .ok (.aload_n 0, 1) := by decide +kernel
theorem dX7_install_55 : decode cX7_install 55 = .ok (.getfield 19, 3) := by decide +kernel
theorem dX7_install_58 : decode cX7_install 58 = .ok (.aload_n 0, 1) := by decide +kernel
theorem dX7_install_59 : decode cX7_install 59 = .ok (.getfield 10, 3) := by decide +kernel
theorem dX7_install_62 : decode cX7_install 62 = .ok (.iload 6, 2) := by decide +kernel
theorem dX7_install_64 : decode cX7_install 64 = .ok (.invokevirtual 63, 3) := by decide +kernel
theorem dX7_install_67 : decode cX7_install 67 = .ok (.aload_n 0, 1) := by decide +kernel
theorem dX7_install_68 : decode cX7_install 68 = .ok (.getfield 28, 3) := by decide +kernel
theorem dX7_install_71 : decode cX7_install 71 = .ok (.invokevirtual 67, 3) := by decide +kernel
theorem dX7_install_74 : decode cX7_install 74 = .ok (.aload_n 0, 1) := by decide +kernel
theorem dX7_install_75 : decode cX7_install 75 = .ok (.getfield 35, 3) := by decide +kernel
theorem dX7_install_78 : decode cX7_install 78 = .ok (.invokevirtual 70, 3) := by decide +kernel
theorem dX7_install_81 : decode cX7_install 81 = .ok (.iconst 0, 1) := by decide +kernel
theorem dX7_install_82 : decode cX7_install 82 = .ok (.ireturn, 1) := by decide +kernel
theorem dX7_sample_0 : decode cX7_sample 0 = .ok (.aload_n 0, 1) := by decide +kernel
theorem dX7_sample_1 : decode cX7_sample 1 = .ok (.getfield 28, 3) := by decide +kernel
theorem dX7_sample_4 : decode cX7_sample 4 = .ok (.invokevirtual 73, 3) := by decide +kernel
theorem dX7_sample_7 : decode cX7_sample 7 = .ok (.ifCond .eq 7, 3) := by decide +kernel
theorem dX7_sample_10 : decode cX7_sample 10 = .ok (.iconst (-1), 1) := by decide +kernel
theorem dX7_sample_11 : decode cX7_sample 11 = .ok (.goto 11, 3) := by decide +kernel
theorem dX7_sample_14 : decode cX7_sample 14 = .ok (.aload_n 0, 1) := by decide +kernel
theorem dX7_sample_15 : decode cX7_sample 15 = .ok (.getfield 19, 3) := by decide +kernel
theorem dX7_sample_18 : decode cX7_sample 18 = .ok (.iload_n 1, 1) := by decide +kernel
theorem dX7_sample_19 : decode cX7_sample 19 = .ok (.invokevirtual 76, 3) := by decide +kernel
theorem dX7_sample_22 : decode cX7_sample 22 = .ok (.ireturn, 1) := by decide +kernel
theorem dX7_on_0 : decode cX7_on 0 = .ok (.aload_n 0, 1) := by decide +kernel
theorem dX7_on_1 : decode cX7_on 1 = .ok (.getfield 28, 3) := by decide +kernel
theorem dX7_on_4 : decode cX7_on 4 = .ok (.invokevirtual 80, 3) := by decide +kernel
theorem dX7_on_7 : decode cX7_on 7 = .ok (.ireturn, 1) := by decide +kernel
theorem dX7_cut_0 : decode cX7_cut 0 = .ok (.aload_n 0, 1) := by decide +kernel
theorem dX7_cut_1 : decode cX7_cut 1 = .ok (.getfield 28, 3) := by decide +kernel
theorem dX7_cut_4 : decode cX7_cut 4 = .ok (.invokevirtual 83, 3) := by decide +kernel
theorem dX7_cut_7 : decode cX7_cut 7 = .ok (.ireturn, 1) := by decide +kernel
theorem dX7_go_0 : decode cX7_go 0 = .ok (.iload_n 1, 1) := by decide +kernel
theorem dX7_go_1 : decode cX7_go 1 = .ok (.ifCond .lt 10, 3) := by decide +kernel
theorem dX7_go_4 : decode cX7_go 4 = .ok (.iload_n 1, 1) := by decide +kernel
theorem dX7_go_5 : decode cX7_go 5 = .ok (.sipush 20000, 3) := by decide +kernel
theorem dX7_go_8 : decode cX7_go 8 = .ok (.if_icmp .le 7, 3) := by decide +kernel
theorem dX7_go_11 : decode cX7_go 11 = .ok (.iconst (-1), 1) := by decide +kernel
theorem dX7_go_12 : decode cX7_go 12 = .ok (.goto 11, 3) := by decide +kernel
theorem dX7_go_15 : decode cX7_go 15 = .ok (.aload_n 0, 1) := by decide +kernel
theorem dX7_go_16 : decode cX7_go 16 = .ok (.getfield 28, 3) := by decide +kernel
theorem dX7_go_19 : decode cX7_go 19 = .ok (.iload_n 1, 1) := by decide +kernel
theorem dX7_go_20 : decode cX7_go 20 = .ok (.invokevirtual 86, 3) := by decide +kernel
theorem dX7_go_23 : decode cX7_go 23 = .ok (.ireturn, 1) := by decide +kernel
theorem dX7_state_0 : decode cX7_state 0 = .ok (.aload_n 0, 1) := by decide +kernel
theorem dX7_state_1 : decode cX7_state 1 = .ok (.getfield 28, 3) := by decide +kernel
theorem dX7_state_4 : decode cX7_state 4 = .ok (.invokevirtual 89, 3) := by decide +kernel
theorem dX7_state_7 : decode cX7_state 7 = .ok (.ireturn, 1) := by decide +kernel
theorem dX7_register_0 : decode cX7_register 0 = .ok (.aload_n 0, 1) := by decide +kernel
theorem dX7_register_1 : decode cX7_register 1 = .ok (.getfield 28, 3) := by decide +kernel
theorem dX7_register_4 : decode cX7_register 4 = .ok (.iload_n 1, 1) := by decide +kernel
theorem dX7_register_5 : decode cX7_register 5 = .ok (.invokevirtual 92, 3) := by decide +kernel
theorem dX7_register_8 : decode cX7_register 8 = .ok (.ireturn, 1) := by decide +kernel
theorem dX7_ram_0 : decode cX7_ram 0 = .ok (.aload_n 0, 1) := by decide +kernel
theorem dX7_ram_1 : decode cX7_ram 1 = .ok (.getfield 28, 3) := by decide +kernel
theorem dX7_ram_4 : decode cX7_ram 4 = .ok (.iload_n 1, 1) := by decide +kernel
theorem dX7_ram_5 : decode cX7_ram 5 = .ok (.invokevirtual 95, 3) := by decide +kernel
theorem dX7_ram_8 : decode cX7_ram 8 = .ok (.ireturn, 1) := by decide +kernel
theorem dX7_words_0 : decode cX7_words 0 = .ok (.aload_n 0, 1) := by decide +kernel
theorem dX7_words_1 : decode cX7_words 1 = .ok (.getfield 28, 3) := by decide +kernel
theorem dX7_words_4 : decode cX7_words 4 = .ok (.invokevirtual 98, 3) := by decide +kernel
theorem dX7_words_7 : decode cX7_words 7 = .ok (.ireturn, 1) := by decide +kernel
theorem dX7_word_0 : decode cX7_word 0 = .ok (.aload_n 0, 1) := by decide +kernel
theorem dX7_word_1 : decode cX7_word 1 = .ok (.getfield 28, 3) := by decide +kernel
theorem dX7_word_4 : decode cX7_word 4 = .ok (.iload_n 1, 1) := by decide +kernel
theorem dX7_word_5 : decode cX7_word 5 = .ok (.invokevirtual 99, 3) := by decide +kernel
theorem dX7_word_8 : decode cX7_word 8 = .ok (.ireturn, 1) := by decide +kernel
theorem dX7_frames_0 : decode cX7_frames 0 = .ok (.aload_n 0, 1) := by decide +kernel
theorem dX7_frames_1 : decode cX7_frames 1 = .ok (.getfield 28, 3) := by decide +kernel
theorem dX7_frames_4 : decode cX7_frames 4 = .ok (.invokevirtual 102, 3) := by decide +kernel
theorem dX7_frames_7 : decode cX7_frames 7 = .ok (.invokevirtual 106, 3) := by decide +kernel
theorem dX7_frames_10 : decode cX7_frames 10 = .ok (.ireturn, 1) := by decide +kernel
theorem dX7_frame_0 : decode cX7_frame 0 = .ok (.iload_n 2, 1) := by decide +kernel
theorem dX7_frame_1 : decode cX7_frame 1 = .ok (.tableswitch 63 0 2 #[27, 39, 51], 27) := by decide +kernel
theorem dX7_frame_28 : decode cX7_frame 28 = .ok (.aload_n 0, 1) := by decide +kernel
theorem dX7_frame_29 : decode cX7_frame 29 = .ok (.getfield 28, 3) := by decide +kernel
theorem dX7_frame_32 : decode cX7_frame 32 = .ok (.invokevirtual 102, 3) := by decide +kernel
theorem dX7_frame_35 : decode cX7_frame 35 = .ok (.iload_n 1, 1) := by decide +kernel
theorem dX7_frame_36 : decode cX7_frame 36 = .ok (.invokevirtual 111, 3) := by decide +kernel
theorem dX7_frame_39 : decode cX7_frame 39 = .ok (.ireturn, 1) := by decide +kernel
theorem dX7_frame_40 : decode cX7_frame 40 = .ok (.aload_n 0, 1) := by decide +kernel
theorem dX7_frame_41 : decode cX7_frame 41 = .ok (.getfield 28, 3) := by decide +kernel
theorem dX7_frame_44 : decode cX7_frame 44 = .ok (.invokevirtual 102, 3) := by decide +kernel
theorem dX7_frame_47 : decode cX7_frame 47 = .ok (.iload_n 1, 1) := by decide +kernel
theorem dX7_frame_48 : decode cX7_frame 48 = .ok (.invokevirtual 114, 3) := by decide +kernel
theorem dX7_frame_51 : decode cX7_frame 51 = .ok (.ireturn, 1) := by decide +kernel
theorem dX7_frame_52 : decode cX7_frame 52 = .ok (.aload_n 0, 1) := by decide +kernel
theorem dX7_frame_53 : decode cX7_frame 53 = .ok (.getfield 28, 3) := by decide +kernel
theorem dX7_frame_56 : decode cX7_frame 56 = .ok (.invokevirtual 102, 3) := by decide +kernel
theorem dX7_frame_59 : decode cX7_frame 59 = .ok (.iload_n 1, 1) := by decide +kernel
theorem dX7_frame_60 : decode cX7_frame 60 = .ok (.invokevirtual 117, 3) := by decide +kernel
theorem dX7_frame_63 : decode cX7_frame 63 = .ok (.ireturn, 1) := by decide +kernel
theorem dX7_frame_64 : decode cX7_frame 64 = .ok (.iconst (-1), 1) := by decide +kernel
theorem dX7_frame_65 : decode cX7_frame 65 = .ok (.ireturn, 1) := by decide +kernel
theorem dX7_heard_0 : decode cX7_heard 0 = .ok (.aload_n 0, 1) := by decide +kernel
theorem dX7_heard_1 : decode cX7_heard 1 = .ok (.getfield 28, 3) := by decide +kernel
theorem dX7_heard_4 : decode cX7_heard 4 = .ok (.invokevirtual 102, 3) := by decide +kernel
theorem dX7_heard_7 : decode cX7_heard 7 = .ok (.iload_n 1, 1) := by decide +kernel
theorem dX7_heard_8 : decode cX7_heard 8 = .ok (.iload_n 2, 1) := by decide +kernel
theorem dX7_heard_9 : decode cX7_heard 9 = .ok (.invokevirtual 120, 3) := by decide +kernel
theorem dX7_heard_12 : decode cX7_heard 12 = .ok (.ireturn, 1) := by decide +kernel
theorem dX7_count_0 : decode cX7_count 0 = .ok (.aload_n 0, 1) := by decide +kernel
theorem dX7_count_1 : decode cX7_count 1 = .ok (.getfield 28, 3) := by decide +kernel
theorem dX7_count_4 : decode cX7_count 4 = .ok (.iload_n 1, 1) := by decide +kernel
theorem dX7_count_5 : decode cX7_count 5 = .ok (.invokevirtual 124, 3) := by decide +kernel
theorem dX7_count_8 : decode cX7_count 8 = .ok (.ireturn, 1) := by decide +kernel
theorem dX7_plain_0 : decode cX7_plain 0 = .ok (.aload_n 0, 1) := by decide +kernel
theorem dX7_plain_1 : decode cX7_plain 1 = .ok (.getfield 19, 3) := by decide +kernel
theorem dX7_plain_4 : decode cX7_plain 4 = .ok (.getfield 127, 3) := by decide +kernel
theorem dX7_plain_7 : decode cX7_plain 7 = .ok (.ifCond .eq 14, 3) := by decide +kernel
theorem dX7_plain_10 : decode cX7_plain 10 = .ok (.iload_n 1, 1) := by decide +kernel
theorem dX7_plain_11 : decode cX7_plain 11 = .ok (.ifCond .lt 10, 3) := by decide +kernel
theorem dX7_plain_14 : decode cX7_plain 14 = .ok (.iload_n 1, 1) := by decide +kernel
theorem dX7_plain_15 : decode cX7_plain 15 = .ok (.sipush 20000, 3) := by decide +kernel
theorem dX7_plain_18 : decode cX7_plain 18 = .ok (.if_icmp .le 7, 3) := by decide +kernel
theorem dX7_plain_21 : decode cX7_plain 21 = .ok (.iconst (-1), 1) := by decide +kernel
theorem dX7_plain_22 : decode cX7_plain 22 = .ok (.goto 11, 3) := by decide +kernel
theorem dX7_plain_25 : decode cX7_plain 25 = .ok (.aload_n 0, 1) := by decide +kernel
theorem dX7_plain_26 : decode cX7_plain 26 = .ok (.getfield 35, 3) := by decide +kernel
theorem dX7_plain_29 : decode cX7_plain 29 = .ok (.iload_n 1, 1) := by decide +kernel
theorem dX7_plain_30 : decode cX7_plain 30 = .ok (.invokevirtual 131, 3) := by decide +kernel
theorem dX7_plain_33 : decode cX7_plain 33 = .ok (.ireturn, 1) := by decide +kernel
theorem dX7_plainly_0 : decode cX7_plainly 0 = .ok (.aload_n 0, 1) := by decide +kernel
theorem dX7_plainly_1 : decode cX7_plainly 1 = .ok (.getfield 35, 3) := by decide +kernel
theorem dX7_plainly_4 : decode cX7_plainly 4 = .ok (.iload_n 1, 1) := by decide +kernel
theorem dX7_plainly_5 : decode cX7_plainly 5 = .ok (.invokevirtual 134, 3) := by decide +kernel
theorem dX7_plainly_8 : decode cX7_plainly 8 = .ok (.ireturn, 1) := by decide +kernel
theorem dX7_plainByte_0 : decode cX7_plainByte 0 = .ok (.aload_n 0, 1) := by decide +kernel
theorem dX7_plainByte_1 : decode cX7_plainByte 1 = .ok (.getfield 35, 3) := by decide +kernel
theorem dX7_plainByte_4 : decode cX7_plainByte 4 = .ok (.iload_n 1, 1) := by decide +kernel
theorem dX7_plainByte_5 : decode cX7_plainByte 5 = .ok (.invokevirtual 135, 3) := by decide +kernel
theorem dX7_plainByte_8 : decode cX7_plainByte 8 = .ok (.ireturn, 1) := by decide +kernel
theorem dX7_plainFrame_0 : decode cX7_plainFrame 0 = .ok (.aload_n 0, 1) := by decide +kernel
theorem dX7_plainFrame_1 : decode cX7_plainFrame 1 = .ok (.getfield 35, 3) := by decide +kernel
theorem dX7_plainFrame_4 : decode cX7_plainFrame 4 = .ok (.invokevirtual 138, 3) := by decide +kernel
theorem dX7_plainFrame_7 : decode cX7_plainFrame 7 = .ok (.iload_n 1, 1) := by decide +kernel
theorem dX7_plainFrame_8 : decode cX7_plainFrame 8 = .ok (.invokevirtual 114, 3) := by decide +kernel
theorem dX7_plainFrame_11 : decode cX7_plainFrame 11 = .ok (.ireturn, 1) := by decide +kernel
theorem dX7_plainHeard_0 : decode cX7_plainHeard 0 = .ok (.aload_n 0, 1) := by decide +kernel
theorem dX7_plainHeard_1 : decode cX7_plainHeard 1 = .ok (.getfield 35, 3) := by decide +kernel
theorem dX7_plainHeard_4 : decode cX7_plainHeard 4 = .ok (.invokevirtual 138, 3) := by decide +kernel
theorem dX7_plainHeard_7 : decode cX7_plainHeard 7 = .ok (.iload_n 1, 1) := by decide +kernel
theorem dX7_plainHeard_8 : decode cX7_plainHeard 8 = .ok (.iload_n 2, 1) := by decide +kernel
theorem dX7_plainHeard_9 : decode cX7_plainHeard 9 = .ok (.invokevirtual 120, 3) := by decide +kernel
theorem dX7_plainHeard_12 : decode cX7_plainHeard 12 = .ok (.ireturn, 1) := by decide +kernel
theorem dX7_strays_0 : decode cX7_strays 0 = .ok (.aload_n 0, 1) := by decide +kernel
theorem dX7_strays_1 : decode cX7_strays 1 = .ok (.getfield 28, 3) := by decide +kernel
theorem dX7_strays_4 : decode cX7_strays 4 = .ok (.invokevirtual 139, 3) := by decide +kernel
theorem dX7_strays_7 : decode cX7_strays 7 = .ok (.ireturn, 1) := by decide +kernel
theorem dX8_init_0 : decode cX8_init 0 = .ok (.aload_n 0, 1) := by decide +kernel
theorem dX8_init_1 : decode cX8_init 1 = .ok (.invokespecial 3, 3) := by decide +kernel
theorem dX8_init_4 : decode cX8_init 4 = .ok (.aload_n 0, 1) := by decide +kernel
theorem dX8_init_5 : decode cX8_init 5 = .ok (.sipush 400, 3) := by decide +kernel
theorem dX8_init_8 : decode cX8_init 8 = .ok (.newarray .int, 2) := by decide +kernel
theorem dX8_init_10 : decode cX8_init 10 = .ok (.putfield 9, 3) := by decide +kernel
theorem dX8_init_13 : decode cX8_init 13 = .ok (.aload_n 0, 1) := by decide +kernel
theorem dX8_init_14 : decode cX8_init 14 = .ok (.sipush 400, 3) := by decide +kernel
theorem dX8_init_17 : decode cX8_init 17 = .ok (.newarray .int, 2) := by decide +kernel
theorem dX8_init_19 : decode cX8_init 19 = .ok (.putfield 15, 3) := by decide +kernel
theorem dX8_init_22 : decode cX8_init 22 = .ok (.aload_n 0, 1) := by decide +kernel
theorem dX8_init_23 : decode cX8_init 23 = .ok (.sipush 400, 3) := by decide +kernel
theorem dX8_init_26 : decode cX8_init 26 = .ok (.newarray .int, 2) := by decide +kernel
theorem dX8_init_28 : decode cX8_init 28 = .ok (.putfield 18, 3) := by decide +kernel
theorem dX8_init_31 : decode cX8_init 31 = .ok (.aload_n 0, 1) := by decide +kernel
theorem dX8_init_32 : decode cX8_init 32 = .ok (.sipush 25600, 3) := by decide +kernel
theorem dX8_init_35 : decode cX8_init 35 = .ok (.newarray .byte, 2) := by decide +kernel
theorem dX8_init_37 : decode cX8_init 37 = .ok (.putfield 21, 3) := by decide +kernel
theorem dX8_init_40 : decode cX8_init 40 = .ok (.return_, 1) := by decide +kernel
theorem dX8_has_0 : decode cX8_has 0 = .ok (.iload_n 1, 1) := by decide +kernel
theorem dX8_has_1 : decode cX8_has 1 = .ok (.ifCond .lt 22, 3) := by decide +kernel
theorem dX8_has_4 : decode cX8_has 4 = .ok (.iload_n 1, 1) := by decide +kernel
theorem dX8_has_5 : decode cX8_has 5 = .ok (.aload_n 0, 1) := by decide +kernel
theorem dX8_has_6 : decode cX8_has 6 = .ok (.getfield 25, 3) := by decide +kernel
theorem dX8_has_9 : decode cX8_has 9 = .ok (.if_icmp .ge 14, 3) := by decide +kernel
theorem dX8_has_12 : decode cX8_has 12 = .ok (.iload_n 1, 1) := by decide +kernel
theorem dX8_has_13 : decode cX8_has 13 = .ok (.sipush 400, 3) := by decide +kernel
theorem dX8_has_16 : decode cX8_has 16 = .ok (.if_icmp .ge 7, 3) := by decide +kernel
theorem dX8_has_19 : decode cX8_has 19 = .ok (.iconst 1, 1) := by decide +kernel
theorem dX8_has_20 : decode cX8_has 20 = .ok (.goto 4, 3) := by decide +kernel
theorem dX8_has_23 : decode cX8_has 23 = .ok (.iconst 0, 1) := by decide +kernel
theorem dX8_has_24 : decode cX8_has 24 = .ok (.ireturn, 1) := by decide +kernel
theorem dX8_at_0 : decode cX8_at 0 = .ok (.aload_n 0, 1) := by decide +kernel
theorem dX8_at_1 : decode cX8_at 1 = .ok (.iload_n 1, 1) := by decide +kernel
theorem dX8_at_2 : decode cX8_at 2 = .ok (.invokevirtual 29, 3) := by decide +kernel
theorem dX8_at_5 : decode cX8_at 5 = .ok (.ifCond .eq 35, 3) := by decide +kernel
theorem dX8_at_8 : decode cX8_at 8 = .ok (.iload_n 2, 1) := by decide +kernel
theorem dX8_at_9 : decode cX8_at 9 = .ok (.ifCond .lt 31, 3) := by decide +kernel
theorem dX8_at_12 : decode cX8_at 12 = .ok (.iload_n 2, 1) := by decide +kernel
theorem dX8_at_13 : decode cX8_at 13 = .ok (.aload_n 0, 1) := by decide +kernel
theorem dX8_at_14 : decode cX8_at 14 = .ok (.getfield 15, 3) := by decide +kernel
theorem dX8_at_17 : decode cX8_at 17 = .ok (.iload_n 1, 1) := by decide +kernel
theorem dX8_at_18 : decode cX8_at 18 = .ok (.iaload, 1) := by decide +kernel
theorem dX8_at_19 : decode cX8_at 19 = .ok (.if_icmp .ge 21, 3) := by decide +kernel
theorem dX8_at_22 : decode cX8_at 22 = .ok (.aload_n 0, 1) := by decide +kernel
theorem dX8_at_23 : decode cX8_at 23 = .ok (.getfield 21, 3) := by decide +kernel
theorem dX8_at_26 : decode cX8_at 26 = .ok (.bipush 64, 2) := by decide +kernel
theorem dX8_at_28 : decode cX8_at 28 = .ok (.iload_n 1, 1) := by decide +kernel
theorem dX8_at_29 : decode cX8_at 29 = .ok (.imul, 1) := by decide +kernel
theorem dX8_at_30 : decode cX8_at 30 = .ok (.iload_n 2, 1) := by decide +kernel
theorem dX8_at_31 : decode cX8_at 31 = .ok (.iadd, 1) := by decide +kernel
theorem dX8_at_32 : decode cX8_at 32 = .ok (.baload, 1) := by decide +kernel
theorem dX8_at_33 : decode cX8_at 33 = .ok (.sipush 255, 3) := by decide +kernel
theorem dX8_at_36 : decode cX8_at 36 = .ok (.iand, 1) := by decide +kernel
theorem dX8_at_37 : decode cX8_at 37 = .ok (.goto 4, 3) := by decide +kernel
theorem dX8_at_40 : decode cX8_at 40 = .ok (.iconst (-1), 1) := by decide +kernel
theorem dX8_at_41 : decode cX8_at 41 = .ok (.ireturn, 1) := by decide +kernel
theorem dX9_init_0 : decode cX9_init 0 = .ok (.aload_n 0, 1) := by decide +kernel
theorem dX9_init_1 : decode cX9_init 1 = .ok (.invokespecial 3, 3) := by decide +kernel
theorem dX9_init_4 : decode cX9_init 4 = .ok (.aload_n 0, 1) := by decide +kernel
theorem dX9_init_5 : decode cX9_init 5 = .ok (.bipush 32, 2) := by decide +kernel
theorem dX9_init_7 : decode cX9_init 7 = .ok (.newarray .int, 2) := by decide +kernel
theorem dX9_init_9 : decode cX9_init 9 = .ok (.putfield 9, 3) := by decide +kernel
theorem dX9_init_12 : decode cX9_init 12 = .ok (.aload_n 0, 1) := by decide +kernel
theorem dX9_init_13 : decode cX9_init 13 = .ok (.sipush 1024, 3) := by decide +kernel
theorem dX9_init_16 : decode cX9_init 16 = .ok (.newarray .int, 2) := by decide +kernel
theorem dX9_init_18 : decode cX9_init 18 = .ok (.putfield 15, 3) := by decide +kernel
theorem dX9_init_21 : decode cX9_init 21 = .ok (.aload_n 0, 1) := by decide +kernel
theorem dX9_init_22 : decode cX9_init 22 = .ok (.aload_n 1, 1) := by decide +kernel
theorem dX9_init_23 : decode cX9_init 23 = .ok (.putfield 18, 3) := by decide +kernel
theorem dX9_init_26 : decode cX9_init 26 = .ok (.return_, 1) := by decide +kernel
theorem dX9_begin_0 : decode cX9_begin 0 = .ok (.aload_n 0, 1) := by decide +kernel
theorem dX9_begin_1 : decode cX9_begin 1 = .ok (.iload_n 1, 1) := by decide +kernel
theorem dX9_begin_2 : decode cX9_begin 2 = .ok (.putfield 21, 3) := by decide +kernel
theorem dX9_begin_5 : decode cX9_begin 5 = .ok (.aload_n 0, 1) := by decide +kernel
theorem dX9_begin_6 : decode cX9_begin 6 = .ok (.iload_n 2, 1) := by decide +kernel
theorem dX9_begin_7 : decode cX9_begin 7 = .ok (.putfield 25, 3) := by decide +kernel
theorem dX9_begin_10 : decode cX9_begin 10 = .ok (.aload_n 0, 1) := by decide +kernel
theorem dX9_begin_11 : decode cX9_begin 11 = .ok (.iload_n 3, 1) := by decide +kernel
theorem dX9_begin_12 : decode cX9_begin 12 = .ok (.putfield 28, 3) := by decide +kernel
theorem dX9_begin_15 : decode cX9_begin 15 = .ok (.aload_n 0, 1) := by decide +kernel
theorem dX9_begin_16 : decode cX9_begin 16 = .ok (.iconst 0, 1) := by decide +kernel
theorem dX9_begin_17 : decode cX9_begin 17 = .ok (.putfield 31, 3) := by decide +kernel
theorem dX9_begin_20 : decode cX9_begin 20 = .ok (.aload_n 0, 1) := by decide +kernel
theorem dX9_begin_21 : decode cX9_begin 21 = .ok (.iconst 0, 1) := by decide +kernel
theorem dX9_begin_22 : decode cX9_begin 22 = .ok (.putfield 34, 3) := by decide +kernel
theorem dX9_begin_25 : decode cX9_begin 25 = .ok (.aload_n 0, 1) := by decide +kernel
theorem dX9_begin_26 : decode cX9_begin 26 = .ok (.iconst 0, 1) := by decide +kernel
theorem dX9_begin_27 : decode cX9_begin 27 = .ok (.putfield 37, 3) := by decide +kernel
theorem dX9_begin_30 : decode cX9_begin 30 = .ok (.iconst 0, 1) := by decide +kernel
theorem dX9_begin_31 : decode cX9_begin 31 = .ok (.istore 4, 2) := by decide +kernel
theorem dX9_begin_33 : decode cX9_begin 33 = .ok (.iload 4, 2) := by decide +kernel
theorem dX9_begin_35 : decode cX9_begin 35 = .ok (.bipush 32, 2) := by decide +kernel
theorem dX9_begin_37 : decode cX9_begin 37 = .ok (.if_icmp .ge 17, 3) := by decide +kernel
theorem dX9_begin_40 : decode cX9_begin 40 = .ok (.aload_n 0, 1) := by decide +kernel
theorem dX9_begin_41 : decode cX9_begin 41 = .ok (.getfield 9, 3) := by decide +kernel
theorem dX9_begin_44 : decode cX9_begin 44 = .ok (.iload 4, 2) := by decide +kernel
theorem dX9_begin_46 : decode cX9_begin 46 = .ok (.iconst 0, 1) := by decide +kernel
theorem dX9_begin_47 : decode cX9_begin 47 = .ok (.iastore, 1) := by decide +kernel
theorem dX9_begin_48 : decode cX9_begin 48 = .ok (.iinc 4 1, 3) := by decide +kernel
theorem dX9_begin_51 : decode cX9_begin 51 = .ok (.goto (-18), 3) := by decide +kernel
theorem dX9_begin_54 : decode cX9_begin 54 = .ok (.iconst 0, 1) := by decide +kernel
theorem dX9_begin_55 : decode cX9_begin 55 = .ok (.istore 4, 2) := by decide +kernel
theorem dX9_begin_57 : decode cX9_begin 57 = .ok (.iload 4, 2) := by decide +kernel
theorem dX9_begin_59 : decode cX9_begin 59 = .ok (.sipush 1024, 3) := by decide +kernel
theorem dX9_begin_62 : decode cX9_begin 62 = .ok (.if_icmp .ge 17, 3) := by decide +kernel
theorem dX9_begin_65 : decode cX9_begin 65 = .ok (.aload_n 0, 1) := by decide +kernel
theorem dX9_begin_66 : decode cX9_begin 66 = .ok (.getfield 15, 3) := by decide +kernel
theorem dX9_begin_69 : decode cX9_begin 69 = .ok (.iload 4, 2) := by decide +kernel
theorem dX9_begin_71 : decode cX9_begin 71 = .ok (.iconst 0, 1) := by decide +kernel
theorem dX9_begin_72 : decode cX9_begin 72 = .ok (.iastore, 1) := by decide +kernel
theorem dX9_begin_73 : decode cX9_begin 73 = .ok (.iinc 4 1, 3) := by decide +kernel
theorem dX9_begin_76 : decode cX9_begin 76 = .ok (.goto (-19), 3) := by decide +kernel
theorem dX9_begin_79 : decode cX9_begin 79 = .ok (.return_, 1) := by decide +kernel
theorem dX9_isIn_0 : decode cX9_isIn 0 = .ok (.iload_n 1, 1) := by decide +kernel
theorem dX9_isIn_1 : decode cX9_isIn 1 = .ok (.i2l, 1) := by decide +kernel
theorem dX9_isIn_2 : decode cX9_isIn 2 = .ok (.ldc2_w 40, 3) := by decide +kernel
theorem dX9_isIn_5 : decode cX9_isIn 5 = .ok (.land, 1) := by decide +kernel
theorem dX9_isIn_6 : decode cX9_isIn 6 = .ok (.lstore 4, 2) := by decide +kernel
theorem dX9_isIn_8 : decode cX9_isIn 8 = .ok (.lload 4, 2) := by decide +kernel
theorem dX9_isIn_10 : decode cX9_isIn 10 = .ok (.lload_n 2, 1) := by decide +kernel
theorem dX9_isIn_11 : decode cX9_isIn 11 = .ok (.ladd, 1) := by decide +kernel
theorem dX9_isIn_12 : decode cX9_isIn 12 = .ok (.aload_n 0, 1) := by decide +kernel
theorem dX9_isIn_13 : decode cX9_isIn 13 = .ok (.getfield 21, 3) := by decide +kernel
theorem dX9_isIn_16 : decode cX9_isIn 16 = .ok (.i2l, 1) := by decide +kernel
theorem dX9_isIn_17 : decode cX9_isIn 17 = .ok (.lcmp, 1) := by decide +kernel
theorem dX9_isIn_18 : decode cX9_isIn 18 = .ok (.ifCond .le 29, 3) := by decide +kernel
theorem dX9_isIn_21 : decode cX9_isIn 21 = .ok (.lload 4, 2) := by decide +kernel
theorem dX9_isIn_23 : decode cX9_isIn 23 = .ok (.ldc2_w 42, 3) := by decide +kernel
theorem dX9_isIn_26 : decode cX9_isIn 26 = .ok (.lcmp, 1) := by decide +kernel
theorem dX9_isIn_27 : decode cX9_isIn 27 = .ok (.ifCond .lt 24, 3) := by decide +kernel
theorem dX9_isIn_30 : decode cX9_isIn 30 = .ok (.lload 4, 2) := by decide +kernel
theorem dX9_isIn_32 : decode cX9_isIn 32 = .ok (.lload_n 2, 1) := by decide +kernel
theorem dX9_isIn_33 : decode cX9_isIn 33 = .ok (.ladd, 1) := by decide +kernel
theorem dX9_isIn_34 : decode cX9_isIn 34 = .ok (.ldc2_w 42, 3) := by decide +kernel
theorem dX9_isIn_37 : decode cX9_isIn 37 = .ok (.aload_n 0, 1) := by decide +kernel
theorem dX9_isIn_38 : decode cX9_isIn 38 = .ok (.getfield 25, 3) := by decide +kernel
theorem dX9_isIn_41 : decode cX9_isIn 41 = .ok (.i2l, 1) := by decide +kernel
theorem dX9_isIn_42 : decode cX9_isIn 42 = .ok (.ladd, 1) := by decide +kernel
theorem dX9_isIn_43 : decode cX9_isIn 43 = .ok (.lcmp, 1) := by decide +kernel
theorem dX9_isIn_44 : decode cX9_isIn 44 = .ok (.ifCond .gt 7, 3) := by decide +kernel
theorem dX9_isIn_47 : decode cX9_isIn 47 = .ok (.iconst 1, 1) := by decide +kernel
theorem dX9_isIn_48 : decode cX9_isIn 48 = .ok (.goto 4, 3) := by decide +kernel
theorem dX9_isIn_51 : decode cX9_isIn 51 = .ok (.iconst 0, 1) := by decide +kernel
theorem dX9_isIn_52 : decode cX9_isIn 52 = .ok (.ireturn, 1) := by decide +kernel
theorem dX9_isRam_0 : decode cX9_isRam 0 = .ok (.iload_n 1, 1) := by decide +kernel
theorem dX9_isRam_1 : decode cX9_isRam 1 = .ok (.i2l, 1) := by decide +kernel
theorem dX9_isRam_2 : decode cX9_isRam 2 = .ok (.ldc2_w 40, 3) := by decide +kernel
theorem dX9_isRam_5 : decode cX9_isRam 5 = .ok (.land, 1) := by decide +kernel
theorem dX9_isRam_6 : decode cX9_isRam 6 = .ok (.ldc2_w 42, 3) := by decide +kernel
theorem dX9_isRam_9 : decode cX9_isRam 9 = .ok (.lcmp, 1) := by decide +kernel
theorem dX9_isRam_10 : decode cX9_isRam 10 = .ok (.ifCond .ge 7, 3) := by decide +kernel
theorem dX9_isRam_13 : decode cX9_isRam 13 = .ok (.iconst 1, 1) := by decide +kernel
theorem dX9_isRam_14 : decode cX9_isRam 14 = .ok (.goto 4, 3) := by decide +kernel
theorem dX9_isRam_17 : decode cX9_isRam 17 = .ok (.iconst 0, 1) := by decide +kernel
theorem dX9_isRam_18 : decode cX9_isRam 18 = .ok (.ireturn, 1) := by decide +kernel
theorem dX9_wordAt_0 : decode cX9_wordAt 0 = .ok (.aload_n 0, 1) := by decide +kernel
theorem dX9_wordAt_1 : decode cX9_wordAt 1 = .ok (.iload_n 1, 1) := by decide +kernel
theorem dX9_wordAt_2 : decode cX9_wordAt 2 = .ok (.invokevirtual 44, 3) := by decide +kernel
theorem dX9_wordAt_5 : decode cX9_wordAt 5 = .ok (.ifCond .eq 14, 3) := by decide +kernel
theorem dX9_wordAt_8 : decode cX9_wordAt 8 = .ok (.aload_n 0, 1) := by decide +kernel
theorem dX9_wordAt_9 : decode cX9_wordAt 9 = .ok (.getfield 15, 3) := by decide +kernel
theorem dX9_wordAt_12 : decode cX9_wordAt 12 = .ok (.iload_n 1, 1) := by decide +kernel
theorem dX9_wordAt_13 : decode cX9_wordAt 13 = .ok (.iconst 2, 1) := by decide +kernel
theorem dX9_wordAt_14 : decode cX9_wordAt 14 = .ok (.iushr, 1) := by decide +kernel
theorem dX9_wordAt_15 : decode cX9_wordAt 15 = .ok (.iaload, 1) := by decide +kernel
theorem dX9_wordAt_16 : decode cX9_wordAt 16 = .ok (.goto 26, 3) := by decide +kernel
theorem dX9_wordAt_19 : decode cX9_wordAt 19 = .ok (.aload_n 0, 1) := by decide +kernel
theorem dX9_wordAt_20 : decode cX9_wordAt 20 = .ok (.getfield 48, 3) := by decide +kernel
theorem dX9_wordAt_23 : decode cX9_wordAt 23 = .ok (.aload_n 0, 1) := by decide +kernel
theorem dX9_wordAt_24 : decode cX9_wordAt 24 = .ok (.getfield 51, 3) := by decide +kernel
theorem dX9_wordAt_27 : decode cX9_wordAt 27 = .ok (.iload_n 1, 1) := by decide +kernel
theorem dX9_wordAt_28 : decode cX9_wordAt 28 = .ok (.i2l, 1) := by decide +kernel
theorem dX9_wordAt_29 : decode cX9_wordAt 29 = .ok (.ldc2_w 40, 3) := by decide +kernel
theorem dX9_wordAt_32 : decode cX9_wordAt 32 = .ok (.land, 1) := by decide +kernel
theorem dX9_wordAt_33 : decode cX9_wordAt 33 = .ok (.ldc2_w 42, 3) := by decide +kernel
theorem dX9_wordAt_36 : decode cX9_wordAt 36 = .ok (.lsub, 1) := by decide +kernel
theorem dX9_wordAt_37 : decode cX9_wordAt 37 = .ok (.iconst 2, 1) := by decide +kernel
theorem dX9_wordAt_38 : decode cX9_wordAt 38 = .ok (.lshr, 1) := by decide +kernel
theorem dX9_wordAt_39 : decode cX9_wordAt 39 = .ok (.l2i, 1) := by decide +kernel
theorem dX9_wordAt_40 : decode cX9_wordAt 40 = .ok (.iadd, 1) := by decide +kernel
theorem dX9_wordAt_41 : decode cX9_wordAt 41 = .ok (.iaload, 1) := by decide +kernel
theorem dX9_wordAt_42 : decode cX9_wordAt 42 = .ok (.ireturn, 1) := by decide +kernel
theorem dX9_byteAt_0 : decode cX9_byteAt 0 = .ok (.aload_n 0, 1) := by decide +kernel
theorem dX9_byteAt_1 : decode cX9_byteAt 1 = .ok (.iload_n 1, 1) := by decide +kernel
theorem dX9_byteAt_2 : decode cX9_byteAt 2 = .ok (.invokevirtual 54, 3) := by decide +kernel
theorem dX9_byteAt_5 : decode cX9_byteAt 5 = .ok (.bipush 8, 2) := by decide +kernel
theorem dX9_byteAt_7 : decode cX9_byteAt 7 = .ok (.iload_n 1, 1) := by decide +kernel
theorem dX9_byteAt_8 : decode cX9_byteAt 8 = .ok (.iconst 3, 1) := by decide +kernel
theorem dX9_byteAt_9 : decode cX9_byteAt 9 = .ok (.iand, 1) := by decide +kernel
theorem dX9_byteAt_10 : decode cX9_byteAt 10 = .ok (.imul, 1) := by decide +kernel
theorem dX9_byteAt_11 : decode cX9_byteAt 11 = .ok (.iushr, 1) := by decide +kernel
theorem dX9_byteAt_12 : decode cX9_byteAt 12 = .ok (.sipush 255, 3) := by decide +kernel
theorem dX9_byteAt_15 : decode cX9_byteAt 15 = .ok (.iand, 1) := by decide +kernel
theorem dX9_byteAt_16 : decode cX9_byteAt 16 = .ok (.ireturn, 1) := by decide +kernel
theorem dX9_bits_0 : decode cX9_bits 0 = .ok (.iload_n 0, 1) := by decide +kernel
theorem dX9_bits_1 : decode cX9_bits 1 = .ok (.iload_n 1, 1) := by decide +kernel
theorem dX9_bits_2 : decode cX9_bits 2 = .ok (.iushr, 1) := by decide +kernel
theorem dX9_bits_3 : decode cX9_bits 3 = .ok (.iconst 1, 1) := by decide +kernel
theorem dX9_bits_4 : decode cX9_bits 4 = .ok (.iload_n 2, 1) := by decide +kernel
theorem dX9_bits_5 : decode cX9_bits 5 = .ok (.ishl, 1) := by decide +kernel
theorem dX9_bits_6 : decode cX9_bits 6 = .ok (.iconst 1, 1) := by decide +kernel
theorem dX9_bits_7 : decode cX9_bits 7 = .ok (.isub, 1) := by decide +kernel
theorem dX9_bits_8 : decode cX9_bits 8 = .ok (.iand, 1) := by decide +kernel
theorem dX9_bits_9 : decode cX9_bits 9 = .ok (.ireturn, 1) := by decide +kernel
theorem dX9_look_0 : decode cX9_look 0 = .ok (.aload_n 0, 1) := by decide +kernel
theorem dX9_look_1 : decode cX9_look 1 = .ok (.iconst 0, 1) := by decide +kernel
theorem dX9_look_2 : decode cX9_look 2 = .ok (.putfield 58, 3) := by decide +kernel
theorem dX9_look_5 : decode cX9_look 5 = .ok (.aload_n 0, 1) := by decide +kernel
theorem dX9_look_6 : decode cX9_look 6 = .ok (.iconst 0, 1) := by decide +kernel
theorem dX9_look_7 : decode cX9_look 7 = .ok (.putfield 61, 3) := by decide +kernel
theorem dX9_look_10 : decode cX9_look 10 = .ok (.aload_n 0, 1) := by decide +kernel
theorem dX9_look_11 : decode cX9_look 11 = .ok (.iconst 0, 1) := by decide +kernel
theorem dX9_look_12 : decode cX9_look 12 = .ok (.putfield 65, 3) := by decide +kernel
theorem dX9_look_15 : decode cX9_look 15 = .ok (.aload_n 0, 1) := by decide +kernel
theorem dX9_look_16 : decode cX9_look 16 = .ok (.iconst 0, 1) := by decide +kernel
theorem dX9_look_17 : decode cX9_look 17 = .ok (.putfield 68, 3) := by decide +kernel
theorem dX9_look_20 : decode cX9_look 20 = .ok (.aload_n 0, 1) := by decide +kernel
theorem dX9_look_21 : decode cX9_look 21 = .ok (.getfield 28, 3) := by decide +kernel
theorem dX9_look_24 : decode cX9_look 24 = .ok (.iconst 3, 1) := by decide +kernel
theorem dX9_look_25 : decode cX9_look 25 = .ok (.iand, 1) := by decide +kernel
theorem dX9_look_26 : decode cX9_look 26 = .ok (.ifCond .eq 12, 3) := by decide +kernel
theorem dX9_look_29 : decode cX9_look 29 = .ok (.aload_n 0, 1) := by decide +kernel
theorem dX9_look_30 : decode cX9_look 30 = .ok (.bipush 12, 2) := by decide +kernel
theorem dX9_look_32 : decode cX9_look 32 = .ok (.putfield 68, 3) := by decide +kernel
theorem dX9_look_35 : decode cX9_look 35 = .ok (.goto 48, 3) := by decide +kernel
theorem dX9_look_38 : decode cX9_look 38 = .ok (.aload_n 0, 1) := by decide +kernel
theorem dX9_look_39 : decode cX9_look 39 = .ok (.aload_n 0, 1) := by decide +kernel
theorem dX9_look_40 : decode cX9_look 40 = .ok (.getfield 28, 3) := by decide +kernel
theorem dX9_look_43 : decode cX9_look 43 = .ok (.ldc2_w 71, 3) := by decide +kernel
theorem dX9_look_46 : decode cX9_look 46 = .ok (.invokevirtual 73, 3) := by decide +kernel
theorem dX9_look_49 : decode cX9_look 49 = .ok (.ifCond .ne 12, 3) := by decide +kernel
theorem dX9_look_52 : decode cX9_look 52 = .ok (.aload_n 0, 1) := by decide +kernel
theorem dX9_look_53 : decode cX9_look 53 = .ok (.bipush 13, 2) := by decide +kernel
theorem dX9_look_55 : decode cX9_look 55 = .ok (.putfield 68, 3) := by decide +kernel
theorem dX9_look_58 : decode cX9_look 58 = .ok (.goto 25, 3) := by decide +kernel
theorem dX9_look_61 : decode cX9_look 61 = .ok (.aload_n 0, 1) := by decide +kernel
theorem dX9_look_62 : decode cX9_look 62 = .ok (.aload_n 0, 1) := by decide +kernel
theorem dX9_look_63 : decode cX9_look 63 = .ok (.getfield 28, 3) := by decide +kernel
theorem dX9_look_66 : decode cX9_look 66 = .ok (.iconst 4, 1) := by decide +kernel
theorem dX9_look_67 : decode cX9_look 67 = .ok (.iadd, 1) := by decide +kernel
theorem dX9_look_68 : decode cX9_look 68 = .ok (.putfield 77, 3) := by decide +kernel
theorem dX9_look_71 : decode cX9_look 71 = .ok (.aload_n 0, 1) := by decide +kernel
theorem dX9_look_72 : decode cX9_look 72 = .ok (.aload_n 0, 1) := by decide +kernel
theorem dX9_look_73 : decode cX9_look 73 = .ok (.aload_n 0, 1) := by decide +kernel
theorem dX9_look_74 : decode cX9_look 74 = .ok (.getfield 28, 3) := by decide +kernel
theorem dX9_look_77 : decode cX9_look 77 = .ok (.invokevirtual 54, 3) := by decide +kernel
theorem dX9_look_80 : decode cX9_look 80 = .ok (.invokevirtual 80, 3) := by decide +kernel
theorem dX9_look_83 : decode cX9_look 83 = .ok (.return_, 1) := by decide +kernel
theorem dX9_decode_0 : decode cX9_decode 0 = .ok (.aload_n 0, 1) := by decide +kernel
theorem dX9_decode_1 : decode cX9_decode 1 = .ok (.getfield 9, 3) := by decide +kernel
theorem dX9_decode_4 : decode cX9_decode 4 = .ok (.iload_n 1, 1) := by decide +kernel
theorem dX9_decode_5 : decode cX9_decode 5 = .ok (.bipush 15, 2) := by decide +kernel
theorem dX9_decode_7 : decode cX9_decode 7 = .ok (.iconst 5, 1) := by decide +kernel
theorem dX9_decode_8 : decode cX9_decode 8 = .ok (.invokestatic 84, 3) := by decide +kernel
theorem dX9_decode_11 : decode cX9_decode 11 = .ok (.iaload, 1) := by decide +kernel
theorem dX9_decode_12 : decode cX9_decode 12 = .ok (.istore_n 2, 1) := by decide +kernel
theorem dX9_decode_13 : decode cX9_decode 13 = .ok (.aload_n 0, 1) := by decide +kernel
theorem dX9_decode_14 : decode cX9_decode 14 = .ok (.getfield 9, 3) := by decide +kernel
theorem dX9_decode_17 : decode cX9_decode 17 = .ok (.iload_n 1, 1) := by decide +kernel
theorem dX9_decode_18 : decode cX9_decode 18 = .ok (.bipush 20, 2) := by decide +kernel
theorem dX9_decode_20 : decode cX9_decode 20 = .ok (.iconst 5, 1) := by decide +kernel
theorem dX9_decode_21 : decode cX9_decode 21 = .ok (.invokestatic 84, 3) := by decide +kernel
theorem dX9_decode_24 : decode cX9_decode 24 = .ok (.iaload, 1) := by decide +kernel
theorem dX9_decode_25 : decode cX9_decode 25 = .ok (.istore_n 3, 1) := by decide +kernel
theorem dX9_decode_26 : decode cX9_decode 26 = .ok (.iload_n 1, 1) := by decide +kernel
theorem dX9_decode_27 : decode cX9_decode 27 = .ok (.bipush 12, 2) := by decide +kernel
theorem dX9_decode_29 : decode cX9_decode 29 = .ok (.iconst 3, 1) := by decide +kernel
theorem dX9_decode_30 : decode cX9_decode 30 = .ok (.invokestatic 84, 3) := by decide +kernel
theorem dX9_decode_33 : decode cX9_decode 33 = .ok (.istore 4, 2) := by decide +kernel
theorem dX9_decode_35 : decode cX9_decode 35 = .ok (.iload_n 1, 1) := by decide +kernel
theorem dX9_decode_36 : decode cX9_decode 36 = .ok (.bipush 25, 2) := by decide +kernel
theorem dX9_decode_38 : decode cX9_decode 38 = .ok (.bipush 7, 2) := by decide +kernel
theorem dX9_decode_40 : decode cX9_decode 40 = .ok (.invokestatic 84, 3) := by decide +kernel
theorem dX9_decode_43 : decode cX9_decode 43 = .ok (.istore 5, 2) := by decide +kernel
theorem dX9_decode_45 : decode cX9_decode 45 = .ok (.iload_n 1, 1) := by decide +kernel
theorem dX9_decode_46 : decode cX9_decode 46 = .ok (.bipush 20, 2) := by decide +kernel
theorem dX9_decode_48 : decode cX9_decode 48 = .ok (.ishr, 1) := by decide +kernel
theorem dX9_decode_49 : decode cX9_decode 49 = .ok (.istore 6, 2) := by decide +kernel
theorem dX9_decode_51 : decode cX9_decode 51 = .ok (.iload_n 1, 1) := by decide +kernel
theorem dX9_decode_52 : decode cX9_decode 52 = .ok (.bipush 127, 2) := by decide +kernel
theorem dX9_decode_54 : decode cX9_decode 54 = .ok (.iand, 1) := by decide +kernel
theorem dX9_decode_55 : decode cX9_decode 55 = .ok (.lookupswitch 482 #[(3, 238), (15, 446), (19, 278), (23, 109), (35, 251), (51, 358), (55, 97), (99, 226), (103, 191), (111, 126), (115, 460)], 97) := by decide +kernel
theorem dX9_decode_152 : decode cX9_decode 152 = .ok (.aload_n 0, 1) := by decide +kernel
theorem dX9_decode_153 : decode cX9_decode 153 = .ok (.iload_n 1, 1) := by decide +kernel
theorem dX9_decode_154 : decode cX9_decode 154 = .ok (.sipush (-4096), 3) := by decide +kernel
theorem dX9_decode_157 : decode cX9_decode 157 = .ok (.iand, 1) := by decide +kernel
theorem dX9_decode_158 : decode cX9_decode 158 = .ok (.invokevirtual 88, 3) := by decide +kernel
theorem dX9_decode_161 : decode cX9_decode 161 = .ok (.goto 382, 3) := by decide +kernel
theorem dX9_decode_164 : decode cX9_decode 164 = .ok (.aload_n 0, 1) := by decide +kernel
theorem dX9_decode_165 : decode cX9_decode 165 = .ok (.aload_n 0, 1) := by decide +kernel
theorem dX9_decode_166 : decode cX9_decode 166 = .ok (.getfield 28, 3) := by decide +kernel
theorem dX9_decode_169 : decode cX9_decode 169 = .ok (.iload_n 1, 1) := by decide +kernel
theorem dX9_decode_170 : decode cX9_decode 170 = .ok (.sipush (-4096), 3) := by decide +kernel
theorem dX9_decode_173 : decode cX9_decode 173 = .ok (.iand, 1) := by decide +kernel
theorem dX9_decode_174 : decode cX9_decode 174 = .ok (.iadd, 1) := by decide +kernel
theorem dX9_decode_175 : decode cX9_decode 175 = .ok (.invokevirtual 88, 3) := by decide +kernel
theorem dX9_decode_178 : decode cX9_decode 178 = .ok (.goto 365, 3) := by decide +kernel
theorem dX9_decode_181 : decode cX9_decode 181 = .ok (.aload_n 0, 1) := by decide +kernel
theorem dX9_decode_182 : decode cX9_decode 182 = .ok (.aload_n 0, 1) := by decide +kernel
theorem dX9_decode_183 : decode cX9_decode 183 = .ok (.getfield 28, 3) := by decide +kernel
theorem dX9_decode_186 : decode cX9_decode 186 = .ok (.iconst 4, 1) := by decide +kernel
theorem dX9_decode_187 : decode cX9_decode 187 = .ok (.iadd, 1) := by decide +kernel
theorem dX9_decode_188 : decode cX9_decode 188 = .ok (.invokevirtual 88, 3) := by decide +kernel
theorem dX9_decode_191 : decode cX9_decode 191 = .ok (.aload_n 0, 1) := by decide +kernel
theorem dX9_decode_192 : decode cX9_decode 192 = .ok (.aload_n 0, 1) := by decide +kernel
theorem dX9_decode_193 : decode cX9_decode 193 = .ok (.getfield 28, 3) := by decide +kernel
theorem dX9_decode_196 : decode cX9_decode 196 = .ok (.iload_n 1, 1) := by decide +kernel
theorem dX9_decode_197 : decode cX9_decode 197 = .ok (.bipush 31, 2) := by decide +kernel
theorem dX9_decode_199 : decode cX9_decode 199 = .ok (.ishr, 1) := by decide +kernel
theorem dX9_decode_200 : decode cX9_decode 200 = .ok (.ldc 91, 2) := by decide +kernel
theorem dX9_decode_202 : decode cX9_decode 202 = .ok (.imul, 1) := by decide +kernel
theorem dX9_decode_203 : decode cX9_decode 203 = .ok (.iload_n 1, 1) := by decide +kernel
theorem dX9_decode_204 : decode cX9_decode 204 = .ok (.bipush 12, 2) := by decide +kernel
theorem dX9_decode_206 : decode cX9_decode 206 = .ok (.bipush 8, 2) := by decide +kernel
theorem dX9_decode_208 : decode cX9_decode 208 = .ok (.invokestatic 84, 3) := by decide +kernel
theorem dX9_decode_211 : decode cX9_decode 211 = .ok (.sipush 4096, 3) := by decide +kernel
theorem dX9_decode_214 : decode cX9_decode 214 = .ok (.imul, 1) := by decide +kernel
theorem dX9_decode_215 : decode cX9_decode 215 = .ok (.iadd, 1) := by decide +kernel
theorem dX9_decode_216 : decode cX9_decode 216 = .ok (.iload_n 1, 1) := by decide +kernel
theorem dX9_decode_217 : decode cX9_decode 217 = .ok (.bipush 20, 2) := by decide +kernel
theorem dX9_decode_219 : decode cX9_decode 219 = .ok (.iconst 1, 1) := by decide +kernel
theorem dX9_decode_220 : decode cX9_decode 220 = .ok (.invokestatic 84, 3) := by decide +kernel
theorem dX9_decode_223 : decode cX9_decode 223 = .ok (.sipush 2048, 3) := by decide +kernel
theorem dX9_decode_226 : decode cX9_decode 226 = .ok (.imul, 1) := by decide +kernel
theorem dX9_decode_227 : decode cX9_decode 227 = .ok (.iadd, 1) := by decide +kernel
theorem dX9_decode_228 : decode cX9_decode 228 = .ok (.iload_n 1, 1) := by decide +kernel
theorem dX9_decode_229 : decode cX9_decode 229 = .ok (.bipush 21, 2) := by decide +kernel
theorem dX9_decode_231 : decode cX9_decode 231 = .ok (.bipush 10, 2) := by decide +kernel
theorem dX9_decode_233 : decode cX9_decode 233 = .ok (.invokestatic 84, 3) := by decide +kernel
theorem dX9_decode_236 : decode cX9_decode 236 = .ok (.iconst 2, 1) := by decide +kernel
theorem dX9_decode_237 : decode cX9_decode 237 = .ok (.imul, 1) := by decide +kernel
theorem dX9_decode_238 : decode cX9_decode 238 = .ok (.iadd, 1) := by decide +kernel
theorem dX9_decode_239 : decode cX9_decode 239 = .ok (.iadd, 1) := by decide +kernel
theorem dX9_decode_240 : decode cX9_decode 240 = .ok (.invokevirtual 92, 3) := by decide +kernel
theorem dX9_decode_243 : decode cX9_decode 243 = .ok (.goto 300, 3) := by decide +kernel
theorem dX9_decode_246 : decode cX9_decode 246 = .ok (.iload 4, 2) := by decide +kernel
theorem dX9_decode_248 : decode cX9_decode 248 = .ok (.ifCond .le 9, 3) := by decide +kernel
theorem dX9_decode_251 : decode cX9_decode 251 = .ok (.aload_n 0, 1) := by decide +kernel
theorem dX9_decode_252 : decode cX9_decode 252 = .ok (.bipush 11, 2) := by decide +kernel
theorem dX9_decode_254 : decode cX9_decode 254 = .ok (.putfield 68, 3) := by decide +kernel
theorem dX9_decode_257 : decode cX9_decode 257 = .ok (.aload_n 0, 1) := by decide +kernel
theorem dX9_decode_258 : decode cX9_decode 258 = .ok (.aload_n 0, 1) := by decide +kernel
theorem dX9_decode_259 : decode cX9_decode 259 = .ok (.getfield 28, 3) := by decide +kernel
theorem dX9_decode_262 : decode cX9_decode 262 = .ok (.iconst 4, 1) := by decide +kernel
theorem dX9_decode_263 : decode cX9_decode 263 = .ok (.iadd, 1) := by decide +kernel
theorem dX9_decode_264 : decode cX9_decode 264 = .ok (.invokevirtual 88, 3) := by decide +kernel
theorem dX9_decode_267 : decode cX9_decode 267 = .ok (.aload_n 0, 1) := by decide +kernel
theorem dX9_decode_268 : decode cX9_decode 268 = .ok (.iload_n 2, 1) := by decide +kernel
theorem dX9_decode_269 : decode cX9_decode 269 = .ok (.iload 6, 2) := by decide +kernel
theorem dX9_decode_271 : decode cX9_decode 271 = .ok (.iadd, 1) := by decide +kernel
theorem dX9_decode_272 : decode cX9_decode 272 = .ok (.bipush (-2), 2) := by decide +kernel
theorem dX9_decode_274 : decode cX9_decode 274 = .ok (.iand, 1) := by decide +kernel
theorem dX9_decode_275 : decode cX9_decode 275 = .ok (.invokevirtual 92, 3) := by decide +kernel
theorem dX9_decode_278 : decode cX9_decode 278 = .ok (.goto 265, 3) := by decide +kernel
theorem dX9_decode_281 : decode cX9_decode 281 = .ok (.aload_n 0, 1) := by decide +kernel
theorem dX9_decode_282 : decode cX9_decode 282 = .ok (.iload_n 1, 1) := by decide +kernel
theorem dX9_decode_283 : decode cX9_decode 283 = .ok (.iload_n 2, 1) := by decide +kernel
theorem dX9_decode_284 : decode cX9_decode 284 = .ok (.iload_n 3, 1) := by decide +kernel
theorem dX9_decode_285 : decode cX9_decode 285 = .ok (.iload 4, 2) := by decide +kernel
theorem dX9_decode_287 : decode cX9_decode 287 = .ok (.invokevirtual 95, 3) := by decide +kernel
theorem dX9_decode_290 : decode cX9_decode 290 = .ok (.goto 253, 3) := by decide +kernel
theorem dX9_decode_293 : decode cX9_decode 293 = .ok (.aload_n 0, 1) := by decide +kernel
theorem dX9_decode_294 : decode cX9_decode 294 = .ok (.iload_n 2, 1) := by decide +kernel
theorem dX9_decode_295 : decode cX9_decode 295 = .ok (.iload 6, 2) := by decide +kernel
theorem dX9_decode_297 : decode cX9_decode 297 = .ok (.iadd, 1) := by decide +kernel
theorem dX9_decode_298 : decode cX9_decode 298 = .ok (.iload 4, 2) := by decide +kernel
theorem dX9_decode_300 : decode cX9_decode 300 = .ok (.invokevirtual 99, 3) := by decide +kernel
theorem dX9_decode_303 : decode cX9_decode 303 = .ok (.goto 240, 3) := by decide +kernel
theorem dX9_decode_306 : decode cX9_decode 306 = .ok (.aload_n 0, 1) := by decide +kernel
theorem dX9_decode_307 : decode cX9_decode 307 = .ok (.iload_n 2, 1) := by decide +kernel
theorem dX9_decode_308 : decode cX9_decode 308 = .ok (.iload_n 1, 1) := by decide +kernel
theorem dX9_decode_309 : decode cX9_decode 309 = .ok (.bipush 25, 2) := by decide +kernel
theorem dX9_decode_311 : decode cX9_decode 311 = .ok (.ishr, 1) := by decide +kernel
theorem dX9_decode_312 : decode cX9_decode 312 = .ok (.bipush 32, 2) := by decide +kernel
theorem dX9_decode_314 : decode cX9_decode 314 = .ok (.imul, 1) := by decide +kernel
theorem dX9_decode_315 : decode cX9_decode 315 = .ok (.iload_n 1, 1) := by decide +kernel
theorem dX9_decode_316 : decode cX9_decode 316 = .ok (.bipush 7, 2) := by decide +kernel
theorem dX9_decode_318 : decode cX9_decode 318 = .ok (.iconst 5, 1) := by decide +kernel
theorem dX9_decode_319 : decode cX9_decode 319 = .ok (.invokestatic 84, 3) := by decide +kernel
theorem dX9_decode_322 : decode cX9_decode 322 = .ok (.iadd, 1) := by decide +kernel
theorem dX9_decode_323 : decode cX9_decode 323 = .ok (.iadd, 1) := by decide +kernel
theorem dX9_decode_324 : decode cX9_decode 324 = .ok (.iload_n 3, 1) := by decide +kernel
theorem dX9_decode_325 : decode cX9_decode 325 = .ok (.iload 4, 2) := by decide +kernel
theorem dX9_decode_327 : decode cX9_decode 327 = .ok (.invokevirtual 103, 3) := by decide +kernel
theorem dX9_decode_330 : decode cX9_decode 330 = .ok (.goto 213, 3) := by decide +kernel
theorem dX9_decode_333 : decode cX9_decode 333 = .ok (.iload 4, 2) := by decide +kernel
theorem dX9_decode_335 : decode cX9_decode 335 = .ok (.iconst 1, 1) := by decide +kernel
theorem dX9_decode_336 : decode cX9_decode 336 = .ok (.if_icmp .ne 8, 3) := by decide +kernel
theorem dX9_decode_339 : decode cX9_decode 339 = .ok (.iload 5, 2) := by decide +kernel
theorem dX9_decode_341 : decode cX9_decode 341 = .ok (.ifCond .gt 21, 3) := by decide +kernel
theorem dX9_decode_344 : decode cX9_decode 344 = .ok (.iload 4, 2) := by decide +kernel
theorem dX9_decode_346 : decode cX9_decode 346 = .ok (.iconst 5, 1) := by decide +kernel
theorem dX9_decode_347 : decode cX9_decode 347 = .ok (.if_icmp .ne 21, 3) := by decide +kernel
theorem dX9_decode_350 : decode cX9_decode 350 = .ok (.iload 5, 2) := by decide +kernel
theorem dX9_decode_352 : decode cX9_decode 352 = .ok (.ifCond .eq 16, 3) := by decide +kernel
theorem dX9_decode_355 : decode cX9_decode 355 = .ok (.iload 5, 2) := by decide +kernel
theorem dX9_decode_357 : decode cX9_decode 357 = .ok (.bipush 32, 2) := by decide +kernel
theorem dX9_decode_359 : decode cX9_decode 359 = .ok (.if_icmp .eq 9, 3) := by decide +kernel
theorem dX9_decode_362 : decode cX9_decode 362 = .ok (.aload_n 0, 1) := by decide +kernel
theorem dX9_decode_363 : decode cX9_decode 363 = .ok (.bipush 11, 2) := by decide +kernel
theorem dX9_decode_365 : decode cX9_decode 365 = .ok (.putfield 68, 3) := by decide +kernel
theorem dX9_decode_368 : decode cX9_decode 368 = .ok (.aload_n 0, 1) := by decide +kernel
theorem dX9_decode_369 : decode cX9_decode 369 = .ok (.iload 4, 2) := by decide +kernel
theorem dX9_decode_371 : decode cX9_decode 371 = .ok (.iconst 1, 1) := by decide +kernel
theorem dX9_decode_372 : decode cX9_decode 372 = .ok (.if_icmp .eq 9, 3) := by decide +kernel
theorem dX9_decode_375 : decode cX9_decode 375 = .ok (.iload 4, 2) := by decide +kernel
theorem dX9_decode_377 : decode cX9_decode 377 = .ok (.iconst 5, 1) := by decide +kernel
theorem dX9_decode_378 : decode cX9_decode 378 = .ok (.if_icmp .ne 21, 3) := by decide +kernel
theorem dX9_decode_381 : decode cX9_decode 381 = .ok (.iload_n 2, 1) := by decide +kernel
theorem dX9_decode_382 : decode cX9_decode 382 = .ok (.iload_n 1, 1) := by decide +kernel
theorem dX9_decode_383 : decode cX9_decode 383 = .ok (.bipush 20, 2) := by decide +kernel
theorem dX9_decode_385 : decode cX9_decode 385 = .ok (.iconst 5, 1) := by decide +kernel
theorem dX9_decode_386 : decode cX9_decode 386 = .ok (.invokestatic 84, 3) := by decide +kernel
theorem dX9_decode_389 : decode cX9_decode 389 = .ok (.iload 4, 2) := by decide +kernel
theorem dX9_decode_391 : decode cX9_decode 391 = .ok (.iload 5, 2) := by decide +kernel
theorem dX9_decode_393 : decode cX9_decode 393 = .ok (.invokestatic 107, 3) := by decide +kernel
theorem dX9_decode_396 : decode cX9_decode 396 = .ok (.goto 11, 3) := by decide +kernel
theorem dX9_decode_399 : decode cX9_decode 399 = .ok (.iload_n 2, 1) := by decide +kernel
theorem dX9_decode_400 : decode cX9_decode 400 = .ok (.iload 6, 2) := by decide +kernel
theorem dX9_decode_402 : decode cX9_decode 402 = .ok (.iload 4, 2) := by decide +kernel
theorem dX9_decode_404 : decode cX9_decode 404 = .ok (.invokestatic 111, 3) := by decide +kernel
theorem dX9_decode_407 : decode cX9_decode 407 = .ok (.invokevirtual 88, 3) := by decide +kernel
theorem dX9_decode_410 : decode cX9_decode 410 = .ok (.goto 133, 3) := by decide +kernel
theorem dX9_decode_413 : decode cX9_decode 413 = .ok (.iload 5, 2) := by decide +kernel
theorem dX9_decode_415 : decode cX9_decode 415 = .ok (.ifCond .eq 27, 3) := by decide +kernel
theorem dX9_decode_418 : decode cX9_decode 418 = .ok (.iload 5, 2) := by decide +kernel
theorem dX9_decode_420 : decode cX9_decode 420 = .ok (.bipush 32, 2) := by decide +kernel
theorem dX9_decode_422 : decode cX9_decode 422 = .ok (.if_icmp .ne 14, 3) := by decide +kernel
theorem dX9_decode_425 : decode cX9_decode 425 = .ok (.iload 4, 2) := by decide +kernel
theorem dX9_decode_427 : decode cX9_decode 427 = .ok (.ifCond .eq 15, 3) := by decide +kernel
theorem dX9_decode_430 : decode cX9_decode 430 = .ok (.iload 4, 2) := by decide +kernel
theorem dX9_decode_432 : decode cX9_decode 432 = .ok (.iconst 5, 1) := by decide +kernel
theorem dX9_decode_433 : decode cX9_decode 433 = .ok (.if_icmp .eq 9, 3) := by decide +kernel
theorem dX9_decode_436 : decode cX9_decode 436 = .ok (.aload_n 0, 1) := by decide +kernel
theorem dX9_decode_437 : decode cX9_decode 437 = .ok (.bipush 11, 2) := by decide +kernel
theorem dX9_decode_439 : decode cX9_decode 439 = .ok (.putfield 68, 3) := by decide +kernel
theorem dX9_decode_442 : decode cX9_decode 442 = .ok (.aload_n 0, 1) := by decide +kernel
theorem dX9_decode_443 : decode cX9_decode 443 = .ok (.iload 4, 2) := by decide +kernel
theorem dX9_decode_445 : decode cX9_decode 445 = .ok (.iconst 1, 1) := by decide +kernel
theorem dX9_decode_446 : decode cX9_decode 446 = .ok (.if_icmp .eq 9, 3) := by decide +kernel
theorem dX9_decode_449 : decode cX9_decode 449 = .ok (.iload 4, 2) := by decide +kernel
theorem dX9_decode_451 : decode cX9_decode 451 = .ok (.iconst 5, 1) := by decide +kernel
theorem dX9_decode_452 : decode cX9_decode 452 = .ok (.if_icmp .ne 18, 3) := by decide +kernel
theorem dX9_decode_455 : decode cX9_decode 455 = .ok (.iload_n 2, 1) := by decide +kernel
theorem dX9_decode_456 : decode cX9_decode 456 = .ok (.iload_n 3, 1) := by decide +kernel
theorem dX9_decode_457 : decode cX9_decode 457 = .ok (.bipush 31, 2) := by decide +kernel
theorem dX9_decode_459 : decode cX9_decode 459 = .ok (.iand, 1) := by decide +kernel
theorem dX9_decode_460 : decode cX9_decode 460 = .ok (.iload 4, 2) := by decide +kernel
theorem dX9_decode_462 : decode cX9_decode 462 = .ok (.iload 5, 2) := by decide +kernel
theorem dX9_decode_464 : decode cX9_decode 464 = .ok (.invokestatic 107, 3) := by decide +kernel
theorem dX9_decode_467 : decode cX9_decode 467 = .ok (.goto 28, 3) := by decide +kernel
theorem dX9_decode_470 : decode cX9_decode 470 = .ok (.iload 4, 2) := by decide +kernel
theorem dX9_decode_472 : decode cX9_decode 472 = .ok (.ifCond .ne 16, 3) := by decide +kernel
theorem dX9_decode_475 : decode cX9_decode 475 = .ok (.iload 5, 2) := by decide +kernel
theorem dX9_decode_477 : decode cX9_decode 477 = .ok (.bipush 32, 2) := by decide +kernel
theorem dX9_decode_479 : decode cX9_decode 479 = .ok (.if_icmp .ne 9, 3) := by decide +kernel
theorem dX9_decode_482 : decode cX9_decode 482 = .ok (.iload_n 2, 1) := by decide +kernel
theorem dX9_decode_483 : decode cX9_decode 483 = .ok (.iload_n 3, 1) := by decide +kernel
theorem dX9_decode_484 : decode cX9_decode 484 = .ok (.isub, 1) := by decide +kernel
theorem dX9_decode_485 : decode cX9_decode 485 = .ok (.goto 10, 3) := by decide +kernel
theorem dX9_decode_488 : decode cX9_decode 488 = .ok (.iload_n 2, 1) := by decide +kernel
theorem dX9_decode_489 : decode cX9_decode 489 = .ok (.iload_n 3, 1) := by decide +kernel
theorem dX9_decode_490 : decode cX9_decode 490 = .ok (.iload 4, 2) := by decide +kernel
theorem dX9_decode_492 : decode cX9_decode 492 = .ok (.invokestatic 111, 3) := by decide +kernel
theorem dX9_decode_495 : decode cX9_decode 495 = .ok (.invokevirtual 88, 3) := by decide +kernel
theorem dX9_decode_498 : decode cX9_decode 498 = .ok (.goto 45, 3) := by decide +kernel
theorem dX9_decode_501 : decode cX9_decode 501 = .ok (.iload 4, 2) := by decide +kernel
theorem dX9_decode_503 : decode cX9_decode 503 = .ok (.ifCond .le 40, 3) := by decide +kernel
theorem dX9_decode_506 : decode cX9_decode 506 = .ok (.aload_n 0, 1) := by decide +kernel
theorem dX9_decode_507 : decode cX9_decode 507 = .ok (.bipush 11, 2) := by decide +kernel
theorem dX9_decode_509 : decode cX9_decode 509 = .ok (.putfield 68, 3) := by decide +kernel
theorem dX9_decode_512 : decode cX9_decode 512 = .ok (.goto 31, 3) := by decide +kernel
theorem dX9_decode_515 : decode cX9_decode 515 = .ok (.iload_n 1, 1) := by decide +kernel
theorem dX9_decode_516 : decode cX9_decode 516 = .ok (.bipush 115, 2) := by decide +kernel
theorem dX9_decode_518 : decode cX9_decode 518 = .ok (.if_icmp .ne 10, 3) := by decide +kernel
theorem dX9_decode_521 : decode cX9_decode 521 = .ok (.aload_n 0, 1) := by decide +kernel
theorem dX9_decode_522 : decode cX9_decode 522 = .ok (.invokevirtual 114, 3) := by decide +kernel
theorem dX9_decode_525 : decode cX9_decode 525 = .ok (.goto 18, 3) := by decide +kernel
theorem dX9_decode_528 : decode cX9_decode 528 = .ok (.aload_n 0, 1) := by decide +kernel
theorem dX9_decode_529 : decode cX9_decode 529 = .ok (.bipush 11, 2) := by decide +kernel
theorem dX9_decode_531 : decode cX9_decode 531 = .ok (.putfield 68, 3) := by decide +kernel
theorem dX9_decode_534 : decode cX9_decode 534 = .ok (.goto 9, 3) := by decide +kernel
theorem dX9_decode_537 : decode cX9_decode 537 = .ok (.aload_n 0, 1) := by decide +kernel
theorem dX9_decode_538 : decode cX9_decode 538 = .ok (.bipush 11, 2) := by decide +kernel
theorem dX9_decode_540 : decode cX9_decode 540 = .ok (.putfield 68, 3) := by decide +kernel
theorem dX9_decode_543 : decode cX9_decode 543 = .ok (.return_, 1) := by decide +kernel
theorem dX9_gives_0 : decode cX9_gives 0 = .ok (.aload_n 0, 1) := by decide +kernel
theorem dX9_gives_1 : decode cX9_gives 1 = .ok (.iconst 1, 1) := by decide +kernel
theorem dX9_gives_2 : decode cX9_gives 2 = .ok (.putfield 61, 3) := by decide +kernel
theorem dX9_gives_5 : decode cX9_gives 5 = .ok (.aload_n 0, 1) := by decide +kernel
theorem dX9_gives_6 : decode cX9_gives 6 = .ok (.iload_n 1, 1) := by decide +kernel
theorem dX9_gives_7 : decode cX9_gives 7 = .ok (.putfield 117, 3) := by decide +kernel
theorem dX9_gives_10 : decode cX9_gives 10 = .ok (.return_, 1) := by decide +kernel
theorem dX9_goes_0 : decode cX9_goes 0 = .ok (.aload_n 0, 1) := by decide +kernel
theorem dX9_goes_1 : decode cX9_goes 1 = .ok (.iload_n 1, 1) := by decide +kernel
theorem dX9_goes_2 : decode cX9_goes 2 = .ok (.putfield 77, 3) := by decide +kernel
theorem dX9_goes_5 : decode cX9_goes 5 = .ok (.aload_n 0, 1) := by decide +kernel
theorem dX9_goes_6 : decode cX9_goes 6 = .ok (.getfield 68, 3) := by decide +kernel
theorem dX9_goes_9 : decode cX9_goes 9 = .ok (.ifCond .ne 15, 3) := by decide +kernel
theorem dX9_goes_12 : decode cX9_goes 12 = .ok (.iload_n 1, 1) := by decide +kernel
theorem dX9_goes_13 : decode cX9_goes 13 = .ok (.iconst 3, 1) := by decide +kernel
theorem dX9_goes_14 : decode cX9_goes 14 = .ok (.iand, 1) := by decide +kernel
theorem dX9_goes_15 : decode cX9_goes 15 = .ok (.ifCond .eq 9, 3) := by decide +kernel
theorem dX9_goes_18 : decode cX9_goes 18 = .ok (.aload_n 0, 1) := by decide +kernel
theorem dX9_goes_19 : decode cX9_goes 19 = .ok (.bipush 12, 2) := by decide +kernel
theorem dX9_goes_21 : decode cX9_goes 21 = .ok (.putfield 68, 3) := by decide +kernel
theorem dX9_goes_24 : decode cX9_goes 24 = .ok (.return_, 1) := by decide +kernel
theorem dX9_isBelow_0 : decode cX9_isBelow 0 = .ok (.iload_n 0, 1) := by decide +kernel
theorem dX9_isBelow_1 : decode cX9_isBelow 1 = .ok (.i2l, 1) := by decide +kernel
theorem dX9_isBelow_2 : decode cX9_isBelow 2 = .ok (.ldc2_w 40, 3) := by decide +kernel
theorem dX9_isBelow_5 : decode cX9_isBelow 5 = .ok (.land, 1) := by decide +kernel
theorem dX9_isBelow_6 : decode cX9_isBelow 6 = .ok (.iload_n 1, 1) := by decide +kernel
theorem dX9_isBelow_7 : decode cX9_isBelow 7 = .ok (.i2l, 1) := by decide +kernel
theorem dX9_isBelow_8 : decode cX9_isBelow 8 = .ok (.ldc2_w 40, 3) := by decide +kernel
theorem dX9_isBelow_11 : decode cX9_isBelow 11 = .ok (.land, 1) := by decide +kernel
theorem dX9_isBelow_12 : decode cX9_isBelow 12 = .ok (.lcmp, 1) := by decide +kernel
theorem dX9_isBelow_13 : decode cX9_isBelow 13 = .ok (.ifCond .ge 7, 3) := by decide +kernel
theorem dX9_isBelow_16 : decode cX9_isBelow 16 = .ok (.iconst 1, 1) := by decide +kernel
theorem dX9_isBelow_17 : decode cX9_isBelow 17 = .ok (.goto 4, 3) := by decide +kernel
theorem dX9_isBelow_20 : decode cX9_isBelow 20 = .ok (.iconst 0, 1) := by decide +kernel
theorem dX9_isBelow_21 : decode cX9_isBelow 21 = .ok (.ireturn, 1) := by decide +kernel
theorem dX9_shifted_0 : decode cX9_shifted 0 = .ok (.iload_n 2, 1) := by decide +kernel
theorem dX9_shifted_1 : decode cX9_shifted 1 = .ok (.iconst 1, 1) := by decide +kernel
theorem dX9_shifted_2 : decode cX9_shifted 2 = .ok (.if_icmp .ne 9, 3) := by decide +kernel
theorem dX9_shifted_5 : decode cX9_shifted 5 = .ok (.iload_n 0, 1) := by decide +kernel
theorem dX9_shifted_6 : decode cX9_shifted 6 = .ok (.iload_n 1, 1) := by decide +kernel
theorem dX9_shifted_7 : decode cX9_shifted 7 = .ok (.ishl, 1) := by decide +kernel
theorem dX9_shifted_8 : decode cX9_shifted 8 = .ok (.goto 16, 3) := by decide +kernel
theorem dX9_shifted_11 : decode cX9_shifted 11 = .ok (.iload_n 3, 1) := by decide +kernel
theorem dX9_shifted_12 : decode cX9_shifted 12 = .ok (.ifCond .ne 9, 3) := by decide +kernel
theorem dX9_shifted_15 : decode cX9_shifted 15 = .ok (.iload_n 0, 1) := by decide +kernel
theorem dX9_shifted_16 : decode cX9_shifted 16 = .ok (.iload_n 1, 1) := by decide +kernel
theorem dX9_shifted_17 : decode cX9_shifted 17 = .ok (.iushr, 1) := by decide +kernel
theorem dX9_shifted_18 : decode cX9_shifted 18 = .ok (.goto 6, 3) := by decide +kernel
theorem dX9_shifted_21 : decode cX9_shifted 21 = .ok (.iload_n 0, 1) := by decide +kernel
theorem dX9_shifted_22 : decode cX9_shifted 22 = .ok (.iload_n 1, 1) := by decide +kernel
theorem dX9_shifted_23 : decode cX9_shifted 23 = .ok (.ishr, 1) := by decide +kernel
theorem dX9_shifted_24 : decode cX9_shifted 24 = .ok (.ireturn, 1) := by decide +kernel
theorem dX9_worked_0 : decode cX9_worked 0 = .ok (.iload_n 2, 1) := by decide +kernel
theorem dX9_worked_1 : decode cX9_worked 1 = .ok (.tableswitch 80 0 6 #[43, 80, 47, 58, 72, 80, 76], 43) := by decide +kernel
theorem dX9_worked_44 : decode cX9_worked 44 = .ok (.iload_n 0, 1) := by decide +kernel
theorem dX9_worked_45 : decode cX9_worked 45 = .ok (.iload_n 1, 1) := by decide +kernel
theorem dX9_worked_46 : decode cX9_worked 46 = .ok (.iadd, 1) := by decide +kernel
theorem dX9_worked_47 : decode cX9_worked 47 = .ok (.ireturn, 1) := by decide +kernel
theorem dX9_worked_48 : decode cX9_worked 48 = .ok (.iload_n 0, 1) := by decide +kernel
theorem dX9_worked_49 : decode cX9_worked 49 = .ok (.iload_n 1, 1) := by decide +kernel
theorem dX9_worked_50 : decode cX9_worked 50 = .ok (.if_icmp .ge 7, 3) := by decide +kernel
theorem dX9_worked_53 : decode cX9_worked 53 = .ok (.iconst 1, 1) := by decide +kernel
theorem dX9_worked_54 : decode cX9_worked 54 = .ok (.goto 4, 3) := by decide +kernel
theorem dX9_worked_57 : decode cX9_worked 57 = .ok (.iconst 0, 1) := by decide +kernel
theorem dX9_worked_58 : decode cX9_worked 58 = .ok (.ireturn, 1) := by decide +kernel
theorem dX9_worked_59 : decode cX9_worked 59 = .ok (.iload_n 0, 1) := by decide +kernel
theorem dX9_worked_60 : decode cX9_worked 60 = .ok (.iload_n 1, 1) := by decide +kernel
theorem dX9_worked_61 : decode cX9_worked 61 = .ok (.invokestatic 120, 3) := by decide +kernel
theorem dX9_worked_64 : decode cX9_worked 64 = .ok (.ifCond .eq 7, 3) := by decide +kernel
theorem dX9_worked_67 : decode cX9_worked 67 = .ok (.iconst 1, 1) := by decide +kernel
theorem dX9_worked_68 : decode cX9_worked 68 = .ok (.goto 4, 3) := by decide +kernel
theorem dX9_worked_71 : decode cX9_worked 71 = .ok (.iconst 0, 1) := by decide +kernel
theorem dX9_worked_72 : decode cX9_worked 72 = .ok (.ireturn, 1) := by decide +kernel
theorem dX9_worked_73 : decode cX9_worked 73 = .ok (.iload_n 0, 1) := by decide +kernel
theorem dX9_worked_74 : decode cX9_worked 74 = .ok (.iload_n 1, 1) := by decide +kernel
theorem dX9_worked_75 : decode cX9_worked 75 = .ok (.ixor, 1) := by decide +kernel
theorem dX9_worked_76 : decode cX9_worked 76 = .ok (.ireturn, 1) := by decide +kernel
theorem dX9_worked_77 : decode cX9_worked 77 = .ok (.iload_n 0, 1) := by decide +kernel
theorem dX9_worked_78 : decode cX9_worked 78 = .ok (.iload_n 1, 1) := by decide +kernel
theorem dX9_worked_79 : decode cX9_worked 79 = .ok (.ior, 1) := by decide +kernel
theorem dX9_worked_80 : decode cX9_worked 80 = .ok (.ireturn, 1) := by decide +kernel
theorem dX9_worked_81 : decode cX9_worked 81 = .ok (.iload_n 0, 1) := by decide +kernel
theorem dX9_worked_82 : decode cX9_worked 82 = .ok (.iload_n 1, 1) := by decide +kernel
theorem dX9_worked_83 : decode cX9_worked 83 = .ok (.iand, 1) := by decide +kernel
theorem dX9_worked_84 : decode cX9_worked 84 = .ok (.ireturn, 1) := by decide +kernel
theorem dX9_branch_0 : decode cX9_branch 0 = .ok (.iload 4, 2) := by decide +kernel
theorem dX9_branch_2 : decode cX9_branch 2 = .ok (.iconst 2, 1) := by decide +kernel
theorem dX9_branch_3 : decode cX9_branch 3 = .ok (.if_icmp .eq 9, 3) := by decide +kernel
theorem dX9_branch_6 : decode cX9_branch 6 = .ok (.iload 4, 2) := by decide +kernel
theorem dX9_branch_8 : decode cX9_branch 8 = .ok (.iconst 3, 1) := by decide +kernel
theorem dX9_branch_9 : decode cX9_branch 9 = .ok (.if_icmp .ne 10, 3) := by decide +kernel
theorem dX9_branch_12 : decode cX9_branch 12 = .ok (.aload_n 0, 1) := by decide +kernel
theorem dX9_branch_13 : decode cX9_branch 13 = .ok (.bipush 11, 2) := by decide +kernel
theorem dX9_branch_15 : decode cX9_branch 15 = .ok (.putfield 68, 3) := by decide +kernel
theorem dX9_branch_18 : decode cX9_branch 18 = .ok (.return_, 1) := by decide +kernel
theorem dX9_branch_19 : decode cX9_branch 19 = .ok (.iload 4, 2) := by decide +kernel
theorem dX9_branch_21 : decode cX9_branch 21 = .ok (.iconst 2, 1) := by decide +kernel
theorem dX9_branch_22 : decode cX9_branch 22 = .ok (.if_icmp .ge 16, 3) := by decide +kernel
theorem dX9_branch_25 : decode cX9_branch 25 = .ok (.iload_n 2, 1) := by decide +kernel
theorem dX9_branch_26 : decode cX9_branch 26 = .ok (.iload_n 3, 1) := by decide +kernel
theorem dX9_branch_27 : decode cX9_branch 27 = .ok (.if_icmp .ne 7, 3) := by decide +kernel
theorem dX9_branch_30 : decode cX9_branch 30 = .ok (.iconst 1, 1) := by decide +kernel
theorem dX9_branch_31 : decode cX9_branch 31 = .ok (.goto 32, 3) := by decide +kernel
theorem dX9_branch_34 : decode cX9_branch 34 = .ok (.iconst 0, 1) := by decide +kernel
theorem dX9_branch_35 : decode cX9_branch 35 = .ok (.goto 28, 3) := by decide +kernel
theorem dX9_branch_38 : decode cX9_branch 38 = .ok (.iload 4, 2) := by decide +kernel
theorem dX9_branch_40 : decode cX9_branch 40 = .ok (.bipush 6, 2) := by decide +kernel
theorem dX9_branch_42 : decode cX9_branch 42 = .ok (.if_icmp .ge 16, 3) := by decide +kernel
theorem dX9_branch_45 : decode cX9_branch 45 = .ok (.iload_n 2, 1) := by decide +kernel
theorem dX9_branch_46 : decode cX9_branch 46 = .ok (.iload_n 3, 1) := by decide +kernel
theorem dX9_branch_47 : decode cX9_branch 47 = .ok (.if_icmp .ge 7, 3) := by decide +kernel
theorem dX9_branch_50 : decode cX9_branch 50 = .ok (.iconst 1, 1) := by decide +kernel
theorem dX9_branch_51 : decode cX9_branch 51 = .ok (.goto 12, 3) := by decide +kernel
theorem dX9_branch_54 : decode cX9_branch 54 = .ok (.iconst 0, 1) := by decide +kernel
theorem dX9_branch_55 : decode cX9_branch 55 = .ok (.goto 8, 3) := by decide +kernel
theorem dX9_branch_58 : decode cX9_branch 58 = .ok (.iload_n 2, 1) := by decide +kernel
theorem dX9_branch_59 : decode cX9_branch 59 = .ok (.iload_n 3, 1) := by decide +kernel
theorem dX9_branch_60 : decode cX9_branch 60 = .ok (.invokestatic 120, 3) := by decide +kernel
theorem dX9_branch_63 : decode cX9_branch 63 = .ok (.istore 5, 2) := by decide +kernel
theorem dX9_branch_65 : decode cX9_branch 65 = .ok (.iload 5, 2) := by decide +kernel
theorem dX9_branch_67 : decode cX9_branch 67 = .ok (.iload 4, 2) := by decide +kernel
theorem dX9_branch_69 : decode cX9_branch 69 = .ok (.iconst 2, 1) := by decide +kernel
theorem dX9_branch_70 : decode cX9_branch 70 = .ok (.irem, 1) := by decide +kernel
theorem dX9_branch_71 : decode cX9_branch 71 = .ok (.ifCond .ne 7, 3) := by decide +kernel
theorem dX9_branch_74 : decode cX9_branch 74 = .ok (.iconst 1, 1) := by decide +kernel
theorem dX9_branch_75 : decode cX9_branch 75 = .ok (.goto 4, 3) := by decide +kernel
theorem dX9_branch_78 : decode cX9_branch 78 = .ok (.iconst 0, 1) := by decide +kernel
theorem dX9_branch_79 : decode cX9_branch 79 = .ok (.if_icmp .ne 54, 3) := by decide +kernel
theorem dX9_branch_82 : decode cX9_branch 82 = .ok (.aload_n 0, 1) := by decide +kernel
theorem dX9_branch_83 : decode cX9_branch 83 = .ok (.aload_n 0, 1) := by decide +kernel
theorem dX9_branch_84 : decode cX9_branch 84 = .ok (.getfield 28, 3) := by decide +kernel
theorem dX9_branch_87 : decode cX9_branch 87 = .ok (.iload_n 1, 1) := by decide +kernel
theorem dX9_branch_88 : decode cX9_branch 88 = .ok (.bipush 31, 2) := by decide +kernel
theorem dX9_branch_90 : decode cX9_branch 90 = .ok (.ishr, 1) := by decide +kernel
theorem dX9_branch_91 : decode cX9_branch 91 = .ok (.sipush 4096, 3) := by decide +kernel
theorem dX9_branch_94 : decode cX9_branch 94 = .ok (.imul, 1) := by decide +kernel
theorem dX9_branch_95 : decode cX9_branch 95 = .ok (.iload_n 1, 1) := by decide +kernel
theorem dX9_branch_96 : decode cX9_branch 96 = .ok (.bipush 7, 2) := by decide +kernel
theorem dX9_branch_98 : decode cX9_branch 98 = .ok (.iconst 1, 1) := by decide +kernel
theorem dX9_branch_99 : decode cX9_branch 99 = .ok (.invokestatic 84, 3) := by decide +kernel
theorem dX9_branch_102 : decode cX9_branch 102 = .ok (.sipush 2048, 3) := by decide +kernel
theorem dX9_branch_105 : decode cX9_branch 105 = .ok (.imul, 1) := by decide +kernel
theorem dX9_branch_106 : decode cX9_branch 106 = .ok (.iadd, 1) := by decide +kernel
theorem dX9_branch_107 : decode cX9_branch 107 = .ok (.iload_n 1, 1) := by decide +kernel
theorem dX9_branch_108 : decode cX9_branch 108 = .ok (.bipush 25, 2) := by decide +kernel
theorem dX9_branch_110 : decode cX9_branch 110 = .ok (.bipush 6, 2) := by decide +kernel
theorem dX9_branch_112 : decode cX9_branch 112 = .ok (.invokestatic 84, 3) := by decide +kernel
theorem dX9_branch_115 : decode cX9_branch 115 = .ok (.bipush 32, 2) := by decide +kernel
theorem dX9_branch_117 : decode cX9_branch 117 = .ok (.imul, 1) := by decide +kernel
theorem dX9_branch_118 : decode cX9_branch 118 = .ok (.iadd, 1) := by decide +kernel
theorem dX9_branch_119 : decode cX9_branch 119 = .ok (.iload_n 1, 1) := by decide +kernel
theorem dX9_branch_120 : decode cX9_branch 120 = .ok (.bipush 8, 2) := by decide +kernel
theorem dX9_branch_122 : decode cX9_branch 122 = .ok (.iconst 4, 1) := by decide +kernel
theorem dX9_branch_123 : decode cX9_branch 123 = .ok (.invokestatic 84, 3) := by decide +kernel
theorem dX9_branch_126 : decode cX9_branch 126 = .ok (.iconst 2, 1) := by decide +kernel
theorem dX9_branch_127 : decode cX9_branch 127 = .ok (.imul, 1) := by decide +kernel
theorem dX9_branch_128 : decode cX9_branch 128 = .ok (.iadd, 1) := by decide +kernel
theorem dX9_branch_129 : decode cX9_branch 129 = .ok (.iadd, 1) := by decide +kernel
theorem dX9_branch_130 : decode cX9_branch 130 = .ok (.invokevirtual 92, 3) := by decide +kernel
theorem dX9_branch_133 : decode cX9_branch 133 = .ok (.return_, 1) := by decide +kernel
theorem dX9_reaches_0 : decode cX9_reaches 0 = .ok (.iload_n 1, 1) := by decide +kernel
theorem dX9_reaches_1 : decode cX9_reaches 1 = .ok (.iload_n 2, 1) := by decide +kernel
theorem dX9_reaches_2 : decode cX9_reaches 2 = .ok (.iconst 1, 1) := by decide +kernel
theorem dX9_reaches_3 : decode cX9_reaches 3 = .ok (.isub, 1) := by decide +kernel
theorem dX9_reaches_4 : decode cX9_reaches 4 = .ok (.iand, 1) := by decide +kernel
theorem dX9_reaches_5 : decode cX9_reaches 5 = .ok (.ifCond .eq 12, 3) := by decide +kernel
theorem dX9_reaches_8 : decode cX9_reaches 8 = .ok (.aload_n 0, 1) := by decide +kernel
theorem dX9_reaches_9 : decode cX9_reaches 9 = .ok (.bipush 12, 2) := by decide +kernel
theorem dX9_reaches_11 : decode cX9_reaches 11 = .ok (.putfield 68, 3) := by decide +kernel
theorem dX9_reaches_14 : decode cX9_reaches 14 = .ok (.goto 19, 3) := by decide +kernel
theorem dX9_reaches_17 : decode cX9_reaches 17 = .ok (.aload_n 0, 1) := by decide +kernel
theorem dX9_reaches_18 : decode cX9_reaches 18 = .ok (.iload_n 1, 1) := by decide +kernel
theorem dX9_reaches_19 : decode cX9_reaches 19 = .ok (.iload_n 2, 1) := by decide +kernel
theorem dX9_reaches_20 : decode cX9_reaches 20 = .ok (.i2l, 1) := by decide +kernel
theorem dX9_reaches_21 : decode cX9_reaches 21 = .ok (.invokevirtual 73, 3) := by decide +kernel
theorem dX9_reaches_24 : decode cX9_reaches 24 = .ok (.ifCond .ne 9, 3) := by decide +kernel
theorem dX9_reaches_27 : decode cX9_reaches 27 = .ok (.aload_n 0, 1) := by decide +kernel
theorem dX9_reaches_28 : decode cX9_reaches 28 = .ok (.bipush 13, 2) := by decide +kernel
theorem dX9_reaches_30 : decode cX9_reaches 30 = .ok (.putfield 68, 3) := by decide +kernel
theorem dX9_reaches_33 : decode cX9_reaches 33 = .ok (.aload_n 0, 1) := by decide +kernel
theorem dX9_reaches_34 : decode cX9_reaches 34 = .ok (.getfield 68, 3) := by decide +kernel
theorem dX9_reaches_37 : decode cX9_reaches 37 = .ok (.ifCond .ne 7, 3) := by decide +kernel
theorem dX9_reaches_40 : decode cX9_reaches 40 = .ok (.iconst 1, 1) := by decide +kernel
theorem dX9_reaches_41 : decode cX9_reaches 41 = .ok (.goto 4, 3) := by decide +kernel
theorem dX9_reaches_44 : decode cX9_reaches 44 = .ok (.iconst 0, 1) := by decide +kernel
theorem dX9_reaches_45 : decode cX9_reaches 45 = .ok (.ireturn, 1) := by decide +kernel
theorem dX9_loads_0 : decode cX9_loads 0 = .ok (.iload_n 2, 1) := by decide +kernel
theorem dX9_loads_1 : decode cX9_loads 1 = .ok (.iconst 3, 1) := by decide +kernel
theorem dX9_loads_2 : decode cX9_loads 2 = .ok (.if_icmp .eq 8, 3) := by decide +kernel
theorem dX9_loads_5 : decode cX9_loads 5 = .ok (.iload_n 2, 1) := by decide +kernel
theorem dX9_loads_6 : decode cX9_loads 6 = .ok (.iconst 5, 1) := by decide +kernel
theorem dX9_loads_7 : decode cX9_loads 7 = .ok (.if_icmp .le 10, 3) := by decide +kernel
theorem dX9_loads_10 : decode cX9_loads 10 = .ok (.aload_n 0, 1) := by decide +kernel
theorem dX9_loads_11 : decode cX9_loads 11 = .ok (.bipush 11, 2) := by decide +kernel
theorem dX9_loads_13 : decode cX9_loads 13 = .ok (.putfield 68, 3) := by decide +kernel
theorem dX9_loads_16 : decode cX9_loads 16 = .ok (.return_, 1) := by decide +kernel
theorem dX9_loads_17 : decode cX9_loads 17 = .ok (.aload_n 0, 1) := by decide +kernel
theorem dX9_loads_18 : decode cX9_loads 18 = .ok (.iload_n 1, 1) := by decide +kernel
theorem dX9_loads_19 : decode cX9_loads 19 = .ok (.iconst 1, 1) := by decide +kernel
theorem dX9_loads_20 : decode cX9_loads 20 = .ok (.iload_n 2, 1) := by decide +kernel
theorem dX9_loads_21 : decode cX9_loads 21 = .ok (.iconst 4, 1) := by decide +kernel
theorem dX9_loads_22 : decode cX9_loads 22 = .ok (.irem, 1) := by decide +kernel
theorem dX9_loads_23 : decode cX9_loads 23 = .ok (.ishl, 1) := by decide +kernel
theorem dX9_loads_24 : decode cX9_loads 24 = .ok (.invokevirtual 124, 3) := by decide +kernel
theorem dX9_loads_27 : decode cX9_loads 27 = .ok (.ifCond .ne 4, 3) := by decide +kernel
theorem dX9_loads_30 : decode cX9_loads 30 = .ok (.return_, 1) := by decide +kernel
theorem dX9_loads_31 : decode cX9_loads 31 = .ok (.aload_n 0, 1) := by decide +kernel
theorem dX9_loads_32 : decode cX9_loads 32 = .ok (.iload_n 1, 1) := by decide +kernel
theorem dX9_loads_33 : decode cX9_loads 33 = .ok (.invokevirtual 54, 3) := by decide +kernel
theorem dX9_loads_36 : decode cX9_loads 36 = .ok (.bipush 8, 2) := by decide +kernel
theorem dX9_loads_38 : decode cX9_loads 38 = .ok (.iload_n 1, 1) := by decide +kernel
theorem dX9_loads_39 : decode cX9_loads 39 = .ok (.iconst 3, 1) := by decide +kernel
theorem dX9_loads_40 : decode cX9_loads 40 = .ok (.iand, 1) := by decide +kernel
theorem dX9_loads_41 : decode cX9_loads 41 = .ok (.imul, 1) := by decide +kernel
theorem dX9_loads_42 : decode cX9_loads 42 = .ok (.iushr, 1) := by decide +kernel
theorem dX9_loads_43 : decode cX9_loads 43 = .ok (.istore_n 3, 1) := by decide +kernel
theorem dX9_loads_44 : decode cX9_loads 44 = .ok (.aload_n 0, 1) := by decide +kernel
theorem dX9_loads_45 : decode cX9_loads 45 = .ok (.iload_n 2, 1) := by decide +kernel
theorem dX9_loads_46 : decode cX9_loads 46 = .ok (.ifCond .ne 8, 3) := by decide +kernel
theorem dX9_loads_49 : decode cX9_loads 49 = .ok (.iload_n 3, 1) := by decide +kernel
theorem dX9_loads_50 : decode cX9_loads 50 = .ok (.i2b, 1) := by decide +kernel
theorem dX9_loads_51 : decode cX9_loads 51 = .ok (.goto 39, 3) := by decide +kernel
theorem dX9_loads_54 : decode cX9_loads 54 = .ok (.iload_n 2, 1) := by decide +kernel
theorem dX9_loads_55 : decode cX9_loads 55 = .ok (.iconst 1, 1) := by decide +kernel
theorem dX9_loads_56 : decode cX9_loads 56 = .ok (.if_icmp .ne 8, 3) := by decide +kernel
theorem dX9_loads_59 : decode cX9_loads 59 = .ok (.iload_n 3, 1) := by decide +kernel
theorem dX9_loads_60 : decode cX9_loads 60 = .ok (.i2s, 1) := by decide +kernel
theorem dX9_loads_61 : decode cX9_loads 61 = .ok (.goto 29, 3) := by decide +kernel
theorem dX9_loads_64 : decode cX9_loads 64 = .ok (.iload_n 2, 1) := by decide +kernel
theorem dX9_loads_65 : decode cX9_loads 65 = .ok (.iconst 2, 1) := by decide +kernel
theorem dX9_loads_66 : decode cX9_loads 66 = .ok (.if_icmp .ne 7, 3) := by decide +kernel
theorem dX9_loads_69 : decode cX9_loads 69 = .ok (.iload_n 3, 1) := by decide +kernel
theorem dX9_loads_70 : decode cX9_loads 70 = .ok (.goto 20, 3) := by decide +kernel
theorem dX9_loads_73 : decode cX9_loads 73 = .ok (.iload_n 2, 1) := by decide +kernel
theorem dX9_loads_74 : decode cX9_loads 74 = .ok (.iconst 4, 1) := by decide +kernel
theorem dX9_loads_75 : decode cX9_loads 75 = .ok (.if_icmp .ne 11, 3) := by decide +kernel
theorem dX9_loads_78 : decode cX9_loads 78 = .ok (.iload_n 3, 1) := by decide +kernel
theorem dX9_loads_79 : decode cX9_loads 79 = .ok (.sipush 255, 3) := by decide +kernel
theorem dX9_loads_82 : decode cX9_loads 82 = .ok (.iand, 1) := by decide +kernel
theorem dX9_loads_83 : decode cX9_loads 83 = .ok (.goto 7, 3) := by decide +kernel
theorem dX9_loads_86 : decode cX9_loads 86 = .ok (.iload_n 3, 1) := by decide +kernel
theorem dX9_loads_87 : decode cX9_loads 87 = .ok (.ldc 127, 2) := by decide +kernel
theorem dX9_loads_89 : decode cX9_loads 89 = .ok (.iand, 1) := by decide +kernel
theorem dX9_loads_90 : decode cX9_loads 90 = .ok (.invokevirtual 88, 3) := by decide +kernel
theorem dX9_loads_93 : decode cX9_loads 93 = .ok (.return_, 1) := by decide +kernel
theorem dX9_stores_0 : decode cX9_stores 0 = .ok (.iload_n 3, 1) := by decide +kernel
theorem dX9_stores_1 : decode cX9_stores 1 = .ok (.iconst 2, 1) := by decide +kernel
theorem dX9_stores_2 : decode cX9_stores 2 = .ok (.if_icmp .le 10, 3) := by decide +kernel
theorem dX9_stores_5 : decode cX9_stores 5 = .ok (.aload_n 0, 1) := by decide +kernel
theorem dX9_stores_6 : decode cX9_stores 6 = .ok (.bipush 11, 2) := by decide +kernel
theorem dX9_stores_8 : decode cX9_stores 8 = .ok (.putfield 68, 3) := by decide +kernel
theorem dX9_stores_11 : decode cX9_stores 11 = .ok (.return_, 1) := by decide +kernel
theorem dX9_stores_12 : decode cX9_stores 12 = .ok (.aload_n 0, 1) := by decide +kernel
theorem dX9_stores_13 : decode cX9_stores 13 = .ok (.iload_n 1, 1) := by decide +kernel
theorem dX9_stores_14 : decode cX9_stores 14 = .ok (.iconst 1, 1) := by decide +kernel
theorem dX9_stores_15 : decode cX9_stores 15 = .ok (.iload_n 3, 1) := by decide +kernel
theorem dX9_stores_16 : decode cX9_stores 16 = .ok (.ishl, 1) := by decide +kernel
theorem dX9_stores_17 : decode cX9_stores 17 = .ok (.invokevirtual 124, 3) := by decide +kernel
theorem dX9_stores_20 : decode cX9_stores 20 = .ok (.ifCond .ne 4, 3) := by decide +kernel
theorem dX9_stores_23 : decode cX9_stores 23 = .ok (.return_, 1) := by decide +kernel
theorem dX9_stores_24 : decode cX9_stores 24 = .ok (.iload_n 3, 1) := by decide +kernel
theorem dX9_stores_25 : decode cX9_stores 25 = .ok (.ifCond .ne 9, 3) := by decide +kernel
theorem dX9_stores_28 : decode cX9_stores 28 = .ok (.sipush 255, 3) := by decide +kernel
theorem dX9_stores_31 : decode cX9_stores 31 = .ok (.goto 14, 3) := by decide +kernel
theorem dX9_stores_34 : decode cX9_stores 34 = .ok (.iload_n 3, 1) := by decide +kernel
theorem dX9_stores_35 : decode cX9_stores 35 = .ok (.iconst 1, 1) := by decide +kernel
theorem dX9_stores_36 : decode cX9_stores 36 = .ok (.if_icmp .ne 8, 3) := by decide +kernel
theorem dX9_stores_39 : decode cX9_stores 39 = .ok (.ldc 127, 2) := by decide +kernel
theorem dX9_stores_41 : decode cX9_stores 41 = .ok (.goto 4, 3) := by decide +kernel
theorem dX9_stores_44 : decode cX9_stores 44 = .ok (.iconst (-1), 1) := by decide +kernel
theorem dX9_stores_45 : decode cX9_stores 45 = .ok (.istore 4, 2) := by decide +kernel
theorem dX9_stores_47 : decode cX9_stores 47 = .ok (.bipush 8, 2) := by decide +kernel
theorem dX9_stores_49 : decode cX9_stores 49 = .ok (.iload_n 1, 1) := by decide +kernel
theorem dX9_stores_50 : decode cX9_stores 50 = .ok (.iconst 3, 1) := by decide +kernel
theorem dX9_stores_51 : decode cX9_stores 51 = .ok (.iand, 1) := by decide +kernel
theorem dX9_stores_52 : decode cX9_stores 52 = .ok (.imul, 1) := by decide +kernel
theorem dX9_stores_53 : decode cX9_stores 53 = .ok (.istore 5, 2) := by decide +kernel
theorem dX9_stores_55 : decode cX9_stores 55 = .ok (.aload_n 0, 1) := by decide +kernel
theorem dX9_stores_56 : decode cX9_stores 56 = .ok (.aload_n 0, 1) := by decide +kernel
theorem dX9_stores_57 : decode cX9_stores 57 = .ok (.iload_n 1, 1) := by decide +kernel
theorem dX9_stores_58 : decode cX9_stores 58 = .ok (.invokevirtual 54, 3) := by decide +kernel
theorem dX9_stores_61 : decode cX9_stores 61 = .ok (.iload 4, 2) := by decide +kernel
theorem dX9_stores_63 : decode cX9_stores 63 = .ok (.iload 5, 2) := by decide +kernel
theorem dX9_stores_65 : decode cX9_stores 65 = .ok (.ishl, 1) := by decide +kernel
theorem dX9_stores_66 : decode cX9_stores 66 = .ok (.iconst (-1), 1) := by decide +kernel
theorem dX9_stores_67 : decode cX9_stores 67 = .ok (.ixor, 1) := by decide +kernel
theorem dX9_stores_68 : decode cX9_stores 68 = .ok (.iand, 1) := by decide +kernel
theorem dX9_stores_69 : decode cX9_stores 69 = .ok (.iload_n 2, 1) := by decide +kernel
theorem dX9_stores_70 : decode cX9_stores 70 = .ok (.iload 4, 2) := by decide +kernel
theorem dX9_stores_72 : decode cX9_stores 72 = .ok (.iand, 1) := by decide +kernel
theorem dX9_stores_73 : decode cX9_stores 73 = .ok (.iload 5, 2) := by decide +kernel
theorem dX9_stores_75 : decode cX9_stores 75 = .ok (.ishl, 1) := by decide +kernel
theorem dX9_stores_76 : decode cX9_stores 76 = .ok (.ior, 1) := by decide +kernel
theorem dX9_stores_77 : decode cX9_stores 77 = .ok (.putfield 117, 3) := by decide +kernel
theorem dX9_stores_80 : decode cX9_stores 80 = .ok (.aload_n 0, 1) := by decide +kernel
theorem dX9_stores_81 : decode cX9_stores 81 = .ok (.aload_n 0, 1) := by decide +kernel
theorem dX9_stores_82 : decode cX9_stores 82 = .ok (.iload_n 1, 1) := by decide +kernel
theorem dX9_stores_83 : decode cX9_stores 83 = .ok (.invokevirtual 44, 3) := by decide +kernel
theorem dX9_stores_86 : decode cX9_stores 86 = .ok (.putfield 65, 3) := by decide +kernel
theorem dX9_stores_89 : decode cX9_stores 89 = .ok (.aload_n 0, 1) := by decide +kernel
theorem dX9_stores_90 : decode cX9_stores 90 = .ok (.aload_n 0, 1) := by decide +kernel
theorem dX9_stores_91 : decode cX9_stores 91 = .ok (.getfield 65, 3) := by decide +kernel
theorem dX9_stores_94 : decode cX9_stores 94 = .ok (.ifCond .eq 9, 3) := by decide +kernel
theorem dX9_stores_97 : decode cX9_stores 97 = .ok (.iload_n 1, 1) := by decide +kernel
theorem dX9_stores_98 : decode cX9_stores 98 = .ok (.iconst 2, 1) := by decide +kernel
theorem dX9_stores_99 : decode cX9_stores 99 = .ok (.iushr, 1) := by decide +kernel
theorem dX9_stores_100 : decode cX9_stores 100 = .ok (.goto 16, 3) := by decide +kernel
theorem dX9_stores_103 : decode cX9_stores 103 = .ok (.iload_n 1, 1) := by decide +kernel
theorem dX9_stores_104 : decode cX9_stores 104 = .ok (.i2l, 1) := by decide +kernel
theorem dX9_stores_105 : decode cX9_stores 105 = .ok (.ldc2_w 40, 3) := by decide +kernel
theorem dX9_stores_108 : decode cX9_stores 108 = .ok (.land, 1) := by decide +kernel
theorem dX9_stores_109 : decode cX9_stores 109 = .ok (.ldc2_w 42, 3) := by decide +kernel
theorem dX9_stores_112 : decode cX9_stores 112 = .ok (.lsub, 1) := by decide +kernel
theorem dX9_stores_113 : decode cX9_stores 113 = .ok (.iconst 2, 1) := by decide +kernel
theorem dX9_stores_114 : decode cX9_stores 114 = .ok (.lshr, 1) := by decide +kernel
theorem dX9_stores_115 : decode cX9_stores 115 = .ok (.l2i, 1) := by decide +kernel
theorem dX9_stores_116 : decode cX9_stores 116 = .ok (.putfield 128, 3) := by decide +kernel
theorem dX9_stores_119 : decode cX9_stores 119 = .ok (.aload_n 0, 1) := by decide +kernel
theorem dX9_stores_120 : decode cX9_stores 120 = .ok (.getfield 65, 3) := by decide +kernel
theorem dX9_stores_123 : decode cX9_stores 123 = .ok (.ifCond .ne 8, 3) := by decide +kernel
theorem dX9_stores_126 : decode cX9_stores 126 = .ok (.aload_n 0, 1) := by decide +kernel
theorem dX9_stores_127 : decode cX9_stores 127 = .ok (.iconst 1, 1) := by decide +kernel
theorem dX9_stores_128 : decode cX9_stores 128 = .ok (.putfield 58, 3) := by decide +kernel
theorem dX9_stores_131 : decode cX9_stores 131 = .ok (.return_, 1) := by decide +kernel
theorem dX9_calls_0 : decode cX9_calls 0 = .ok (.aload_n 0, 1) := by decide +kernel
theorem dX9_calls_1 : decode cX9_calls 1 = .ok (.getfield 9, 3) := by decide +kernel
theorem dX9_calls_4 : decode cX9_calls 4 = .ok (.bipush 17, 2) := by decide +kernel
theorem dX9_calls_6 : decode cX9_calls 6 = .ok (.iaload, 1) := by decide +kernel
theorem dX9_calls_7 : decode cX9_calls 7 = .ok (.iconst 3, 1) := by decide +kernel
theorem dX9_calls_8 : decode cX9_calls 8 = .ok (.if_icmp .ne 12, 3) := by decide +kernel
theorem dX9_calls_11 : decode cX9_calls 11 = .ok (.aload_n 0, 1) := by decide +kernel
theorem dX9_calls_12 : decode cX9_calls 12 = .ok (.bipush 6, 2) := by decide +kernel
theorem dX9_calls_14 : decode cX9_calls 14 = .ok (.putfield 68, 3) := by decide +kernel
theorem dX9_calls_17 : decode cX9_calls 17 = .ok (.goto 103, 3) := by decide +kernel
theorem dX9_calls_20 : decode cX9_calls 20 = .ok (.aload_n 0, 1) := by decide +kernel
theorem dX9_calls_21 : decode cX9_calls 21 = .ok (.getfield 9, 3) := by decide +kernel
theorem dX9_calls_24 : decode cX9_calls 24 = .ok (.bipush 17, 2) := by decide +kernel
theorem dX9_calls_26 : decode cX9_calls 26 = .ok (.iaload, 1) := by decide +kernel
theorem dX9_calls_27 : decode cX9_calls 27 = .ok (.iconst 2, 1) := by decide +kernel
theorem dX9_calls_28 : decode cX9_calls 28 = .ok (.if_icmp .ne 75, 3) := by decide +kernel
theorem dX9_calls_31 : decode cX9_calls 31 = .ok (.aload_n 0, 1) := by decide +kernel
theorem dX9_calls_32 : decode cX9_calls 32 = .ok (.iconst 2, 1) := by decide +kernel
theorem dX9_calls_33 : decode cX9_calls 33 = .ok (.putfield 58, 3) := by decide +kernel
theorem dX9_calls_36 : decode cX9_calls 36 = .ok (.aload_n 0, 1) := by decide +kernel
theorem dX9_calls_37 : decode cX9_calls 37 = .ok (.aload_n 0, 1) := by decide +kernel
theorem dX9_calls_38 : decode cX9_calls 38 = .ok (.getfield 9, 3) := by decide +kernel
theorem dX9_calls_41 : decode cX9_calls 41 = .ok (.bipush 11, 2) := by decide +kernel
theorem dX9_calls_43 : decode cX9_calls 43 = .ok (.iaload, 1) := by decide +kernel
theorem dX9_calls_44 : decode cX9_calls 44 = .ok (.putfield 131, 3) := by decide +kernel
theorem dX9_calls_47 : decode cX9_calls 47 = .ok (.bipush 64, 2) := by decide +kernel
theorem dX9_calls_49 : decode cX9_calls 49 = .ok (.aload_n 0, 1) := by decide +kernel
theorem dX9_calls_50 : decode cX9_calls 50 = .ok (.getfield 131, 3) := by decide +kernel
theorem dX9_calls_53 : decode cX9_calls 53 = .ok (.invokestatic 120, 3) := by decide +kernel
theorem dX9_calls_56 : decode cX9_calls 56 = .ok (.ifCond .eq 12, 3) := by decide +kernel
theorem dX9_calls_59 : decode cX9_calls 59 = .ok (.aload_n 0, 1) := by decide +kernel
theorem dX9_calls_60 : decode cX9_calls 60 = .ok (.bipush 14, 2) := by decide +kernel
theorem dX9_calls_62 : decode cX9_calls 62 = .ok (.putfield 68, 3) := by decide +kernel
theorem dX9_calls_65 : decode cX9_calls 65 = .ok (.goto 55, 3) := by decide +kernel
theorem dX9_calls_68 : decode cX9_calls 68 = .ok (.aload_n 0, 1) := by decide +kernel
theorem dX9_calls_69 : decode cX9_calls 69 = .ok (.getfield 131, 3) := by decide +kernel
theorem dX9_calls_72 : decode cX9_calls 72 = .ok (.ifCond .le 48, 3) := by decide +kernel
theorem dX9_calls_75 : decode cX9_calls 75 = .ok (.aload_n 0, 1) := by decide +kernel
theorem dX9_calls_76 : decode cX9_calls 76 = .ok (.aload_n 0, 1) := by decide +kernel
theorem dX9_calls_77 : decode cX9_calls 77 = .ok (.getfield 9, 3) := by decide +kernel
theorem dX9_calls_80 : decode cX9_calls 80 = .ok (.bipush 10, 2) := by decide +kernel
theorem dX9_calls_82 : decode cX9_calls 82 = .ok (.iaload, 1) := by decide +kernel
theorem dX9_calls_83 : decode cX9_calls 83 = .ok (.aload_n 0, 1) := by decide +kernel
theorem dX9_calls_84 : decode cX9_calls 84 = .ok (.getfield 131, 3) := by decide +kernel
theorem dX9_calls_87 : decode cX9_calls 87 = .ok (.i2l, 1) := by decide +kernel
theorem dX9_calls_88 : decode cX9_calls 88 = .ok (.invokevirtual 73, 3) := by decide +kernel
theorem dX9_calls_91 : decode cX9_calls 91 = .ok (.ifCond .ne 29, 3) := by decide +kernel
theorem dX9_calls_94 : decode cX9_calls 94 = .ok (.aload_n 0, 1) := by decide +kernel
theorem dX9_calls_95 : decode cX9_calls 95 = .ok (.bipush 13, 2) := by decide +kernel
theorem dX9_calls_97 : decode cX9_calls 97 = .ok (.putfield 68, 3) := by decide +kernel
theorem dX9_calls_100 : decode cX9_calls 100 = .ok (.goto 20, 3) := by decide +kernel
theorem dX9_calls_103 : decode cX9_calls 103 = .ok (.aload_n 0, 1) := by decide +kernel
theorem dX9_calls_104 : decode cX9_calls 104 = .ok (.getfield 9, 3) := by decide +kernel
theorem dX9_calls_107 : decode cX9_calls 107 = .ok (.bipush 17, 2) := by decide +kernel
theorem dX9_calls_109 : decode cX9_calls 109 = .ok (.iaload, 1) := by decide +kernel
theorem dX9_calls_110 : decode cX9_calls 110 = .ok (.iconst 1, 1) := by decide +kernel
theorem dX9_calls_111 : decode cX9_calls 111 = .ok (.if_icmp .eq 9, 3) := by decide +kernel
theorem dX9_calls_114 : decode cX9_calls 114 = .ok (.aload_n 0, 1) := by decide +kernel
theorem dX9_calls_115 : decode cX9_calls 115 = .ok (.bipush 11, 2) := by decide +kernel
theorem dX9_calls_117 : decode cX9_calls 117 = .ok (.putfield 68, 3) := by decide +kernel
theorem dX9_calls_120 : decode cX9_calls 120 = .ok (.return_, 1) := by decide +kernel
theorem dX9_perform_0 : decode cX9_perform 0 = .ok (.aload_n 0, 1) := by decide +kernel
theorem dX9_perform_1 : decode cX9_perform 1 = .ok (.aload_n 0, 1) := by decide +kernel
theorem dX9_perform_2 : decode cX9_perform 2 = .ok (.getfield 28, 3) := by decide +kernel
theorem dX9_perform_5 : decode cX9_perform 5 = .ok (.invokevirtual 54, 3) := by decide +kernel
theorem dX9_perform_8 : decode cX9_perform 8 = .ok (.istore_n 1, 1) := by decide +kernel
theorem dX9_perform_9 : decode cX9_perform 9 = .ok (.aload_n 0, 1) := by decide +kernel
theorem dX9_perform_10 : decode cX9_perform 10 = .ok (.getfield 61, 3) := by decide +kernel
theorem dX9_perform_13 : decode cX9_perform 13 = .ok (.ifCond .eq 19, 3) := by decide +kernel
theorem dX9_perform_16 : decode cX9_perform 16 = .ok (.aload_n 0, 1) := by decide +kernel
theorem dX9_perform_17 : decode cX9_perform 17 = .ok (.getfield 9, 3) := by decide +kernel
theorem dX9_perform_20 : decode cX9_perform 20 = .ok (.iload_n 1, 1) := by decide +kernel
theorem dX9_perform_21 : decode cX9_perform 21 = .ok (.bipush 7, 2) := by decide +kernel
theorem dX9_perform_23 : decode cX9_perform 23 = .ok (.iconst 5, 1) := by decide +kernel
theorem dX9_perform_24 : decode cX9_perform 24 = .ok (.invokestatic 84, 3) := by decide +kernel
theorem dX9_perform_27 : decode cX9_perform 27 = .ok (.aload_n 0, 1) := by decide +kernel
theorem dX9_perform_28 : decode cX9_perform 28 = .ok (.getfield 117, 3) := by decide +kernel
theorem dX9_perform_31 : decode cX9_perform 31 = .ok (.iastore, 1) := by decide +kernel
theorem dX9_perform_32 : decode cX9_perform 32 = .ok (.aload_n 0, 1) := by decide +kernel
theorem dX9_perform_33 : decode cX9_perform 33 = .ok (.getfield 65, 3) := by decide +kernel
theorem dX9_perform_36 : decode cX9_perform 36 = .ok (.ifCond .eq 16, 3) := by decide +kernel
theorem dX9_perform_39 : decode cX9_perform 39 = .ok (.aload_n 0, 1) := by decide +kernel
theorem dX9_perform_40 : decode cX9_perform 40 = .ok (.getfield 15, 3) := by decide +kernel
theorem dX9_perform_43 : decode cX9_perform 43 = .ok (.aload_n 0, 1) := by decide +kernel
theorem dX9_perform_44 : decode cX9_perform 44 = .ok (.getfield 128, 3) := by decide +kernel
theorem dX9_perform_47 : decode cX9_perform 47 = .ok (.aload_n 0, 1) := by decide +kernel
theorem dX9_perform_48 : decode cX9_perform 48 = .ok (.getfield 117, 3) := by decide +kernel
theorem dX9_perform_51 : decode cX9_perform 51 = .ok (.iastore, 1) := by decide +kernel
theorem dX9_perform_52 : decode cX9_perform 52 = .ok (.aload_n 0, 1) := by decide +kernel
theorem dX9_perform_53 : decode cX9_perform 53 = .ok (.getfield 58, 3) := by decide +kernel
theorem dX9_perform_56 : decode cX9_perform 56 = .ok (.iconst 1, 1) := by decide +kernel
theorem dX9_perform_57 : decode cX9_perform 57 = .ok (.if_icmp .ne 21, 3) := by decide +kernel
theorem dX9_perform_60 : decode cX9_perform 60 = .ok (.aload_n 0, 1) := by decide +kernel
theorem dX9_perform_61 : decode cX9_perform 61 = .ok (.getfield 48, 3) := by decide +kernel
theorem dX9_perform_64 : decode cX9_perform 64 = .ok (.aload_n 0, 1) := by decide +kernel
theorem dX9_perform_65 : decode cX9_perform 65 = .ok (.getfield 51, 3) := by decide +kernel
theorem dX9_perform_68 : decode cX9_perform 68 = .ok (.aload_n 0, 1) := by decide +kernel
theorem dX9_perform_69 : decode cX9_perform 69 = .ok (.getfield 128, 3) := by decide +kernel
theorem dX9_perform_72 : decode cX9_perform 72 = .ok (.iadd, 1) := by decide +kernel
theorem dX9_perform_73 : decode cX9_perform 73 = .ok (.aload_n 0, 1) := by decide +kernel
theorem dX9_perform_74 : decode cX9_perform 74 = .ok (.getfield 117, 3) := by decide +kernel
theorem dX9_perform_77 : decode cX9_perform 77 = .ok (.iastore, 1) := by decide +kernel
theorem dX9_perform_78 : decode cX9_perform 78 = .ok (.aload_n 0, 1) := by decide +kernel
theorem dX9_perform_79 : decode cX9_perform 79 = .ok (.getfield 58, 3) := by decide +kernel
theorem dX9_perform_82 : decode cX9_perform 82 = .ok (.iconst 2, 1) := by decide +kernel
theorem dX9_perform_83 : decode cX9_perform 83 = .ok (.if_icmp .ne 27, 3) := by decide +kernel
theorem dX9_perform_86 : decode cX9_perform 86 = .ok (.aload_n 0, 1) := by decide +kernel
theorem dX9_perform_87 : decode cX9_perform 87 = .ok (.dup, 1) := by decide +kernel
theorem dX9_perform_88 : decode cX9_perform 88 = .ok (.getfield 34, 3) := by decide +kernel
theorem dX9_perform_91 : decode cX9_perform 91 = .ok (.iconst 1, 1) := by decide +kernel
theorem dX9_perform_92 : decode cX9_perform 92 = .ok (.iadd, 1) := by decide +kernel
theorem dX9_perform_93 : decode cX9_perform 93 = .ok (.putfield 34, 3) := by decide +kernel
theorem dX9_perform_96 : decode cX9_perform 96 = .ok (.aload_n 0, 1) := by decide +kernel
theorem dX9_perform_97 : decode cX9_perform 97 = .ok (.getfield 9, 3) := by decide +kernel
theorem dX9_perform_100 : decode cX9_perform 100 = .ok (.bipush 10, 2) := by decide +kernel
theorem dX9_perform_102 : decode cX9_perform 102 = .ok (.aload_n 0, 1) := by decide +kernel
theorem dX9_perform_103 : decode cX9_perform 103 = .ok (.getfield 34, 3) := by decide +kernel
theorem dX9_perform_106 : decode cX9_perform 106 = .ok (.iastore, 1) := by decide +kernel
theorem dX9_perform_107 : decode cX9_perform 107 = .ok (.goto 57, 3) := by decide +kernel
theorem dX9_perform_110 : decode cX9_perform 110 = .ok (.iload_n 1, 1) := by decide +kernel
theorem dX9_perform_111 : decode cX9_perform 111 = .ok (.bipush 115, 2) := by decide +kernel
theorem dX9_perform_113 : decode cX9_perform 113 = .ok (.if_icmp .ne 51, 3) := by decide +kernel
theorem dX9_perform_116 : decode cX9_perform 116 = .ok (.aload_n 0, 1) := by decide +kernel
theorem dX9_perform_117 : decode cX9_perform 117 = .ok (.getfield 9, 3) := by decide +kernel
theorem dX9_perform_120 : decode cX9_perform 120 = .ok (.bipush 10, 2) := by decide +kernel
theorem dX9_perform_122 : decode cX9_perform 122 = .ok (.aload_n 0, 1) := by decide +kernel
theorem dX9_perform_123 : decode cX9_perform 123 = .ok (.getfield 31, 3) := by decide +kernel
theorem dX9_perform_126 : decode cX9_perform 126 = .ok (.ifCond .lt 26, 3) := by decide +kernel
theorem dX9_perform_129 : decode cX9_perform 129 = .ok (.aload_n 0, 1) := by decide +kernel
theorem dX9_perform_130 : decode cX9_perform 130 = .ok (.getfield 31, 3) := by decide +kernel
theorem dX9_perform_133 : decode cX9_perform 133 = .ok (.aload_n 0, 1) := by decide +kernel
theorem dX9_perform_134 : decode cX9_perform 134 = .ok (.getfield 134, 3) := by decide +kernel
theorem dX9_perform_137 : decode cX9_perform 137 = .ok (.if_icmp .ge 15, 3) := by decide +kernel
theorem dX9_perform_140 : decode cX9_perform 140 = .ok (.aload_n 0, 1) := by decide +kernel
theorem dX9_perform_141 : decode cX9_perform 141 = .ok (.getfield 18, 3) := by decide +kernel
theorem dX9_perform_144 : decode cX9_perform 144 = .ok (.aload_n 0, 1) := by decide +kernel
theorem dX9_perform_145 : decode cX9_perform 145 = .ok (.getfield 31, 3) := by decide +kernel
theorem dX9_perform_148 : decode cX9_perform 148 = .ok (.iaload, 1) := by decide +kernel
theorem dX9_perform_149 : decode cX9_perform 149 = .ok (.goto 4, 3) := by decide +kernel
theorem dX9_perform_152 : decode cX9_perform 152 = .ok (.iconst 0, 1) := by decide +kernel
theorem dX9_perform_153 : decode cX9_perform 153 = .ok (.iastore, 1) := by decide +kernel
theorem dX9_perform_154 : decode cX9_perform 154 = .ok (.aload_n 0, 1) := by decide +kernel
theorem dX9_perform_155 : decode cX9_perform 155 = .ok (.dup, 1) := by decide +kernel
theorem dX9_perform_156 : decode cX9_perform 156 = .ok (.getfield 31, 3) := by decide +kernel
theorem dX9_perform_159 : decode cX9_perform 159 = .ok (.iconst 1, 1) := by decide +kernel
theorem dX9_perform_160 : decode cX9_perform 160 = .ok (.iadd, 1) := by decide +kernel
theorem dX9_perform_161 : decode cX9_perform 161 = .ok (.putfield 31, 3) := by decide +kernel
theorem dX9_perform_164 : decode cX9_perform 164 = .ok (.aload_n 0, 1) := by decide +kernel
theorem dX9_perform_165 : decode cX9_perform 165 = .ok (.getfield 9, 3) := by decide +kernel
theorem dX9_perform_168 : decode cX9_perform 168 = .ok (.iconst 0, 1) := by decide +kernel
theorem dX9_perform_169 : decode cX9_perform 169 = .ok (.iconst 0, 1) := by decide +kernel
theorem dX9_perform_170 : decode cX9_perform 170 = .ok (.iastore, 1) := by decide +kernel
theorem dX9_perform_171 : decode cX9_perform 171 = .ok (.aload_n 0, 1) := by decide +kernel
theorem dX9_perform_172 : decode cX9_perform 172 = .ok (.aload_n 0, 1) := by decide +kernel
theorem dX9_perform_173 : decode cX9_perform 173 = .ok (.getfield 77, 3) := by decide +kernel
theorem dX9_perform_176 : decode cX9_perform 176 = .ok (.putfield 28, 3) := by decide +kernel
theorem dX9_perform_179 : decode cX9_perform 179 = .ok (.aload_n 0, 1) := by decide +kernel
theorem dX9_perform_180 : decode cX9_perform 180 = .ok (.dup, 1) := by decide +kernel
theorem dX9_perform_181 : decode cX9_perform 181 = .ok (.getfield 37, 3) := by decide +kernel
theorem dX9_perform_184 : decode cX9_perform 184 = .ok (.iconst 1, 1) := by decide +kernel
theorem dX9_perform_185 : decode cX9_perform 185 = .ok (.iadd, 1) := by decide +kernel
theorem dX9_perform_186 : decode cX9_perform 186 = .ok (.putfield 37, 3) := by decide +kernel
theorem dX9_perform_189 : decode cX9_perform 189 = .ok (.return_, 1) := by decide +kernel
theorem dX9_sendTo_0 : decode cX9_sendTo 0 = .ok (.aload_n 1, 1) := by decide +kernel
theorem dX9_sendTo_1 : decode cX9_sendTo 1 = .ok (.getfield 137, 3) := by decide +kernel
theorem dX9_sendTo_4 : decode cX9_sendTo 4 = .ok (.sipush 400, 3) := by decide +kernel
theorem dX9_sendTo_7 : decode cX9_sendTo 7 = .ok (.if_icmp .ge 82, 3) := by decide +kernel
theorem dX9_sendTo_10 : decode cX9_sendTo 10 = .ok (.aload_n 1, 1) := by decide +kernel
theorem dX9_sendTo_11 : decode cX9_sendTo 11 = .ok (.getfield 137, 3) := by decide +kernel
theorem dX9_sendTo_14 : decode cX9_sendTo 14 = .ok (.istore_n 3, 1) := by decide +kernel
theorem dX9_sendTo_15 : decode cX9_sendTo 15 = .ok (.aload_n 1, 1) := by decide +kernel
theorem dX9_sendTo_16 : decode cX9_sendTo 16 = .ok (.getfield 140, 3) := by decide +kernel
theorem dX9_sendTo_19 : decode cX9_sendTo 19 = .ok (.iload_n 3, 1) := by decide +kernel
theorem dX9_sendTo_20 : decode cX9_sendTo 20 = .ok (.aload_n 0, 1) := by decide +kernel
theorem dX9_sendTo_21 : decode cX9_sendTo 21 = .ok (.getfield 34, 3) := by decide +kernel
theorem dX9_sendTo_24 : decode cX9_sendTo 24 = .ok (.iconst 1, 1) := by decide +kernel
theorem dX9_sendTo_25 : decode cX9_sendTo 25 = .ok (.iadd, 1) := by decide +kernel
theorem dX9_sendTo_26 : decode cX9_sendTo 26 = .ok (.iastore, 1) := by decide +kernel
theorem dX9_sendTo_27 : decode cX9_sendTo 27 = .ok (.aload_n 1, 1) := by decide +kernel
theorem dX9_sendTo_28 : decode cX9_sendTo 28 = .ok (.getfield 143, 3) := by decide +kernel
theorem dX9_sendTo_31 : decode cX9_sendTo 31 = .ok (.iload_n 3, 1) := by decide +kernel
theorem dX9_sendTo_32 : decode cX9_sendTo 32 = .ok (.aload_n 0, 1) := by decide +kernel
theorem dX9_sendTo_33 : decode cX9_sendTo 33 = .ok (.getfield 131, 3) := by decide +kernel
theorem dX9_sendTo_36 : decode cX9_sendTo 36 = .ok (.iastore, 1) := by decide +kernel
theorem dX9_sendTo_37 : decode cX9_sendTo 37 = .ok (.aload_n 1, 1) := by decide +kernel
theorem dX9_sendTo_38 : decode cX9_sendTo 38 = .ok (.getfield 146, 3) := by decide +kernel
theorem dX9_sendTo_41 : decode cX9_sendTo 41 = .ok (.iload_n 3, 1) := by decide +kernel
theorem dX9_sendTo_42 : decode cX9_sendTo 42 = .ok (.iload_n 2, 1) := by decide +kernel
theorem dX9_sendTo_43 : decode cX9_sendTo 43 = .ok (.iastore, 1) := by decide +kernel
theorem dX9_sendTo_44 : decode cX9_sendTo 44 = .ok (.iconst 0, 1) := by decide +kernel
theorem dX9_sendTo_45 : decode cX9_sendTo 45 = .ok (.istore 4, 2) := by decide +kernel
theorem dX9_sendTo_47 : decode cX9_sendTo 47 = .ok (.iload 4, 2) := by decide +kernel
theorem dX9_sendTo_49 : decode cX9_sendTo 49 = .ok (.aload_n 0, 1) := by decide +kernel
theorem dX9_sendTo_50 : decode cX9_sendTo 50 = .ok (.getfield 131, 3) := by decide +kernel
theorem dX9_sendTo_53 : decode cX9_sendTo 53 = .ok (.if_icmp .ge 36, 3) := by decide +kernel
theorem dX9_sendTo_56 : decode cX9_sendTo 56 = .ok (.aload_n 1, 1) := by decide +kernel
theorem dX9_sendTo_57 : decode cX9_sendTo 57 = .ok (.getfield 149, 3) := by decide +kernel
theorem dX9_sendTo_60 : decode cX9_sendTo 60 = .ok (.bipush 64, 2) := by decide +kernel
theorem dX9_sendTo_62 : decode cX9_sendTo 62 = .ok (.iload_n 3, 1) := by decide +kernel
theorem dX9_sendTo_63 : decode cX9_sendTo 63 = .ok (.imul, 1) := by decide +kernel
theorem dX9_sendTo_64 : decode cX9_sendTo 64 = .ok (.iload 4, 2) := by decide +kernel
theorem dX9_sendTo_66 : decode cX9_sendTo 66 = .ok (.iadd, 1) := by decide +kernel
theorem dX9_sendTo_67 : decode cX9_sendTo 67 = .ok (.aload_n 0, 1) := by decide +kernel
theorem dX9_sendTo_68 : decode cX9_sendTo 68 = .ok (.aload_n 0, 1) := by decide +kernel
theorem dX9_sendTo_69 : decode cX9_sendTo 69 = .ok (.getfield 9, 3) := by decide +kernel
theorem dX9_sendTo_72 : decode cX9_sendTo 72 = .ok (.bipush 10, 2) := by decide +kernel
theorem dX9_sendTo_74 : decode cX9_sendTo 74 = .ok (.iaload, 1) := by decide +kernel
theorem dX9_sendTo_75 : decode cX9_sendTo 75 = .ok (.iload 4, 2) := by decide +kernel
theorem dX9_sendTo_77 : decode cX9_sendTo 77 = .ok (.iadd, 1) := by decide +kernel
theorem dX9_sendTo_78 : decode cX9_sendTo 78 = .ok (.invokevirtual 153, 3) := by decide +kernel
theorem dX9_sendTo_81 : decode cX9_sendTo 81 = .ok (.i2b, 1) := by decide +kernel
theorem dX9_sendTo_82 : decode cX9_sendTo 82 = .ok (.bastore, 1) := by decide +kernel
theorem dX9_sendTo_83 : decode cX9_sendTo 83 = .ok (.iinc 4 1, 3) := by decide +kernel
theorem dX9_sendTo_86 : decode cX9_sendTo 86 = .ok (.goto (-39), 3) := by decide +kernel
theorem dX9_sendTo_89 : decode cX9_sendTo 89 = .ok (.aload_n 1, 1) := by decide +kernel
theorem dX9_sendTo_90 : decode cX9_sendTo 90 = .ok (.dup, 1) := by decide +kernel
theorem dX9_sendTo_91 : decode cX9_sendTo 91 = .ok (.getfield 137, 3) := by decide +kernel
theorem dX9_sendTo_94 : decode cX9_sendTo 94 = .ok (.iconst 1, 1) := by decide +kernel
theorem dX9_sendTo_95 : decode cX9_sendTo 95 = .ok (.iadd, 1) := by decide +kernel
theorem dX9_sendTo_96 : decode cX9_sendTo 96 = .ok (.putfield 137, 3) := by decide +kernel
theorem dX9_sendTo_99 : decode cX9_sendTo 99 = .ok (.return_, 1) := by decide +kernel
theorem dX10_init_0 : decode cX10_init 0 = .ok (.aload_n 0, 1) := by decide +kernel
theorem dX10_init_1 : decode cX10_init 1 = .ok (.invokespecial 1, 3) := by decide +kernel
theorem dX10_init_4 : decode cX10_init 4 = .ok (.aload_n 0, 1) := by decide +kernel
theorem dX10_init_5 : decode cX10_init 5 = .ok (.sipush 6219, 3) := by decide +kernel
theorem dX10_init_8 : decode cX10_init 8 = .ok (.newarray .int, 2) := by decide +kernel
theorem dX10_init_10 : decode cX10_init 10 = .ok (.putfield 9, 3) := by decide +kernel
theorem dX10_init_13 : decode cX10_init 13 = .ok (.aload_n 0, 1) := by decide +kernel
theorem dX10_init_14 : decode cX10_init 14 = .ok (.sipush 2048, 3) := by decide +kernel
theorem dX10_init_17 : decode cX10_init 17 = .ok (.newarray .int, 2) := by decide +kernel
theorem dX10_init_19 : decode cX10_init 19 = .ok (.putfield 13, 3) := by decide +kernel
theorem dX10_init_22 : decode cX10_init 22 = .ok (.aload_n 0, 1) := by decide +kernel
theorem dX10_init_23 : decode cX10_init 23 = .ok (.sipush 1000, 3) := by decide +kernel
theorem dX10_init_26 : decode cX10_init 26 = .ok (.newarray .int, 2) := by decide +kernel
theorem dX10_init_28 : decode cX10_init 28 = .ok (.putfield 16, 3) := by decide +kernel
theorem dX10_init_31 : decode cX10_init 31 = .ok (.aload_n 0, 1) := by decide +kernel
theorem dX10_init_32 : decode cX10_init 32 = .ok (.new 19, 3) := by decide +kernel
theorem dX10_init_35 : decode cX10_init 35 = .ok (.dup, 1) := by decide +kernel
theorem dX10_init_36 : decode cX10_init 36 = .ok (.aload_n 0, 1) := by decide +kernel
theorem dX10_init_37 : decode cX10_init 37 = .ok (.getfield 16, 3) := by decide +kernel
theorem dX10_init_40 : decode cX10_init 40 = .ok (.invokespecial 21, 3) := by decide +kernel
theorem dX10_init_43 : decode cX10_init 43 = .ok (.putfield 24, 3) := by decide +kernel
theorem dX10_init_46 : decode cX10_init 46 = .ok (.aload_n 0, 1) := by decide +kernel
theorem dX10_init_47 : decode cX10_init 47 = .ok (.new 19, 3) := by decide +kernel
theorem dX10_init_50 : decode cX10_init 50 = .ok (.dup, 1) := by decide +kernel
theorem dX10_init_51 : decode cX10_init 51 = .ok (.aload_n 0, 1) := by decide +kernel
theorem dX10_init_52 : decode cX10_init 52 = .ok (.getfield 16, 3) := by decide +kernel
theorem dX10_init_55 : decode cX10_init 55 = .ok (.invokespecial 21, 3) := by decide +kernel
theorem dX10_init_58 : decode cX10_init 58 = .ok (.putfield 28, 3) := by decide +kernel
theorem dX10_init_61 : decode cX10_init 61 = .ok (.aload_n 0, 1) := by decide +kernel
theorem dX10_init_62 : decode cX10_init 62 = .ok (.sipush 2048, 3) := by decide +kernel
theorem dX10_init_65 : decode cX10_init 65 = .ok (.newarray .int, 2) := by decide +kernel
theorem dX10_init_67 : decode cX10_init 67 = .ok (.putfield 31, 3) := by decide +kernel
theorem dX10_init_70 : decode cX10_init 70 = .ok (.aload_n 0, 1) := by decide +kernel
theorem dX10_init_71 : decode cX10_init 71 = .ok (.new 34, 3) := by decide +kernel
theorem dX10_init_74 : decode cX10_init 74 = .ok (.dup, 1) := by decide +kernel
theorem dX10_init_75 : decode cX10_init 75 = .ok (.invokespecial 36, 3) := by decide +kernel
theorem dX10_init_78 : decode cX10_init 78 = .ok (.putfield 37, 3) := by decide +kernel
theorem dX10_init_81 : decode cX10_init 81 = .ok (.aload_n 0, 1) := by decide +kernel
theorem dX10_init_82 : decode cX10_init 82 = .ok (.new 34, 3) := by decide +kernel
theorem dX10_init_85 : decode cX10_init 85 = .ok (.dup, 1) := by decide +kernel
theorem dX10_init_86 : decode cX10_init 86 = .ok (.invokespecial 36, 3) := by decide +kernel
theorem dX10_init_89 : decode cX10_init 89 = .ok (.putfield 41, 3) := by decide +kernel
theorem dX10_init_92 : decode cX10_init 92 = .ok (.aload_n 0, 1) := by decide +kernel
theorem dX10_init_93 : decode cX10_init 93 = .ok (.sipush 2048, 3) := by decide +kernel
theorem dX10_init_96 : decode cX10_init 96 = .ok (.newarray .boolean, 2) := by decide +kernel
theorem dX10_init_98 : decode cX10_init 98 = .ok (.putfield 44, 3) := by decide +kernel
theorem dX10_init_101 : decode cX10_init 101 = .ok (.aload_n 0, 1) := by decide +kernel
theorem dX10_init_102 : decode cX10_init 102 = .ok (.sipush 8200, 3) := by decide +kernel
theorem dX10_init_105 : decode cX10_init 105 = .ok (.newarray .byte, 2) := by decide +kernel
theorem dX10_init_107 : decode cX10_init 107 = .ok (.putfield 48, 3) := by decide +kernel
theorem dX10_init_110 : decode cX10_init 110 = .ok (.return_, 1) := by decide +kernel
theorem dX10_four_0 : decode cX10_four 0 = .ok (.bipush 24, 2) := by decide +kernel
theorem dX10_four_2 : decode cX10_four 2 = .ok (.istore_n 2, 1) := by decide +kernel
theorem dX10_four_3 : decode cX10_four 3 = .ok (.iload_n 2, 1) := by decide +kernel
theorem dX10_four_4 : decode cX10_four 4 = .ok (.ifCond .lt 32, 3) := by decide +kernel
theorem dX10_four_7 : decode cX10_four 7 = .ok (.aload_n 0, 1) := by decide +kernel
theorem dX10_four_8 : decode cX10_four 8 = .ok (.getfield 48, 3) := by decide +kernel
theorem dX10_four_11 : decode cX10_four 11 = .ok (.aload_n 0, 1) := by decide +kernel
theorem dX10_four_12 : decode cX10_four 12 = .ok (.getfield 52, 3) := by decide +kernel
theorem dX10_four_15 : decode cX10_four 15 = .ok (.iload_n 1, 1) := by decide +kernel
theorem dX10_four_16 : decode cX10_four 16 = .ok (.iload_n 2, 1) := by decide +kernel
theorem dX10_four_17 : decode cX10_four 17 = .ok (.ishr, 1) := by decide +kernel
theorem dX10_four_18 : decode cX10_four 18 = .ok (.i2b, 1) := by decide +kernel
theorem dX10_four_19 : decode cX10_four 19 = .ok (.bastore, 1) := by decide +kernel
theorem dX10_four_20 : decode cX10_four 20 = .ok (.aload_n 0, 1) := by decide +kernel
theorem dX10_four_21 : decode cX10_four 21 = .ok (.dup, 1) := by decide +kernel
theorem dX10_four_22 : decode cX10_four 22 = .ok (.getfield 52, 3) := by decide +kernel
theorem dX10_four_25 : decode cX10_four 25 = .ok (.iconst 1, 1) := by decide +kernel
theorem dX10_four_26 : decode cX10_four 26 = .ok (.iadd, 1) := by decide +kernel
theorem dX10_four_27 : decode cX10_four 27 = .ok (.putfield 52, 3) := by decide +kernel
theorem dX10_four_30 : decode cX10_four 30 = .ok (.iinc 2 (-8), 3) := by decide +kernel
theorem dX10_four_33 : decode cX10_four 33 = .ok (.goto (-30), 3) := by decide +kernel
theorem dX10_four_36 : decode cX10_four 36 = .ok (.return_, 1) := by decide +kernel
theorem dX10_feed_0 : decode cX10_feed 0 = .ok (.aload_n 0, 1) := by decide +kernel
theorem dX10_feed_1 : decode cX10_feed 1 = .ok (.getfield 52, 3) := by decide +kernel
theorem dX10_feed_4 : decode cX10_feed 4 = .ok (.bipush 20, 2) := by decide +kernel
theorem dX10_feed_6 : decode cX10_feed 6 = .ok (.iadd, 1) := by decide +kernel
theorem dX10_feed_7 : decode cX10_feed 7 = .ok (.sipush 8200, 3) := by decide +kernel
theorem dX10_feed_10 : decode cX10_feed 10 = .ok (.if_icmp .gt 15, 3) := by decide +kernel
theorem dX10_feed_13 : decode cX10_feed 13 = .ok (.aload_n 0, 1) := by decide +kernel
theorem dX10_feed_14 : decode cX10_feed 14 = .ok (.getfield 56, 3) := by decide +kernel
theorem dX10_feed_17 : decode cX10_feed 17 = .ok (.bipush 20, 2) := by decide +kernel
theorem dX10_feed_19 : decode cX10_feed 19 = .ok (.iadd, 1) := by decide +kernel
theorem dX10_feed_20 : decode cX10_feed 20 = .ok (.ldc 59, 2) := by decide +kernel
theorem dX10_feed_22 : decode cX10_feed 22 = .ok (.if_icmp .le 5, 3) := by decide +kernel
theorem dX10_feed_25 : decode cX10_feed 25 = .ok (.iconst (-1), 1) := by decide +kernel
theorem dX10_feed_26 : decode cX10_feed 26 = .ok (.ireturn, 1) := by decide +kernel
theorem dX10_feed_27 : decode cX10_feed 27 = .ok (.aload_n 0, 1) := by decide +kernel
theorem dX10_feed_28 : decode cX10_feed 28 = .ok (.iload_n 1, 1) := by decide +kernel
theorem dX10_feed_29 : decode cX10_feed 29 = .ok (.invokevirtual 60, 3) := by decide +kernel
theorem dX10_feed_32 : decode cX10_feed 32 = .ok (.aload_n 0, 1) := by decide +kernel
theorem dX10_feed_33 : decode cX10_feed 33 = .ok (.iload_n 2, 1) := by decide +kernel
theorem dX10_feed_34 : decode cX10_feed 34 = .ok (.invokevirtual 60, 3) := by decide +kernel
theorem dX10_feed_37 : decode cX10_feed 37 = .ok (.aload_n 0, 1) := by decide +kernel
theorem dX10_feed_38 : decode cX10_feed 38 = .ok (.iload_n 3, 1) := by decide +kernel
theorem dX10_feed_39 : decode cX10_feed 39 = .ok (.invokevirtual 60, 3) := by decide +kernel
theorem dX10_feed_42 : decode cX10_feed 42 = .ok (.aload_n 0, 1) := by decide +kernel
theorem dX10_feed_43 : decode cX10_feed 43 = .ok (.iload 4, 2) := by decide +kernel
theorem dX10_feed_45 : decode cX10_feed 45 = .ok (.invokevirtual 60, 3) := by decide +kernel
theorem dX10_feed_48 : decode cX10_feed 48 = .ok (.aload_n 0, 1) := by decide +kernel
theorem dX10_feed_49 : decode cX10_feed 49 = .ok (.iload 5, 2) := by decide +kernel
theorem dX10_feed_51 : decode cX10_feed 51 = .ok (.invokevirtual 60, 3) := by decide +kernel
theorem dX10_feed_54 : decode cX10_feed 54 = .ok (.aload_n 0, 1) := by decide +kernel
theorem dX10_feed_55 : decode cX10_feed 55 = .ok (.dup, 1) := by decide +kernel
theorem dX10_feed_56 : decode cX10_feed 56 = .ok (.getfield 56, 3) := by decide +kernel
theorem dX10_feed_59 : decode cX10_feed 59 = .ok (.bipush 20, 2) := by decide +kernel
theorem dX10_feed_61 : decode cX10_feed 61 = .ok (.iadd, 1) := by decide +kernel
theorem dX10_feed_62 : decode cX10_feed 62 = .ok (.putfield 56, 3) := by decide +kernel
theorem dX10_feed_65 : decode cX10_feed 65 = .ok (.aload_n 0, 1) := by decide +kernel
theorem dX10_feed_66 : decode cX10_feed 66 = .ok (.getfield 52, 3) := by decide +kernel
theorem dX10_feed_69 : decode cX10_feed 69 = .ok (.ireturn, 1) := by decide +kernel
theorem dX10_end_0 : decode cX10_end 0 = .ok (.iload_n 1, 1) := by decide +kernel
theorem dX10_end_1 : decode cX10_end 1 = .ok (.ifCond .lt 11, 3) := by decide +kernel
theorem dX10_end_4 : decode cX10_end 4 = .ok (.iload_n 1, 1) := by decide +kernel
theorem dX10_end_5 : decode cX10_end 5 = .ok (.aload_n 0, 1) := by decide +kernel
end
section
theorem dX10_end_6 : decode cX10_end 6 = .ok (.getfield 52, 3) := by decide +kernel
theorem dX10_end_9 : decode cX10_end 9 = .ok (.if_icmp .le 5, 3) := by decide +kernel
theorem dX10_end_12 : decode cX10_end 12 = .ok (.iconst 0, 1) := by decide +kernel
theorem dX10_end_13 : decode cX10_end 13 = .ok (.ireturn, 1) := by decide +kernel
theorem dX10_end_14 : decode cX10_end 14 = .ok (.aload_n 0, 1) := by decide +kernel
theorem dX10_end_15 : decode cX10_end 15 = .ok (.iload_n 1, 1) := by decide +kernel
theorem dX10_end_16 : decode cX10_end 16 = .ok (.putfield 52, 3) := by decide +kernel
theorem dX10_end_19 : decode cX10_end 19 = .ok (.iconst 1, 1) := by decide +kernel
theorem dX10_end_20 : decode cX10_end 20 = .ok (.ireturn, 1) := by decide +kernel
theorem dX10_install_0 : decode cX10_install 0 = .ok (.aload_n 0, 1) := by decide +kernel
theorem dX10_install_1 : decode cX10_install 1 = .ok (.getfield 52, 3) := by decide +kernel
theorem dX10_install_4 : decode cX10_install 4 = .ok (.istore 6, 2) := by decide +kernel
theorem dX10_install_6 : decode cX10_install 6 = .ok (.aload_n 0, 1) := by decide +kernel
theorem dX10_install_7 : decode cX10_install 7 = .ok (.iconst 0, 1) := by decide +kernel
theorem dX10_install_8 : decode cX10_install 8 = .ok (.putfield 52, 3) := by decide +kernel
theorem dX10_install_11 : decode cX10_install 11 = .ok (.iload_n 1, 1) := by decide +kernel
theorem dX10_install_12 : decode cX10_install 12 = .ok (.iconst 4, 1) := by decide +kernel
theorem dX10_install_13 : decode cX10_install 13 = .ok (.if_icmp .lt 65, 3) := by decide +kernel
theorem dX10_install_16 : decode cX10_install 16 = .ok (.iload_n 1, 1) := by decide +kernel
theorem dX10_install_17 : decode cX10_install 17 = .ok (.sipush 4096, 3) := by decide +kernel
theorem dX10_install_20 : decode cX10_install 20 = .ok (.if_icmp .gt 58, 3) := by decide +kernel
theorem dX10_install_23 : decode cX10_install 23 = .ok (.iload_n 1, 1) := by decide +kernel
theorem dX10_install_24 : decode cX10_install 24 = .ok (.iconst 4, 1) := by decide +kernel
theorem dX10_install_25 : decode cX10_install 25 = .ok (.irem, 1) := by decide +kernel
theorem dX10_install_26 : decode cX10_install 26 = .ok (.ifCond .ne 52, 3) := by decide +kernel
theorem dX10_install_29 : decode cX10_install 29 = .ok (.iload_n 2, 1) := by decide +kernel
theorem dX10_install_30 : decode cX10_install 30 = .ok (.iconst 4, 1) := by decide +kernel
theorem dX10_install_31 : decode cX10_install 31 = .ok (.if_icmp .lt 47, 3) := by decide +kernel
theorem dX10_install_34 : decode cX10_install 34 = .ok (.iload_n 2, 1) := by decide +kernel
theorem dX10_install_35 : decode cX10_install 35 = .ok (.sipush 8192, 3) := by decide +kernel
theorem dX10_install_38 : decode cX10_install 38 = .ok (.if_icmp .gt 40, 3) := by decide +kernel
theorem dX10_install_41 : decode cX10_install 41 = .ok (.iload_n 2, 1) := by decide +kernel
theorem dX10_install_42 : decode cX10_install 42 = .ok (.iconst 4, 1) := by decide +kernel
theorem dX10_install_43 : decode cX10_install 43 = .ok (.irem, 1) := by decide +kernel
theorem dX10_install_44 : decode cX10_install 44 = .ok (.ifCond .ne 34, 3) := by decide +kernel
theorem dX10_install_47 : decode cX10_install 47 = .ok (.iload_n 3, 1) := by decide +kernel
theorem dX10_install_48 : decode cX10_install 48 = .ok (.bipush 8, 2) := by decide +kernel
theorem dX10_install_50 : decode cX10_install 50 = .ok (.if_icmp .lt 28, 3) := by decide +kernel
theorem dX10_install_53 : decode cX10_install 53 = .ok (.iload_n 3, 1) := by decide +kernel
theorem dX10_install_54 : decode cX10_install 54 = .ok (.sipush 1024, 3) := by decide +kernel
theorem dX10_install_57 : decode cX10_install 57 = .ok (.if_icmp .gt 21, 3) := by decide +kernel
theorem dX10_install_60 : decode cX10_install 60 = .ok (.iload 4, 2) := by decide +kernel
theorem dX10_install_62 : decode cX10_install 62 = .ok (.bipush 16, 2) := by decide +kernel
theorem dX10_install_64 : decode cX10_install 64 = .ok (.if_icmp .lt 14, 3) := by decide +kernel
theorem dX10_install_67 : decode cX10_install 67 = .ok (.iload 4, 2) := by decide +kernel
theorem dX10_install_69 : decode cX10_install 69 = .ok (.ldc 59, 2) := by decide +kernel
theorem dX10_install_71 : decode cX10_install 71 = .ok (.if_icmp .gt 7, 3) := by decide +kernel
theorem dX10_install_74 : decode cX10_install 74 = .ok (.iconst 1, 1) := by decide +kernel
theorem dX10_install_75 : decode cX10_install 75 = .ok (.goto 4, 3) := by decide +kernel
theorem dX10_install_78 : decode cX10_install 78 = .ok (.iconst 0, 1) := by decide +kernel
theorem dX10_install_79 : decode cX10_install 79 = .ok (.istore 7, 2) := by decide +kernel
theorem dX10_install_81 : decode cX10_install 81 = .ok (.iload 7, 2) := by decide +kernel
theorem dX10_install_83 : decode cX10_install 83 = .ok (.ifCond .ne 5, 3) := by decide +kernel
theorem dX10_install_86 : decode cX10_install 86 = .ok (.iconst (-1), 1) := by decide +kernel
theorem dX10_install_87 : decode cX10_install 87 = .ok (.ireturn, 1) := by decide +kernel
theorem dX10_install_88 : decode cX10_install 88 = .ok (.iload 6, 2) := by decide +kernel
theorem dX10_install_90 : decode cX10_install 90 = .ok (.iload_n 2, 1) := by decide +kernel
theorem dX10_install_91 : decode cX10_install 91 = .ok (.if_icmp .le 6, 3) := by decide +kernel
theorem dX10_install_94 : decode cX10_install 94 = .ok (.bipush (-2), 2) := by decide +kernel
theorem dX10_install_96 : decode cX10_install 96 = .ok (.ireturn, 1) := by decide +kernel
theorem dX10_install_97 : decode cX10_install 97 = .ok (.aload_n 0, 1) := by decide +kernel
theorem dX10_install_98 : decode cX10_install 98 = .ok (.iconst 1, 1) := by decide +kernel
theorem dX10_install_99 : decode cX10_install 99 = .ok (.putfield 64, 3) := by decide +kernel
theorem dX10_install_102 : decode cX10_install 102 = .ok (.aload_n 0, 1) := by decide +kernel
theorem dX10_install_103 : decode cX10_install 103 = .ok (.iconst 0, 1) := by decide +kernel
theorem dX10_install_104 : decode cX10_install 104 = .ok (.putfield 68, 3) := by decide +kernel
theorem dX10_install_107 : decode cX10_install 107 = .ok (.aload_n 0, 1) := by decide +kernel
theorem dX10_install_108 : decode cX10_install 108 = .ok (.iconst 0, 1) := by decide +kernel
theorem dX10_install_109 : decode cX10_install 109 = .ok (.putfield 71, 3) := by decide +kernel
theorem dX10_install_112 : decode cX10_install 112 = .ok (.aload_n 0, 1) := by decide +kernel
theorem dX10_install_113 : decode cX10_install 113 = .ok (.iconst 0, 1) := by decide +kernel
theorem dX10_install_114 : decode cX10_install 114 = .ok (.putfield 74, 3) := by decide +kernel
theorem dX10_install_117 : decode cX10_install 117 = .ok (.aload_n 0, 1) := by decide +kernel
theorem dX10_install_118 : decode cX10_install 118 = .ok (.iload_n 1, 1) := by decide +kernel
theorem dX10_install_119 : decode cX10_install 119 = .ok (.putfield 77, 3) := by decide +kernel
theorem dX10_install_122 : decode cX10_install 122 = .ok (.aload_n 0, 1) := by decide +kernel
theorem dX10_install_123 : decode cX10_install 123 = .ok (.iload_n 2, 1) := by decide +kernel
theorem dX10_install_124 : decode cX10_install 124 = .ok (.putfield 80, 3) := by decide +kernel
theorem dX10_install_127 : decode cX10_install 127 = .ok (.aload_n 0, 1) := by decide +kernel
theorem dX10_install_128 : decode cX10_install 128 = .ok (.iload_n 3, 1) := by decide +kernel
theorem dX10_install_129 : decode cX10_install 129 = .ok (.putfield 83, 3) := by decide +kernel
theorem dX10_install_132 : decode cX10_install 132 = .ok (.aload_n 0, 1) := by decide +kernel
theorem dX10_install_133 : decode cX10_install 133 = .ok (.iload 4, 2) := by decide +kernel
theorem dX10_install_135 : decode cX10_install 135 = .ok (.putfield 86, 3) := by decide +kernel
theorem dX10_install_138 : decode cX10_install 138 = .ok (.aload_n 0, 1) := by decide +kernel
theorem dX10_install_139 : decode cX10_install 139 = .ok (.iload 5, 2) := by decide +kernel
theorem dX10_install_141 : decode cX10_install 141 = .ok (.putfield 89, 3) := by decide +kernel
theorem dX10_install_144 : decode cX10_install 144 = .ok (.aload_n 0, 1) := by decide +kernel
theorem dX10_install_145 : decode cX10_install 145 = .ok (.iconst 3, 1) := by decide +kernel
theorem dX10_install_146 : decode cX10_install 146 = .ok (.iconst 2, 1) := by decide +kernel
theorem dX10_install_147 : decode cX10_install 147 = .ok (.bipush 36, 2) := by decide +kernel
theorem dX10_install_149 : decode cX10_install 149 = .ok (.aload_n 0, 1) := by decide +kernel
theorem dX10_install_150 : decode cX10_install 150 = .ok (.getfield 77, 3) := by decide +kernel
theorem dX10_install_153 : decode cX10_install 153 = .ok (.iconst 4, 1) := by decide +kernel
theorem dX10_install_154 : decode cX10_install 154 = .ok (.idiv, 1) := by decide +kernel
theorem dX10_install_155 : decode cX10_install 155 = .ok (.iadd, 1) := by decide +kernel
theorem dX10_install_156 : decode cX10_install 156 = .ok (.imul, 1) := by decide +kernel
theorem dX10_install_157 : decode cX10_install 157 = .ok (.iadd, 1) := by decide +kernel
theorem dX10_install_158 : decode cX10_install 158 = .ok (.putfield 92, 3) := by decide +kernel
theorem dX10_install_161 : decode cX10_install 161 = .ok (.aload_n 0, 1) := by decide +kernel
theorem dX10_install_162 : decode cX10_install 162 = .ok (.aload_n 0, 1) := by decide +kernel
theorem dX10_install_163 : decode cX10_install 163 = .ok (.getfield 92, 3) := by decide +kernel
theorem dX10_install_166 : decode cX10_install 166 = .ok (.iconst 2, 1) := by decide +kernel
theorem dX10_install_167 : decode cX10_install 167 = .ok (.aload_n 0, 1) := by decide +kernel
theorem dX10_install_168 : decode cX10_install 168 = .ok (.getfield 83, 3) := by decide +kernel
theorem dX10_install_171 : decode cX10_install 171 = .ok (.imul, 1) := by decide +kernel
theorem dX10_install_172 : decode cX10_install 172 = .ok (.iadd, 1) := by decide +kernel
theorem dX10_install_173 : decode cX10_install 173 = .ok (.putfield 95, 3) := by decide +kernel
theorem dX10_install_176 : decode cX10_install 176 = .ok (.aload_n 0, 1) := by decide +kernel
theorem dX10_install_177 : decode cX10_install 177 = .ok (.aload_n 0, 1) := by decide +kernel
theorem dX10_install_178 : decode cX10_install 178 = .ok (.getfield 95, 3) := by decide +kernel
theorem dX10_install_181 : decode cX10_install 181 = .ok (.aload_n 0, 1) := by decide +kernel
theorem dX10_install_182 : decode cX10_install 182 = .ok (.getfield 80, 3) := by decide +kernel
theorem dX10_install_185 : decode cX10_install 185 = .ok (.iconst 4, 1) := by decide +kernel
theorem dX10_install_186 : decode cX10_install 186 = .ok (.idiv, 1) := by decide +kernel
theorem dX10_install_187 : decode cX10_install 187 = .ok (.iadd, 1) := by decide +kernel
theorem dX10_install_188 : decode cX10_install 188 = .ok (.putfield 98, 3) := by decide +kernel
theorem dX10_install_191 : decode cX10_install 191 = .ok (.iconst 0, 1) := by decide +kernel
theorem dX10_install_192 : decode cX10_install 192 = .ok (.istore 8, 2) := by decide +kernel
theorem dX10_install_194 : decode cX10_install 194 = .ok (.iload 8, 2) := by decide +kernel
theorem dX10_install_196 : decode cX10_install 196 = .ok (.aload_n 0, 1) := by decide +kernel
theorem dX10_install_197 : decode cX10_install 197 = .ok (.getfield 9, 3) := by decide +kernel
theorem dX10_install_200 : decode cX10_install 200 = .ok (.arraylength, 1) := by decide +kernel
theorem dX10_install_201 : decode cX10_install 201 = .ok (.if_icmp .ge 17, 3) := by decide +kernel
theorem dX10_install_204 : decode cX10_install 204 = .ok (.aload_n 0, 1) := by decide +kernel
theorem dX10_install_205 : decode cX10_install 205 = .ok (.getfield 9, 3) := by decide +kernel
theorem dX10_install_208 : decode cX10_install 208 = .ok (.iload 8, 2) := by decide +kernel
theorem dX10_install_210 : decode cX10_install 210 = .ok (.iconst 0, 1) := by decide +kernel
theorem dX10_install_211 : decode cX10_install 211 = .ok (.iastore, 1) := by decide +kernel
theorem dX10_install_212 : decode cX10_install 212 = .ok (.iinc 8 1, 3) := by decide +kernel
theorem dX10_install_215 : decode cX10_install 215 = .ok (.goto (-21), 3) := by decide +kernel
theorem dX10_install_218 : decode cX10_install 218 = .ok (.iconst 0, 1) := by decide +kernel
theorem dX10_install_219 : decode cX10_install 219 = .ok (.istore 8, 2) := by decide +kernel
theorem dX10_install_221 : decode cX10_install 221 = .ok (.iload 8, 2) := by decide +kernel
theorem dX10_install_223 : decode cX10_install 223 = .ok (.sipush 2048, 3) := by decide +kernel
theorem dX10_install_226 : decode cX10_install 226 = .ok (.if_icmp .ge 17, 3) := by decide +kernel
theorem dX10_install_229 : decode cX10_install 229 = .ok (.aload_n 0, 1) := by decide +kernel
theorem dX10_install_230 : decode cX10_install 230 = .ok (.getfield 13, 3) := by decide +kernel
theorem dX10_install_233 : decode cX10_install 233 = .ok (.iload 8, 2) := by decide +kernel
theorem dX10_install_235 : decode cX10_install 235 = .ok (.iconst 0, 1) := by decide +kernel
theorem dX10_install_236 : decode cX10_install 236 = .ok (.iastore, 1) := by decide +kernel
theorem dX10_install_237 : decode cX10_install 237 = .ok (.iinc 8 1, 3) := by decide +kernel
theorem dX10_install_240 : decode cX10_install 240 = .ok (.goto (-19), 3) := by decide +kernel
theorem dX10_install_243 : decode cX10_install 243 = .ok (.iconst 0, 1) := by decide +kernel
theorem dX10_install_244 : decode cX10_install 244 = .ok (.istore 8, 2) := by decide +kernel
theorem dX10_install_246 : decode cX10_install 246 = .ok (.iload 8, 2) := by decide +kernel
theorem dX10_install_248 : decode cX10_install 248 = .ok (.iload 6, 2) := by decide +kernel
theorem dX10_install_250 : decode cX10_install 250 = .ok (.if_icmp .ge 40, 3) := by decide +kernel
theorem dX10_install_253 : decode cX10_install 253 = .ok (.aload_n 0, 1) := by decide +kernel
theorem dX10_install_254 : decode cX10_install 254 = .ok (.getfield 13, 3) := by decide +kernel
theorem dX10_install_257 : decode cX10_install 257 = .ok (.iload 8, 2) := by decide +kernel
theorem dX10_install_259 : decode cX10_install 259 = .ok (.iconst 4, 1) := by decide +kernel
theorem dX10_install_260 : decode cX10_install 260 = .ok (.idiv, 1) := by decide +kernel
theorem dX10_install_261 : decode cX10_install 261 = .ok (.dup2, 1) := by decide +kernel
theorem dX10_install_262 : decode cX10_install 262 = .ok (.iaload, 1) := by decide +kernel
theorem dX10_install_263 : decode cX10_install 263 = .ok (.aload_n 0, 1) := by decide +kernel
theorem dX10_install_264 : decode cX10_install 264 = .ok (.getfield 48, 3) := by decide +kernel
theorem dX10_install_267 : decode cX10_install 267 = .ok (.iload 8, 2) := by decide +kernel
theorem dX10_install_269 : decode cX10_install 269 = .ok (.baload, 1) := by decide +kernel
theorem dX10_install_270 : decode cX10_install 270 = .ok (.sipush 255, 3) := by decide +kernel
theorem dX10_install_273 : decode cX10_install 273 = .ok (.iand, 1) := by decide +kernel
theorem dX10_install_274 : decode cX10_install 274 = .ok (.bipush 8, 2) := by decide +kernel
theorem dX10_install_276 : decode cX10_install 276 = .ok (.iload 8, 2) := by decide +kernel
theorem dX10_install_278 : decode cX10_install 278 = .ok (.iconst 4, 1) := by decide +kernel
theorem dX10_install_279 : decode cX10_install 279 = .ok (.irem, 1) := by decide +kernel
theorem dX10_install_280 : decode cX10_install 280 = .ok (.imul, 1) := by decide +kernel
theorem dX10_install_281 : decode cX10_install 281 = .ok (.ishl, 1) := by decide +kernel
theorem dX10_install_282 : decode cX10_install 282 = .ok (.ior, 1) := by decide +kernel
theorem dX10_install_283 : decode cX10_install 283 = .ok (.iastore, 1) := by decide +kernel
theorem dX10_install_284 : decode cX10_install 284 = .ok (.iinc 8 1, 3) := by decide +kernel
theorem dX10_install_287 : decode cX10_install 287 = .ok (.goto (-41), 3) := by decide +kernel
theorem dX10_install_290 : decode cX10_install 290 = .ok (.iconst 0, 1) := by decide +kernel
theorem dX10_install_291 : decode cX10_install 291 = .ok (.istore 8, 2) := by decide +kernel
theorem dX10_install_293 : decode cX10_install 293 = .ok (.iload 8, 2) := by decide +kernel
theorem dX10_install_295 : decode cX10_install 295 = .ok (.aload_n 0, 1) := by decide +kernel
theorem dX10_install_296 : decode cX10_install 296 = .ok (.getfield 80, 3) := by decide +kernel
theorem dX10_install_299 : decode cX10_install 299 = .ok (.iconst 4, 1) := by decide +kernel
theorem dX10_install_300 : decode cX10_install 300 = .ok (.idiv, 1) := by decide +kernel
theorem dX10_install_301 : decode cX10_install 301 = .ok (.if_icmp .ge 28, 3) := by decide +kernel
theorem dX10_install_304 : decode cX10_install 304 = .ok (.aload_n 0, 1) := by decide +kernel
theorem dX10_install_305 : decode cX10_install 305 = .ok (.getfield 9, 3) := by decide +kernel
theorem dX10_install_308 : decode cX10_install 308 = .ok (.aload_n 0, 1) := by decide +kernel
theorem dX10_install_309 : decode cX10_install 309 = .ok (.getfield 95, 3) := by decide +kernel
theorem dX10_install_312 : decode cX10_install 312 = .ok (.iload 8, 2) := by decide +kernel
theorem dX10_install_314 : decode cX10_install 314 = .ok (.iadd, 1) := by decide +kernel
theorem dX10_install_315 : decode cX10_install 315 = .ok (.aload_n 0, 1) := by decide +kernel
theorem dX10_install_316 : decode cX10_install 316 = .ok (.getfield 13, 3) := by decide +kernel
theorem dX10_install_319 : decode cX10_install 319 = .ok (.iload 8, 2) := by decide +kernel
theorem dX10_install_321 : decode cX10_install 321 = .ok (.iaload, 1) := by decide +kernel
theorem dX10_install_322 : decode cX10_install 322 = .ok (.iastore, 1) := by decide +kernel
theorem dX10_install_323 : decode cX10_install 323 = .ok (.iinc 8 1, 3) := by decide +kernel
theorem dX10_install_326 : decode cX10_install 326 = .ok (.goto (-33), 3) := by decide +kernel
theorem dX10_install_329 : decode cX10_install 329 = .ok (.aload_n 0, 1) := by decide +kernel
theorem dX10_install_330 : decode cX10_install 330 = .ok (.getfield 9, 3) := by decide +kernel
theorem dX10_install_333 : decode cX10_install 333 = .ok (.bipush 35, 2) := by decide +kernel
theorem dX10_install_335 : decode cX10_install 335 = .ok (.iload 5, 2) := by decide +kernel
theorem dX10_install_337 : decode cX10_install 337 = .ok (.iastore, 1) := by decide +kernel
theorem dX10_install_338 : decode cX10_install 338 = .ok (.aload_n 0, 1) := by decide +kernel
theorem dX10_install_339 : decode cX10_install 339 = .ok (.getfield 24, 3) := by decide +kernel
theorem dX10_install_342 : decode cX10_install 342 = .ok (.aload_n 0, 1) := by decide +kernel
theorem dX10_install_343 : decode cX10_install 343 = .ok (.getfield 9, 3) := by decide +kernel
theorem dX10_install_346 : decode cX10_install 346 = .ok (.putfield 101, 3) := by decide +kernel
theorem dX10_install_349 : decode cX10_install 349 = .ok (.aload_n 0, 1) := by decide +kernel
theorem dX10_install_350 : decode cX10_install 350 = .ok (.getfield 24, 3) := by decide +kernel
theorem dX10_install_353 : decode cX10_install 353 = .ok (.aload_n 0, 1) := by decide +kernel
theorem dX10_install_354 : decode cX10_install 354 = .ok (.getfield 95, 3) := by decide +kernel
theorem dX10_install_357 : decode cX10_install 357 = .ok (.putfield 104, 3) := by decide +kernel
theorem dX10_install_360 : decode cX10_install 360 = .ok (.aload_n 0, 1) := by decide +kernel
theorem dX10_install_361 : decode cX10_install 361 = .ok (.getfield 24, 3) := by decide +kernel
theorem dX10_install_364 : decode cX10_install 364 = .ok (.aload_n 0, 1) := by decide +kernel
theorem dX10_install_365 : decode cX10_install 365 = .ok (.getfield 77, 3) := by decide +kernel
theorem dX10_install_368 : decode cX10_install 368 = .ok (.putfield 107, 3) := by decide +kernel
theorem dX10_install_371 : decode cX10_install 371 = .ok (.aload_n 0, 1) := by decide +kernel
theorem dX10_install_372 : decode cX10_install 372 = .ok (.getfield 24, 3) := by decide +kernel
theorem dX10_install_375 : decode cX10_install 375 = .ok (.aload_n 0, 1) := by decide +kernel
theorem dX10_install_376 : decode cX10_install 376 = .ok (.getfield 80, 3) := by decide +kernel
theorem dX10_install_379 : decode cX10_install 379 = .ok (.putfield 108, 3) := by decide +kernel
theorem dX10_install_382 : decode cX10_install 382 = .ok (.aload_n 0, 1) := by decide +kernel
theorem dX10_install_383 : decode cX10_install 383 = .ok (.getfield 24, 3) := by decide +kernel
theorem dX10_install_386 : decode cX10_install 386 = .ok (.iconst 0, 1) := by decide +kernel
theorem dX10_install_387 : decode cX10_install 387 = .ok (.putfield 109, 3) := by decide +kernel
theorem dX10_install_390 : decode cX10_install 390 = .ok (.aload_n 0, 1) := by decide +kernel
theorem dX10_install_391 : decode cX10_install 391 = .ok (.getfield 28, 3) := by decide +kernel
theorem dX10_install_394 : decode cX10_install 394 = .ok (.iconst 0, 1) := by decide +kernel
theorem dX10_install_395 : decode cX10_install 395 = .ok (.putfield 109, 3) := by decide +kernel
theorem dX10_install_398 : decode cX10_install 398 = .ok (.aload_n 0, 1) := by decide +kernel
theorem dX10_install_399 : decode cX10_install 399 = .ok (.getfield 37, 3) := by decide +kernel
theorem dX10_install_402 : decode cX10_install 402 = .ok (.iconst 0, 1) := by decide +kernel
theorem dX10_install_403 : decode cX10_install 403 = .ok (.putfield 112, 3) := by decide +kernel
theorem dX10_install_406 : decode cX10_install 406 = .ok (.aload_n 0, 1) := by decide +kernel
theorem dX10_install_407 : decode cX10_install 407 = .ok (.getfield 41, 3) := by decide +kernel
theorem dX10_install_410 : decode cX10_install 410 = .ok (.iconst 0, 1) := by decide +kernel
theorem dX10_install_411 : decode cX10_install 411 = .ok (.putfield 112, 3) := by decide +kernel
theorem dX10_install_414 : decode cX10_install 414 = .ok (.aload_n 0, 1) := by decide +kernel
theorem dX10_install_415 : decode cX10_install 415 = .ok (.iconst 0, 1) := by decide +kernel
theorem dX10_install_416 : decode cX10_install 416 = .ok (.putfield 115, 3) := by decide +kernel
theorem dX10_install_419 : decode cX10_install 419 = .ok (.aload_n 0, 1) := by decide +kernel
theorem dX10_install_420 : decode cX10_install 420 = .ok (.iconst 0, 1) := by decide +kernel
theorem dX10_install_421 : decode cX10_install 421 = .ok (.putfield 118, 3) := by decide +kernel
theorem dX10_install_424 : decode cX10_install 424 = .ok (.aload_n 0, 1) := by decide +kernel
theorem dX10_install_425 : decode cX10_install 425 = .ok (.iconst 0, 1) := by decide +kernel
theorem dX10_install_426 : decode cX10_install 426 = .ok (.putfield 121, 3) := by decide +kernel
theorem dX10_install_429 : decode cX10_install 429 = .ok (.aload_n 0, 1) := by decide +kernel
theorem dX10_install_430 : decode cX10_install 430 = .ok (.iconst 0, 1) := by decide +kernel
theorem dX10_install_431 : decode cX10_install 431 = .ok (.putfield 124, 3) := by decide +kernel
theorem dX10_install_434 : decode cX10_install 434 = .ok (.aload_n 0, 1) := by decide +kernel
theorem dX10_install_435 : decode cX10_install 435 = .ok (.iconst 0, 1) := by decide +kernel
theorem dX10_install_436 : decode cX10_install 436 = .ok (.putfield 127, 3) := by decide +kernel
theorem dX10_install_439 : decode cX10_install 439 = .ok (.aload_n 0, 1) := by decide +kernel
theorem dX10_install_440 : decode cX10_install 440 = .ok (.iconst 0, 1) := by decide +kernel
theorem dX10_install_441 : decode cX10_install 441 = .ok (.putfield 130, 3) := by decide +kernel
theorem dX10_install_444 : decode cX10_install 444 = .ok (.aload_n 0, 1) := by decide +kernel
theorem dX10_install_445 : decode cX10_install 445 = .ok (.iconst 0, 1) := by decide +kernel
theorem dX10_install_446 : decode cX10_install 446 = .ok (.putfield 133, 3) := by decide +kernel
theorem dX10_install_449 : decode cX10_install 449 = .ok (.aload_n 0, 1) := by decide +kernel
theorem dX10_install_450 : decode cX10_install 450 = .ok (.iconst 0, 1) := by decide +kernel
theorem dX10_install_451 : decode cX10_install 451 = .ok (.putfield 136, 3) := by decide +kernel
theorem dX10_install_454 : decode cX10_install 454 = .ok (.aload_n 0, 1) := by decide +kernel
theorem dX10_install_455 : decode cX10_install 455 = .ok (.iconst 0, 1) := by decide +kernel
theorem dX10_install_456 : decode cX10_install 456 = .ok (.putfield 139, 3) := by decide +kernel
theorem dX10_install_459 : decode cX10_install 459 = .ok (.aload_n 0, 1) := by decide +kernel
theorem dX10_install_460 : decode cX10_install 460 = .ok (.iconst 0, 1) := by decide +kernel
theorem dX10_install_461 : decode cX10_install 461 = .ok (.putfield 142, 3) := by decide +kernel
theorem dX10_install_464 : decode cX10_install 464 = .ok (.iconst 0, 1) := by decide +kernel
theorem dX10_install_465 : decode cX10_install 465 = .ok (.ireturn, 1) := by decide +kernel
theorem dX10_sample_0 : decode cX10_sample 0 = .ok (.aload_n 0, 1) := by decide +kernel
theorem dX10_sample_1 : decode cX10_sample 1 = .ok (.getfield 64, 3) := by decide +kernel
theorem dX10_sample_4 : decode cX10_sample 4 = .ok (.ifCond .eq 23, 3) := by decide +kernel
theorem dX10_sample_7 : decode cX10_sample 7 = .ok (.aload_n 0, 1) := by decide +kernel
theorem dX10_sample_8 : decode cX10_sample 8 = .ok (.getfield 68, 3) := by decide +kernel
theorem dX10_sample_11 : decode cX10_sample 11 = .ok (.ifCond .ne 16, 3) := by decide +kernel
theorem dX10_sample_14 : decode cX10_sample 14 = .ok (.aload_n 0, 1) := by decide +kernel
theorem dX10_sample_15 : decode cX10_sample 15 = .ok (.getfield 24, 3) := by decide +kernel
theorem dX10_sample_18 : decode cX10_sample 18 = .ok (.getfield 109, 3) := by decide +kernel
theorem dX10_sample_21 : decode cX10_sample 21 = .ok (.sipush 1000, 3) := by decide +kernel
theorem dX10_sample_24 : decode cX10_sample 24 = .ok (.if_icmp .ne 5, 3) := by decide +kernel
theorem dX10_sample_27 : decode cX10_sample 27 = .ok (.iconst (-1), 1) := by decide +kernel
theorem dX10_sample_28 : decode cX10_sample 28 = .ok (.ireturn, 1) := by decide +kernel
theorem dX10_sample_29 : decode cX10_sample 29 = .ok (.aload_n 0, 1) := by decide +kernel
theorem dX10_sample_30 : decode cX10_sample 30 = .ok (.getfield 16, 3) := by decide +kernel
theorem dX10_sample_33 : decode cX10_sample 33 = .ok (.aload_n 0, 1) := by decide +kernel
theorem dX10_sample_34 : decode cX10_sample 34 = .ok (.getfield 24, 3) := by decide +kernel
theorem dX10_sample_37 : decode cX10_sample 37 = .ok (.getfield 109, 3) := by decide +kernel
theorem dX10_sample_40 : decode cX10_sample 40 = .ok (.iload_n 1, 1) := by decide +kernel
theorem dX10_sample_41 : decode cX10_sample 41 = .ok (.iastore, 1) := by decide +kernel
theorem dX10_sample_42 : decode cX10_sample 42 = .ok (.aload_n 0, 1) := by decide +kernel
theorem dX10_sample_43 : decode cX10_sample 43 = .ok (.getfield 24, 3) := by decide +kernel
theorem dX10_sample_46 : decode cX10_sample 46 = .ok (.dup, 1) := by decide +kernel
theorem dX10_sample_47 : decode cX10_sample 47 = .ok (.getfield 109, 3) := by decide +kernel
theorem dX10_sample_50 : decode cX10_sample 50 = .ok (.iconst 1, 1) := by decide +kernel
theorem dX10_sample_51 : decode cX10_sample 51 = .ok (.iadd, 1) := by decide +kernel
theorem dX10_sample_52 : decode cX10_sample 52 = .ok (.putfield 109, 3) := by decide +kernel
theorem dX10_sample_55 : decode cX10_sample 55 = .ok (.aload_n 0, 1) := by decide +kernel
theorem dX10_sample_56 : decode cX10_sample 56 = .ok (.getfield 28, 3) := by decide +kernel
theorem dX10_sample_59 : decode cX10_sample 59 = .ok (.aload_n 0, 1) := by decide +kernel
theorem dX10_sample_60 : decode cX10_sample 60 = .ok (.getfield 24, 3) := by decide +kernel
theorem dX10_sample_63 : decode cX10_sample 63 = .ok (.getfield 109, 3) := by decide +kernel
theorem dX10_sample_66 : decode cX10_sample 66 = .ok (.putfield 109, 3) := by decide +kernel
theorem dX10_sample_69 : decode cX10_sample 69 = .ok (.aload_n 0, 1) := by decide +kernel
theorem dX10_sample_70 : decode cX10_sample 70 = .ok (.getfield 24, 3) := by decide +kernel
theorem dX10_sample_73 : decode cX10_sample 73 = .ok (.getfield 109, 3) := by decide +kernel
theorem dX10_sample_76 : decode cX10_sample 76 = .ok (.ireturn, 1) := by decide +kernel
theorem dX10_generation_0 : decode cX10_generation 0 = .ok (.aload_n 0, 1) := by decide +kernel
theorem dX10_generation_1 : decode cX10_generation 1 = .ok (.getfield 9, 3) := by decide +kernel
theorem dX10_generation_4 : decode cX10_generation 4 = .ok (.iconst 0, 1) := by decide +kernel
theorem dX10_generation_5 : decode cX10_generation 5 = .ok (.iaload, 1) := by decide +kernel
theorem dX10_generation_6 : decode cX10_generation 6 = .ok (.ireturn, 1) := by decide +kernel
theorem dX10_bufferAt_0 : decode cX10_bufferAt 0 = .ok (.iconst 3, 1) := by decide +kernel
theorem dX10_bufferAt_1 : decode cX10_bufferAt 1 = .ok (.iload_n 1, 1) := by decide +kernel
theorem dX10_bufferAt_2 : decode cX10_bufferAt 2 = .ok (.iconst 1, 1) := by decide +kernel
theorem dX10_bufferAt_3 : decode cX10_bufferAt 3 = .ok (.iand, 1) := by decide +kernel
theorem dX10_bufferAt_4 : decode cX10_bufferAt 4 = .ok (.bipush 36, 2) := by decide +kernel
theorem dX10_bufferAt_6 : decode cX10_bufferAt 6 = .ok (.aload_n 0, 1) := by decide +kernel
theorem dX10_bufferAt_7 : decode cX10_bufferAt 7 = .ok (.getfield 77, 3) := by decide +kernel
theorem dX10_bufferAt_10 : decode cX10_bufferAt 10 = .ok (.iconst 4, 1) := by decide +kernel
theorem dX10_bufferAt_11 : decode cX10_bufferAt 11 = .ok (.idiv, 1) := by decide +kernel
theorem dX10_bufferAt_12 : decode cX10_bufferAt 12 = .ok (.iadd, 1) := by decide +kernel
theorem dX10_bufferAt_13 : decode cX10_bufferAt 13 = .ok (.imul, 1) := by decide +kernel
theorem dX10_bufferAt_14 : decode cX10_bufferAt 14 = .ok (.iadd, 1) := by decide +kernel
theorem dX10_bufferAt_15 : decode cX10_bufferAt 15 = .ok (.ireturn, 1) := by decide +kernel
theorem dX10_counting_0 : decode cX10_counting 0 = .ok (.aload_n 0, 1) := by decide +kernel
theorem dX10_counting_1 : decode cX10_counting 1 = .ok (.getfield 9, 3) := by decide +kernel
theorem dX10_counting_4 : decode cX10_counting 4 = .ok (.iconst 1, 1) := by decide +kernel
theorem dX10_counting_5 : decode cX10_counting 5 = .ok (.iaload, 1) := by decide +kernel
theorem dX10_counting_6 : decode cX10_counting 6 = .ok (.ldc 145, 2) := by decide +kernel
theorem dX10_counting_8 : decode cX10_counting 8 = .ok (.iand, 1) := by decide +kernel
theorem dX10_counting_9 : decode cX10_counting 9 = .ok (.ireturn, 1) := by decide +kernel
theorem dX10_on_0 : decode cX10_on 0 = .ok (.aload_n 0, 1) := by decide +kernel
theorem dX10_on_1 : decode cX10_on 1 = .ok (.getfield 64, 3) := by decide +kernel
theorem dX10_on_4 : decode cX10_on 4 = .ok (.ifCond .eq 10, 3) := by decide +kernel
theorem dX10_on_7 : decode cX10_on 7 = .ok (.aload_n 0, 1) := by decide +kernel
theorem dX10_on_8 : decode cX10_on 8 = .ok (.getfield 71, 3) := by decide +kernel
theorem dX10_on_11 : decode cX10_on 11 = .ok (.ifCond .eq 5, 3) := by decide +kernel
theorem dX10_on_14 : decode cX10_on 14 = .ok (.iconst 0, 1) := by decide +kernel
theorem dX10_on_15 : decode cX10_on 15 = .ok (.ireturn, 1) := by decide +kernel
theorem dX10_on_16 : decode cX10_on 16 = .ok (.aload_n 0, 1) := by decide +kernel
theorem dX10_on_17 : decode cX10_on 17 = .ok (.iconst 1, 1) := by decide +kernel
theorem dX10_on_18 : decode cX10_on 18 = .ok (.putfield 71, 3) := by decide +kernel
theorem dX10_on_21 : decode cX10_on 21 = .ok (.aload_n 0, 1) := by decide +kernel
theorem dX10_on_22 : decode cX10_on 22 = .ok (.iconst 1, 1) := by decide +kernel
theorem dX10_on_23 : decode cX10_on 23 = .ok (.putfield 68, 3) := by decide +kernel
theorem dX10_on_26 : decode cX10_on 26 = .ok (.aload_n 0, 1) := by decide +kernel
theorem dX10_on_27 : decode cX10_on 27 = .ok (.iconst 0, 1) := by decide +kernel
theorem dX10_on_28 : decode cX10_on 28 = .ok (.putfield 118, 3) := by decide +kernel
theorem dX10_on_31 : decode cX10_on 31 = .ok (.aload_n 0, 1) := by decide +kernel
theorem dX10_on_32 : decode cX10_on 32 = .ok (.iconst 0, 1) := by decide +kernel
theorem dX10_on_33 : decode cX10_on 33 = .ok (.putfield 115, 3) := by decide +kernel
theorem dX10_on_36 : decode cX10_on 36 = .ok (.aload_n 0, 1) := by decide +kernel
theorem dX10_on_37 : decode cX10_on 37 = .ok (.aload_n 0, 1) := by decide +kernel
theorem dX10_on_38 : decode cX10_on 38 = .ok (.invokevirtual 146, 3) := by decide +kernel
theorem dX10_on_41 : decode cX10_on 41 = .ok (.invokevirtual 150, 3) := by decide +kernel
theorem dX10_on_44 : decode cX10_on 44 = .ok (.istore_n 1, 1) := by decide +kernel
theorem dX10_on_45 : decode cX10_on 45 = .ok (.iconst 0, 1) := by decide +kernel
theorem dX10_on_46 : decode cX10_on 46 = .ok (.istore_n 2, 1) := by decide +kernel
theorem dX10_on_47 : decode cX10_on 47 = .ok (.iload_n 2, 1) := by decide +kernel
theorem dX10_on_48 : decode cX10_on 48 = .ok (.bipush 32, 2) := by decide +kernel
theorem dX10_on_50 : decode cX10_on 50 = .ok (.if_icmp .ge 26, 3) := by decide +kernel
theorem dX10_on_53 : decode cX10_on 53 = .ok (.aload_n 0, 1) := by decide +kernel
theorem dX10_on_54 : decode cX10_on 54 = .ok (.getfield 24, 3) := by decide +kernel
theorem dX10_on_57 : decode cX10_on 57 = .ok (.getfield 154, 3) := by decide +kernel
theorem dX10_on_60 : decode cX10_on 60 = .ok (.iload_n 2, 1) := by decide +kernel
theorem dX10_on_61 : decode cX10_on 61 = .ok (.aload_n 0, 1) := by decide +kernel
theorem dX10_on_62 : decode cX10_on 62 = .ok (.getfield 9, 3) := by decide +kernel
theorem dX10_on_65 : decode cX10_on 65 = .ok (.iload_n 1, 1) := by decide +kernel
theorem dX10_on_66 : decode cX10_on 66 = .ok (.iload_n 2, 1) := by decide +kernel
theorem dX10_on_67 : decode cX10_on 67 = .ok (.iadd, 1) := by decide +kernel
theorem dX10_on_68 : decode cX10_on 68 = .ok (.iaload, 1) := by decide +kernel
theorem dX10_on_69 : decode cX10_on 69 = .ok (.iastore, 1) := by decide +kernel
theorem dX10_on_70 : decode cX10_on 70 = .ok (.iinc 2 1, 3) := by decide +kernel
theorem dX10_on_73 : decode cX10_on 73 = .ok (.goto (-26), 3) := by decide +kernel
theorem dX10_on_76 : decode cX10_on 76 = .ok (.aload_n 0, 1) := by decide +kernel
theorem dX10_on_77 : decode cX10_on 77 = .ok (.getfield 24, 3) := by decide +kernel
theorem dX10_on_80 : decode cX10_on 80 = .ok (.aload_n 0, 1) := by decide +kernel
theorem dX10_on_81 : decode cX10_on 81 = .ok (.getfield 9, 3) := by decide +kernel
theorem dX10_on_84 : decode cX10_on 84 = .ok (.iload_n 1, 1) := by decide +kernel
theorem dX10_on_85 : decode cX10_on 85 = .ok (.bipush 32, 2) := by decide +kernel
theorem dX10_on_87 : decode cX10_on 87 = .ok (.iadd, 1) := by decide +kernel
theorem dX10_on_88 : decode cX10_on 88 = .ok (.iaload, 1) := by decide +kernel
theorem dX10_on_89 : decode cX10_on 89 = .ok (.putfield 157, 3) := by decide +kernel
theorem dX10_on_92 : decode cX10_on 92 = .ok (.aload_n 0, 1) := by decide +kernel
theorem dX10_on_93 : decode cX10_on 93 = .ok (.getfield 24, 3) := by decide +kernel
theorem dX10_on_96 : decode cX10_on 96 = .ok (.aload_n 0, 1) := by decide +kernel
theorem dX10_on_97 : decode cX10_on 97 = .ok (.getfield 9, 3) := by decide +kernel
theorem dX10_on_100 : decode cX10_on 100 = .ok (.iload_n 1, 1) := by decide +kernel
theorem dX10_on_101 : decode cX10_on 101 = .ok (.bipush 33, 2) := by decide +kernel
theorem dX10_on_103 : decode cX10_on 103 = .ok (.iadd, 1) := by decide +kernel
theorem dX10_on_104 : decode cX10_on 104 = .ok (.iaload, 1) := by decide +kernel
theorem dX10_on_105 : decode cX10_on 105 = .ok (.putfield 160, 3) := by decide +kernel
theorem dX10_on_108 : decode cX10_on 108 = .ok (.aload_n 0, 1) := by decide +kernel
theorem dX10_on_109 : decode cX10_on 109 = .ok (.getfield 24, 3) := by decide +kernel
theorem dX10_on_112 : decode cX10_on 112 = .ok (.aload_n 0, 1) := by decide +kernel
theorem dX10_on_113 : decode cX10_on 113 = .ok (.getfield 9, 3) := by decide +kernel
theorem dX10_on_116 : decode cX10_on 116 = .ok (.iload_n 1, 1) := by decide +kernel
theorem dX10_on_117 : decode cX10_on 117 = .ok (.bipush 34, 2) := by decide +kernel
theorem dX10_on_119 : decode cX10_on 119 = .ok (.iadd, 1) := by decide +kernel
theorem dX10_on_120 : decode cX10_on 120 = .ok (.iaload, 1) := by decide +kernel
theorem dX10_on_121 : decode cX10_on 121 = .ok (.putfield 163, 3) := by decide +kernel
theorem dX10_on_124 : decode cX10_on 124 = .ok (.aload_n 0, 1) := by decide +kernel
theorem dX10_on_125 : decode cX10_on 125 = .ok (.getfield 24, 3) := by decide +kernel
theorem dX10_on_128 : decode cX10_on 128 = .ok (.aload_n 0, 1) := by decide +kernel
theorem dX10_on_129 : decode cX10_on 129 = .ok (.getfield 9, 3) := by decide +kernel
theorem dX10_on_132 : decode cX10_on 132 = .ok (.iload_n 1, 1) := by decide +kernel
theorem dX10_on_133 : decode cX10_on 133 = .ok (.bipush 35, 2) := by decide +kernel
theorem dX10_on_135 : decode cX10_on 135 = .ok (.iadd, 1) := by decide +kernel
theorem dX10_on_136 : decode cX10_on 136 = .ok (.iaload, 1) := by decide +kernel
theorem dX10_on_137 : decode cX10_on 137 = .ok (.putfield 166, 3) := by decide +kernel
theorem dX10_on_140 : decode cX10_on 140 = .ok (.iconst 0, 1) := by decide +kernel
theorem dX10_on_141 : decode cX10_on 141 = .ok (.istore_n 2, 1) := by decide +kernel
theorem dX10_on_142 : decode cX10_on 142 = .ok (.iload_n 2, 1) := by decide +kernel
theorem dX10_on_143 : decode cX10_on 143 = .ok (.aload_n 0, 1) := by decide +kernel
theorem dX10_on_144 : decode cX10_on 144 = .ok (.getfield 77, 3) := by decide +kernel
theorem dX10_on_147 : decode cX10_on 147 = .ok (.iconst 4, 1) := by decide +kernel
theorem dX10_on_148 : decode cX10_on 148 = .ok (.idiv, 1) := by decide +kernel
theorem dX10_on_149 : decode cX10_on 149 = .ok (.if_icmp .ge 29, 3) := by decide +kernel
theorem dX10_on_152 : decode cX10_on 152 = .ok (.aload_n 0, 1) := by decide +kernel
theorem dX10_on_153 : decode cX10_on 153 = .ok (.getfield 24, 3) := by decide +kernel
theorem dX10_on_156 : decode cX10_on 156 = .ok (.getfield 167, 3) := by decide +kernel
theorem dX10_on_159 : decode cX10_on 159 = .ok (.iload_n 2, 1) := by decide +kernel
theorem dX10_on_160 : decode cX10_on 160 = .ok (.aload_n 0, 1) := by decide +kernel
theorem dX10_on_161 : decode cX10_on 161 = .ok (.getfield 9, 3) := by decide +kernel
theorem dX10_on_164 : decode cX10_on 164 = .ok (.iload_n 1, 1) := by decide +kernel
theorem dX10_on_165 : decode cX10_on 165 = .ok (.bipush 36, 2) := by decide +kernel
theorem dX10_on_167 : decode cX10_on 167 = .ok (.iadd, 1) := by decide +kernel
theorem dX10_on_168 : decode cX10_on 168 = .ok (.iload_n 2, 1) := by decide +kernel
theorem dX10_on_169 : decode cX10_on 169 = .ok (.iadd, 1) := by decide +kernel
theorem dX10_on_170 : decode cX10_on 170 = .ok (.iaload, 1) := by decide +kernel
theorem dX10_on_171 : decode cX10_on 171 = .ok (.iastore, 1) := by decide +kernel
theorem dX10_on_172 : decode cX10_on 172 = .ok (.iinc 2 1, 3) := by decide +kernel
theorem dX10_on_175 : decode cX10_on 175 = .ok (.goto (-33), 3) := by decide +kernel
theorem dX10_on_178 : decode cX10_on 178 = .ok (.aload_n 0, 1) := by decide +kernel
theorem dX10_on_179 : decode cX10_on 179 = .ok (.invokevirtual 170, 3) := by decide +kernel
theorem dX10_on_182 : decode cX10_on 182 = .ok (.aload_n 0, 1) := by decide +kernel
theorem dX10_on_183 : decode cX10_on 183 = .ok (.getfield 9, 3) := by decide +kernel
theorem dX10_on_186 : decode cX10_on 186 = .ok (.iconst 1, 1) := by decide +kernel
theorem dX10_on_187 : decode cX10_on 187 = .ok (.iaload, 1) := by decide +kernel
theorem dX10_on_188 : decode cX10_on 188 = .ok (.bipush 16, 2) := by decide +kernel
theorem dX10_on_190 : decode cX10_on 190 = .ok (.iushr, 1) := by decide +kernel
theorem dX10_on_191 : decode cX10_on 191 = .ok (.istore_n 2, 1) := by decide +kernel
theorem dX10_on_192 : decode cX10_on 192 = .ok (.iload_n 2, 1) := by decide +kernel
theorem dX10_on_193 : decode cX10_on 193 = .ok (.aload_n 0, 1) := by decide +kernel
theorem dX10_on_194 : decode cX10_on 194 = .ok (.invokevirtual 146, 3) := by decide +kernel
theorem dX10_on_197 : decode cX10_on 197 = .ok (.if_icmp .eq 27, 3) := by decide +kernel
theorem dX10_on_200 : decode cX10_on 200 = .ok (.iload_n 2, 1) := by decide +kernel
theorem dX10_on_201 : decode cX10_on 201 = .ok (.aload_n 0, 1) := by decide +kernel
theorem dX10_on_202 : decode cX10_on 202 = .ok (.invokevirtual 146, 3) := by decide +kernel
theorem dX10_on_205 : decode cX10_on 205 = .ok (.ldc 145, 2) := by decide +kernel
theorem dX10_on_207 : decode cX10_on 207 = .ok (.iadd, 1) := by decide +kernel
theorem dX10_on_208 : decode cX10_on 208 = .ok (.ldc 145, 2) := by decide +kernel
theorem dX10_on_210 : decode cX10_on 210 = .ok (.iand, 1) := by decide +kernel
theorem dX10_on_211 : decode cX10_on 211 = .ok (.if_icmp .eq 13, 3) := by decide +kernel
theorem dX10_on_214 : decode cX10_on 214 = .ok (.aload_n 0, 1) := by decide +kernel
theorem dX10_on_215 : decode cX10_on 215 = .ok (.dup, 1) := by decide +kernel
theorem dX10_on_216 : decode cX10_on 216 = .ok (.getfield 173, 3) := by decide +kernel
theorem dX10_on_219 : decode cX10_on 219 = .ok (.iconst 1, 1) := by decide +kernel
theorem dX10_on_220 : decode cX10_on 220 = .ok (.iadd, 1) := by decide +kernel
theorem dX10_on_221 : decode cX10_on 221 = .ok (.putfield 173, 3) := by decide +kernel
theorem dX10_on_224 : decode cX10_on 224 = .ok (.aload_n 0, 1) := by decide +kernel
theorem dX10_on_225 : decode cX10_on 225 = .ok (.iload_n 2, 1) := by decide +kernel
theorem dX10_on_226 : decode cX10_on 226 = .ok (.aload_n 0, 1) := by decide +kernel
theorem dX10_on_227 : decode cX10_on 227 = .ok (.invokevirtual 146, 3) := by decide +kernel
theorem dX10_on_230 : decode cX10_on 230 = .ok (.if_icmp .ne 10, 3) := by decide +kernel
theorem dX10_on_233 : decode cX10_on 233 = .ok (.aload_n 0, 1) := by decide +kernel
theorem dX10_on_234 : decode cX10_on 234 = .ok (.invokevirtual 176, 3) := by decide +kernel
theorem dX10_on_237 : decode cX10_on 237 = .ok (.goto 4, 3) := by decide +kernel
theorem dX10_on_240 : decode cX10_on 240 = .ok (.iconst (-1), 1) := by decide +kernel
theorem dX10_on_241 : decode cX10_on 241 = .ok (.putfield 179, 3) := by decide +kernel
theorem dX10_on_244 : decode cX10_on 244 = .ok (.aload_n 0, 1) := by decide +kernel
theorem dX10_on_245 : decode cX10_on 245 = .ok (.aload_n 0, 1) := by decide +kernel
theorem dX10_on_246 : decode cX10_on 246 = .ok (.getfield 179, 3) := by decide +kernel
theorem dX10_on_249 : decode cX10_on 249 = .ok (.ifCond .ne 7, 3) := by decide +kernel
theorem dX10_on_252 : decode cX10_on 252 = .ok (.iconst 0, 1) := by decide +kernel
theorem dX10_on_253 : decode cX10_on 253 = .ok (.goto 4, 3) := by decide +kernel
theorem dX10_on_256 : decode cX10_on 256 = .ok (.iconst 1, 1) := by decide +kernel
theorem dX10_on_257 : decode cX10_on 257 = .ok (.putfield 121, 3) := by decide +kernel
theorem dX10_on_260 : decode cX10_on 260 = .ok (.iconst 1, 1) := by decide +kernel
theorem dX10_on_261 : decode cX10_on 261 = .ok (.ireturn, 1) := by decide +kernel
theorem dX10_forgetEntries_0 : decode cX10_forgetEntries 0 = .ok (.iconst 0, 1) := by decide +kernel
theorem dX10_forgetEntries_1 : decode cX10_forgetEntries 1 = .ok (.istore_n 1, 1) := by decide +kernel
theorem dX10_forgetEntries_2 : decode cX10_forgetEntries 2 = .ok (.iload_n 1, 1) := by decide +kernel
theorem dX10_forgetEntries_3 : decode cX10_forgetEntries 3 = .ok (.sipush 2048, 3) := by decide +kernel
theorem dX10_forgetEntries_6 : decode cX10_forgetEntries 6 = .ok (.if_icmp .ge 16, 3) := by decide +kernel
theorem dX10_forgetEntries_9 : decode cX10_forgetEntries 9 = .ok (.aload_n 0, 1) := by decide +kernel
theorem dX10_forgetEntries_10 : decode cX10_forgetEntries 10 = .ok (.getfield 44, 3) := by decide +kernel
theorem dX10_forgetEntries_13 : decode cX10_forgetEntries 13 = .ok (.iload_n 1, 1) := by decide +kernel
theorem dX10_forgetEntries_14 : decode cX10_forgetEntries 14 = .ok (.iconst 0, 1) := by decide +kernel
theorem dX10_forgetEntries_15 : decode cX10_forgetEntries 15 = .ok (.bastore, 1) := by decide +kernel
theorem dX10_forgetEntries_16 : decode cX10_forgetEntries 16 = .ok (.iinc 1 1, 3) := by decide +kernel
theorem dX10_forgetEntries_19 : decode cX10_forgetEntries 19 = .ok (.goto (-17), 3) := by decide +kernel
theorem dX10_forgetEntries_22 : decode cX10_forgetEntries 22 = .ok (.return_, 1) := by decide +kernel
theorem dX10_cut_0 : decode cX10_cut 0 = .ok (.aload_n 0, 1) := by decide +kernel
theorem dX10_cut_1 : decode cX10_cut 1 = .ok (.getfield 71, 3) := by decide +kernel
theorem dX10_cut_4 : decode cX10_cut 4 = .ok (.ifCond .ne 5, 3) := by decide +kernel
theorem dX10_cut_7 : decode cX10_cut 7 = .ok (.iconst 0, 1) := by decide +kernel
theorem dX10_cut_8 : decode cX10_cut 8 = .ok (.ireturn, 1) := by decide +kernel
theorem dX10_cut_9 : decode cX10_cut 9 = .ok (.aload_n 0, 1) := by decide +kernel
theorem dX10_cut_10 : decode cX10_cut 10 = .ok (.iconst 0, 1) := by decide +kernel
theorem dX10_cut_11 : decode cX10_cut 11 = .ok (.putfield 71, 3) := by decide +kernel
theorem dX10_cut_14 : decode cX10_cut 14 = .ok (.aload_n 0, 1) := by decide +kernel
theorem dX10_cut_15 : decode cX10_cut 15 = .ok (.dup, 1) := by decide +kernel
theorem dX10_cut_16 : decode cX10_cut 16 = .ok (.getfield 139, 3) := by decide +kernel
theorem dX10_cut_19 : decode cX10_cut 19 = .ok (.iconst 1, 1) := by decide +kernel
theorem dX10_cut_20 : decode cX10_cut 20 = .ok (.iadd, 1) := by decide +kernel
theorem dX10_cut_21 : decode cX10_cut 21 = .ok (.putfield 139, 3) := by decide +kernel
theorem dX10_cut_24 : decode cX10_cut 24 = .ok (.aload_n 0, 1) := by decide +kernel
theorem dX10_cut_25 : decode cX10_cut 25 = .ok (.dup, 1) := by decide +kernel
theorem dX10_cut_26 : decode cX10_cut 26 = .ok (.getfield 130, 3) := by decide +kernel
theorem dX10_cut_29 : decode cX10_cut 29 = .ok (.aload_n 0, 1) := by decide +kernel
theorem dX10_cut_30 : decode cX10_cut 30 = .ok (.getfield 115, 3) := by decide +kernel
theorem dX10_cut_33 : decode cX10_cut 33 = .ok (.iadd, 1) := by decide +kernel
theorem dX10_cut_34 : decode cX10_cut 34 = .ok (.putfield 130, 3) := by decide +kernel
theorem dX10_cut_37 : decode cX10_cut 37 = .ok (.aload_n 0, 1) := by decide +kernel
theorem dX10_cut_38 : decode cX10_cut 38 = .ok (.iconst 0, 1) := by decide +kernel
theorem dX10_cut_39 : decode cX10_cut 39 = .ok (.putfield 115, 3) := by decide +kernel
theorem dX10_cut_42 : decode cX10_cut 42 = .ok (.aload_n 0, 1) := by decide +kernel
theorem dX10_cut_43 : decode cX10_cut 43 = .ok (.iconst 0, 1) := by decide +kernel
theorem dX10_cut_44 : decode cX10_cut 44 = .ok (.putfield 118, 3) := by decide +kernel
theorem dX10_cut_47 : decode cX10_cut 47 = .ok (.aload_n 0, 1) := by decide +kernel
theorem dX10_cut_48 : decode cX10_cut 48 = .ok (.iconst 0, 1) := by decide +kernel
theorem dX10_cut_49 : decode cX10_cut 49 = .ok (.putfield 121, 3) := by decide +kernel
theorem dX10_cut_52 : decode cX10_cut 52 = .ok (.iconst 1, 1) := by decide +kernel
theorem dX10_cut_53 : decode cX10_cut 53 = .ok (.ireturn, 1) := by decide +kernel
theorem dX10_go_0 : decode cX10_go 0 = .ok (.iload_n 1, 1) := by decide +kernel
theorem dX10_go_1 : decode cX10_go 1 = .ok (.ifCond .lt 10, 3) := by decide +kernel
theorem dX10_go_4 : decode cX10_go 4 = .ok (.iload_n 1, 1) := by decide +kernel
theorem dX10_go_5 : decode cX10_go 5 = .ok (.sipush 20000, 3) := by decide +kernel
theorem dX10_go_8 : decode cX10_go 8 = .ok (.if_icmp .le 5, 3) := by decide +kernel
theorem dX10_go_11 : decode cX10_go 11 = .ok (.iconst (-1), 1) := by decide +kernel
theorem dX10_go_12 : decode cX10_go 12 = .ok (.ireturn, 1) := by decide +kernel
theorem dX10_go_13 : decode cX10_go 13 = .ok (.iconst 0, 1) := by decide +kernel
theorem dX10_go_14 : decode cX10_go 14 = .ok (.istore_n 2, 1) := by decide +kernel
theorem dX10_go_15 : decode cX10_go 15 = .ok (.iload_n 2, 1) := by decide +kernel
theorem dX10_go_16 : decode cX10_go 16 = .ok (.iload_n 1, 1) := by decide +kernel
theorem dX10_go_17 : decode cX10_go 17 = .ok (.if_icmp .ge 37, 3) := by decide +kernel
theorem dX10_go_20 : decode cX10_go 20 = .ok (.aload_n 0, 1) := by decide +kernel
theorem dX10_go_21 : decode cX10_go 21 = .ok (.getfield 71, 3) := by decide +kernel
theorem dX10_go_24 : decode cX10_go 24 = .ok (.ifCond .eq 30, 3) := by decide +kernel
theorem dX10_go_27 : decode cX10_go 27 = .ok (.aload_n 0, 1) := by decide +kernel
theorem dX10_go_28 : decode cX10_go 28 = .ok (.getfield 118, 3) := by decide +kernel
theorem dX10_go_31 : decode cX10_go 31 = .ok (.ifCond .ne 23, 3) := by decide +kernel
theorem dX10_go_34 : decode cX10_go 34 = .ok (.aload_n 0, 1) := by decide +kernel
theorem dX10_go_35 : decode cX10_go 35 = .ok (.invokevirtual 182, 3) := by decide +kernel
theorem dX10_go_38 : decode cX10_go 38 = .ok (.aload_n 0, 1) := by decide +kernel
theorem dX10_go_39 : decode cX10_go 39 = .ok (.dup, 1) := by decide +kernel
theorem dX10_go_40 : decode cX10_go 40 = .ok (.getfield 124, 3) := by decide +kernel
theorem dX10_go_43 : decode cX10_go 43 = .ok (.iconst 1, 1) := by decide +kernel
theorem dX10_go_44 : decode cX10_go 44 = .ok (.iadd, 1) := by decide +kernel
theorem dX10_go_45 : decode cX10_go 45 = .ok (.putfield 124, 3) := by decide +kernel
theorem dX10_go_48 : decode cX10_go 48 = .ok (.iinc 2 1, 3) := by decide +kernel
theorem dX10_go_51 : decode cX10_go 51 = .ok (.goto (-36), 3) := by decide +kernel
theorem dX10_go_54 : decode cX10_go 54 = .ok (.iload_n 2, 1) := by decide +kernel
theorem dX10_go_55 : decode cX10_go 55 = .ok (.ireturn, 1) := by decide +kernel
theorem dX10_write_0 : decode cX10_write 0 = .ok (.aload_n 0, 1) := by decide +kernel
theorem dX10_write_1 : decode cX10_write 1 = .ok (.getfield 9, 3) := by decide +kernel
theorem dX10_write_4 : decode cX10_write 4 = .ok (.iload_n 1, 1) := by decide +kernel
theorem dX10_write_5 : decode cX10_write 5 = .ok (.iload_n 2, 1) := by decide +kernel
theorem dX10_write_6 : decode cX10_write 6 = .ok (.iastore, 1) := by decide +kernel
theorem dX10_write_7 : decode cX10_write 7 = .ok (.aload_n 0, 1) := by decide +kernel
theorem dX10_write_8 : decode cX10_write 8 = .ok (.dup, 1) := by decide +kernel
theorem dX10_write_9 : decode cX10_write 9 = .ok (.getfield 127, 3) := by decide +kernel
theorem dX10_write_12 : decode cX10_write 12 = .ok (.iconst 1, 1) := by decide +kernel
theorem dX10_write_13 : decode cX10_write 13 = .ok (.iadd, 1) := by decide +kernel
theorem dX10_write_14 : decode cX10_write 14 = .ok (.putfield 127, 3) := by decide +kernel
theorem dX10_write_17 : decode cX10_write 17 = .ok (.return_, 1) := by decide +kernel
theorem dX10_act_0 : decode cX10_act 0 = .ok (.aload_n 0, 1) := by decide +kernel
theorem dX10_act_1 : decode cX10_act 1 = .ok (.getfield 121, 3) := by decide +kernel
theorem dX10_act_4 : decode cX10_act 4 = .ok (.tableswitch 60 1 4 #[32, 39, 46, 53], 32) := by decide +kernel
theorem dX10_act_36 : decode cX10_act 36 = .ok (.aload_n 0, 1) := by decide +kernel
theorem dX10_act_37 : decode cX10_act 37 = .ok (.invokevirtual 185, 3) := by decide +kernel
theorem dX10_act_40 : decode cX10_act 40 = .ok (.goto 28, 3) := by decide +kernel
theorem dX10_act_43 : decode cX10_act 43 = .ok (.aload_n 0, 1) := by decide +kernel
theorem dX10_act_44 : decode cX10_act 44 = .ok (.invokevirtual 188, 3) := by decide +kernel
theorem dX10_act_47 : decode cX10_act 47 = .ok (.goto 21, 3) := by decide +kernel
theorem dX10_act_50 : decode cX10_act 50 = .ok (.aload_n 0, 1) := by decide +kernel
theorem dX10_act_51 : decode cX10_act 51 = .ok (.invokevirtual 191, 3) := by decide +kernel
theorem dX10_act_54 : decode cX10_act 54 = .ok (.goto 14, 3) := by decide +kernel
theorem dX10_act_57 : decode cX10_act 57 = .ok (.aload_n 0, 1) := by decide +kernel
theorem dX10_act_58 : decode cX10_act 58 = .ok (.invokevirtual 194, 3) := by decide +kernel
theorem dX10_act_61 : decode cX10_act 61 = .ok (.goto 7, 3) := by decide +kernel
theorem dX10_act_64 : decode cX10_act 64 = .ok (.aload_n 0, 1) := by decide +kernel
theorem dX10_act_65 : decode cX10_act 65 = .ok (.invokevirtual 197, 3) := by decide +kernel
theorem dX10_act_68 : decode cX10_act 68 = .ok (.return_, 1) := by decide +kernel
theorem dX10_boot_0 : decode cX10_boot 0 = .ok (.aload_n 0, 1) := by decide +kernel
theorem dX10_boot_1 : decode cX10_boot 1 = .ok (.getfield 179, 3) := by decide +kernel
theorem dX10_boot_4 : decode cX10_boot 4 = .ok (.ifCond .le 66, 3) := by decide +kernel
theorem dX10_boot_7 : decode cX10_boot 7 = .ok (.aload_n 0, 1) := by decide +kernel
theorem dX10_boot_8 : decode cX10_boot 8 = .ok (.dup, 1) := by decide +kernel
theorem dX10_boot_9 : decode cX10_boot 9 = .ok (.getfield 179, 3) := by decide +kernel
theorem dX10_boot_12 : decode cX10_boot 12 = .ok (.iconst 1, 1) := by decide +kernel
theorem dX10_boot_13 : decode cX10_boot 13 = .ok (.isub, 1) := by decide +kernel
theorem dX10_boot_14 : decode cX10_boot 14 = .ok (.putfield 179, 3) := by decide +kernel
theorem dX10_boot_17 : decode cX10_boot 17 = .ok (.aload_n 0, 1) := by decide +kernel
theorem dX10_boot_18 : decode cX10_boot 18 = .ok (.getfield 92, 3) := by decide +kernel
theorem dX10_boot_21 : decode cX10_boot 21 = .ok (.iconst 2, 1) := by decide +kernel
theorem dX10_boot_22 : decode cX10_boot 22 = .ok (.aload_n 0, 1) := by decide +kernel
theorem dX10_boot_23 : decode cX10_boot 23 = .ok (.getfield 179, 3) := by decide +kernel
theorem dX10_boot_26 : decode cX10_boot 26 = .ok (.imul, 1) := by decide +kernel
theorem dX10_boot_27 : decode cX10_boot 27 = .ok (.iadd, 1) := by decide +kernel
theorem dX10_boot_28 : decode cX10_boot 28 = .ok (.istore_n 1, 1) := by decide +kernel
theorem dX10_boot_29 : decode cX10_boot 29 = .ok (.aload_n 0, 1) := by decide +kernel
theorem dX10_boot_30 : decode cX10_boot 30 = .ok (.aload_n 0, 1) := by decide +kernel
theorem dX10_boot_31 : decode cX10_boot 31 = .ok (.getfield 9, 3) := by decide +kernel
theorem dX10_boot_34 : decode cX10_boot 34 = .ok (.iload_n 1, 1) := by decide +kernel
theorem dX10_boot_35 : decode cX10_boot 35 = .ok (.iaload, 1) := by decide +kernel
theorem dX10_boot_36 : decode cX10_boot 36 = .ok (.aload_n 0, 1) := by decide +kernel
theorem dX10_boot_37 : decode cX10_boot 37 = .ok (.getfield 9, 3) := by decide +kernel
theorem dX10_boot_40 : decode cX10_boot 40 = .ok (.iload_n 1, 1) := by decide +kernel
theorem dX10_boot_41 : decode cX10_boot 41 = .ok (.iconst 1, 1) := by decide +kernel
theorem dX10_boot_42 : decode cX10_boot 42 = .ok (.iadd, 1) := by decide +kernel
theorem dX10_boot_43 : decode cX10_boot 43 = .ok (.iaload, 1) := by decide +kernel
theorem dX10_boot_44 : decode cX10_boot 44 = .ok (.invokevirtual 200, 3) := by decide +kernel
theorem dX10_boot_47 : decode cX10_boot 47 = .ok (.aload_n 0, 1) := by decide +kernel
theorem dX10_boot_48 : decode cX10_boot 48 = .ok (.dup, 1) := by decide +kernel
theorem dX10_boot_49 : decode cX10_boot 49 = .ok (.getfield 142, 3) := by decide +kernel
theorem dX10_boot_52 : decode cX10_boot 52 = .ok (.iconst 1, 1) := by decide +kernel
theorem dX10_boot_53 : decode cX10_boot 53 = .ok (.iadd, 1) := by decide +kernel
theorem dX10_boot_54 : decode cX10_boot 54 = .ok (.putfield 142, 3) := by decide +kernel
theorem dX10_boot_57 : decode cX10_boot 57 = .ok (.aload_n 0, 1) := by decide +kernel
theorem dX10_boot_58 : decode cX10_boot 58 = .ok (.getfield 179, 3) := by decide +kernel
theorem dX10_boot_61 : decode cX10_boot 61 = .ok (.ifCond .ne 8, 3) := by decide +kernel
theorem dX10_boot_64 : decode cX10_boot 64 = .ok (.aload_n 0, 1) := by decide +kernel
theorem dX10_boot_65 : decode cX10_boot 65 = .ok (.iconst (-1), 1) := by decide +kernel
theorem dX10_boot_66 : decode cX10_boot 66 = .ok (.putfield 179, 3) := by decide +kernel
theorem dX10_boot_69 : decode cX10_boot 69 = .ok (.return_, 1) := by decide +kernel
theorem dX10_boot_70 : decode cX10_boot 70 = .ok (.aload_n 0, 1) := by decide +kernel
theorem dX10_boot_71 : decode cX10_boot 71 = .ok (.iconst 1, 1) := by decide +kernel
theorem dX10_boot_72 : decode cX10_boot 72 = .ok (.aload_n 0, 1) := by decide +kernel
theorem dX10_boot_73 : decode cX10_boot 73 = .ok (.invokevirtual 146, 3) := by decide +kernel
theorem dX10_boot_76 : decode cX10_boot 76 = .ok (.bipush 16, 2) := by decide +kernel
theorem dX10_boot_78 : decode cX10_boot 78 = .ok (.ishl, 1) := by decide +kernel
theorem dX10_boot_79 : decode cX10_boot 79 = .ok (.invokevirtual 200, 3) := by decide +kernel
theorem dX10_boot_82 : decode cX10_boot 82 = .ok (.aload_n 0, 1) := by decide +kernel
theorem dX10_boot_83 : decode cX10_boot 83 = .ok (.iconst 0, 1) := by decide +kernel
theorem dX10_boot_84 : decode cX10_boot 84 = .ok (.putfield 121, 3) := by decide +kernel
theorem dX10_boot_87 : decode cX10_boot 87 = .ok (.return_, 1) := by decide +kernel
theorem dX10_decide_0 : decode cX10_decide 0 = .ok (.aload_n 0, 1) := by decide +kernel
theorem dX10_decide_1 : decode cX10_decide 1 = .ok (.getfield 24, 3) := by decide +kernel
theorem dX10_decide_4 : decode cX10_decide 4 = .ok (.invokevirtual 204, 3) := by decide +kernel
theorem dX10_decide_7 : decode cX10_decide 7 = .ok (.aload_n 0, 1) := by decide +kernel
theorem dX10_decide_8 : decode cX10_decide 8 = .ok (.getfield 24, 3) := by decide +kernel
theorem dX10_decide_11 : decode cX10_decide 11 = .ok (.getfield 207, 3) := by decide +kernel
theorem dX10_decide_14 : decode cX10_decide 14 = .ok (.iconst 2, 1) := by decide +kernel
theorem dX10_decide_15 : decode cX10_decide 15 = .ok (.if_icmp .ne 7, 3) := by decide +kernel
theorem dX10_decide_18 : decode cX10_decide 18 = .ok (.iconst 1, 1) := by decide +kernel
theorem dX10_decide_19 : decode cX10_decide 19 = .ok (.goto 4, 3) := by decide +kernel
theorem dX10_decide_22 : decode cX10_decide 22 = .ok (.iconst 0, 1) := by decide +kernel
theorem dX10_decide_23 : decode cX10_decide 23 = .ok (.istore_n 1, 1) := by decide +kernel
theorem dX10_decide_24 : decode cX10_decide 24 = .ok (.aload_n 0, 1) := by decide +kernel
theorem dX10_decide_25 : decode cX10_decide 25 = .ok (.getfield 24, 3) := by decide +kernel
theorem dX10_decide_28 : decode cX10_decide 28 = .ok (.getfield 207, 3) := by decide +kernel
theorem dX10_decide_31 : decode cX10_decide 31 = .ok (.iconst 1, 1) := by decide +kernel
theorem dX10_decide_32 : decode cX10_decide 32 = .ok (.if_icmp .ne 32, 3) := by decide +kernel
theorem dX10_decide_35 : decode cX10_decide 35 = .ok (.aload_n 0, 1) := by decide +kernel
theorem dX10_decide_36 : decode cX10_decide 36 = .ok (.getfield 24, 3) := by decide +kernel
theorem dX10_decide_39 : decode cX10_decide 39 = .ok (.getfield 210, 3) := by decide +kernel
theorem dX10_decide_42 : decode cX10_decide 42 = .ok (.ifCond .ne 22, 3) := by decide +kernel
theorem dX10_decide_45 : decode cX10_decide 45 = .ok (.aload_n 0, 1) := by decide +kernel
theorem dX10_decide_46 : decode cX10_decide 46 = .ok (.getfield 44, 3) := by decide +kernel
theorem dX10_decide_49 : decode cX10_decide 49 = .ok (.aload_n 0, 1) := by decide +kernel
theorem dX10_decide_50 : decode cX10_decide 50 = .ok (.getfield 24, 3) := by decide +kernel
theorem dX10_decide_53 : decode cX10_decide 53 = .ok (.getfield 213, 3) := by decide +kernel
theorem dX10_decide_56 : decode cX10_decide 56 = .ok (.baload, 1) := by decide +kernel
theorem dX10_decide_57 : decode cX10_decide 57 = .ok (.ifCond .ne 7, 3) := by decide +kernel
theorem dX10_decide_60 : decode cX10_decide 60 = .ok (.iconst 1, 1) := by decide +kernel
theorem dX10_decide_61 : decode cX10_decide 61 = .ok (.goto 4, 3) := by decide +kernel
theorem dX10_decide_64 : decode cX10_decide 64 = .ok (.iconst 0, 1) := by decide +kernel
theorem dX10_decide_65 : decode cX10_decide 65 = .ok (.istore_n 2, 1) := by decide +kernel
theorem dX10_decide_66 : decode cX10_decide 66 = .ok (.aload_n 0, 1) := by decide +kernel
theorem dX10_decide_67 : decode cX10_decide 67 = .ok (.getfield 115, 3) := by decide +kernel
theorem dX10_decide_70 : decode cX10_decide 70 = .ok (.aload_n 0, 1) := by decide +kernel
theorem dX10_decide_71 : decode cX10_decide 71 = .ok (.getfield 86, 3) := by decide +kernel
theorem dX10_decide_74 : decode cX10_decide 74 = .ok (.if_icmp .eq 39, 3) := by decide +kernel
theorem dX10_decide_77 : decode cX10_decide 77 = .ok (.aload_n 0, 1) := by decide +kernel
theorem dX10_decide_78 : decode cX10_decide 78 = .ok (.getfield 24, 3) := by decide +kernel
theorem dX10_decide_81 : decode cX10_decide 81 = .ok (.getfield 210, 3) := by decide +kernel
theorem dX10_decide_84 : decode cX10_decide 84 = .ok (.ifCond .ne 14, 3) := by decide +kernel
theorem dX10_decide_87 : decode cX10_decide 87 = .ok (.iload_n 1, 1) := by decide +kernel
theorem dX10_decide_88 : decode cX10_decide 88 = .ok (.ifCond .eq 10, 3) := by decide +kernel
theorem dX10_decide_91 : decode cX10_decide 91 = .ok (.aload_n 0, 1) := by decide +kernel
theorem dX10_decide_92 : decode cX10_decide 92 = .ok (.getfield 115, 3) := by decide +kernel
theorem dX10_decide_95 : decode cX10_decide 95 = .ok (.ifCond .gt 18, 3) := by decide +kernel
theorem dX10_decide_98 : decode cX10_decide 98 = .ok (.iload_n 2, 1) := by decide +kernel
theorem dX10_decide_99 : decode cX10_decide 99 = .ok (.ifCond .eq 18, 3) := by decide +kernel
theorem dX10_decide_102 : decode cX10_decide 102 = .ok (.aload_n 0, 1) := by decide +kernel
theorem dX10_decide_103 : decode cX10_decide 103 = .ok (.invokevirtual 176, 3) := by decide +kernel
theorem dX10_decide_106 : decode cX10_decide 106 = .ok (.aload_n 0, 1) := by decide +kernel
theorem dX10_decide_107 : decode cX10_decide 107 = .ok (.getfield 83, 3) := by decide +kernel
theorem dX10_decide_110 : decode cX10_decide 110 = .ok (.if_icmp .ne 7, 3) := by decide +kernel
theorem dX10_decide_113 : decode cX10_decide 113 = .ok (.iconst 1, 1) := by decide +kernel
theorem dX10_decide_114 : decode cX10_decide 114 = .ok (.goto 4, 3) := by decide +kernel
theorem dX10_decide_117 : decode cX10_decide 117 = .ok (.iconst 0, 1) := by decide +kernel
theorem dX10_decide_118 : decode cX10_decide 118 = .ok (.istore_n 3, 1) := by decide +kernel
theorem dX10_decide_119 : decode cX10_decide 119 = .ok (.aload_n 0, 1) := by decide +kernel
theorem dX10_decide_120 : decode cX10_decide 120 = .ok (.iconst 0, 1) := by decide +kernel
theorem dX10_decide_121 : decode cX10_decide 121 = .ok (.putfield 179, 3) := by decide +kernel
theorem dX10_decide_124 : decode cX10_decide 124 = .ok (.iload_n 3, 1) := by decide +kernel
theorem dX10_decide_125 : decode cX10_decide 125 = .ok (.ifCond .eq 15, 3) := by decide +kernel
theorem dX10_decide_128 : decode cX10_decide 128 = .ok (.aload_n 0, 1) := by decide +kernel
theorem dX10_decide_129 : decode cX10_decide 129 = .ok (.iconst 2, 1) := by decide +kernel
theorem dX10_decide_130 : decode cX10_decide 130 = .ok (.putfield 121, 3) := by decide +kernel
theorem dX10_decide_133 : decode cX10_decide 133 = .ok (.aload_n 0, 1) := by decide +kernel
theorem dX10_decide_134 : decode cX10_decide 134 = .ok (.invokevirtual 188, 3) := by decide +kernel
theorem dX10_decide_137 : decode cX10_decide 137 = .ok (.goto 81, 3) := by decide +kernel
theorem dX10_decide_140 : decode cX10_decide 140 = .ok (.aload_n 0, 1) := by decide +kernel
theorem dX10_decide_141 : decode cX10_decide 141 = .ok (.getfield 24, 3) := by decide +kernel
theorem dX10_decide_144 : decode cX10_decide 144 = .ok (.getfield 210, 3) := by decide +kernel
theorem dX10_decide_147 : decode cX10_decide 147 = .ok (.ifCond .eq 17, 3) := by decide +kernel
theorem dX10_decide_150 : decode cX10_decide 150 = .ok (.aload_n 0, 1) := by decide +kernel
theorem dX10_decide_151 : decode cX10_decide 151 = .ok (.aload_n 0, 1) := by decide +kernel
theorem dX10_decide_152 : decode cX10_decide 152 = .ok (.getfield 24, 3) := by decide +kernel
theorem dX10_decide_155 : decode cX10_decide 155 = .ok (.getfield 210, 3) := by decide +kernel
theorem dX10_decide_158 : decode cX10_decide 158 = .ok (.putfield 118, 3) := by decide +kernel
theorem dX10_decide_161 : decode cX10_decide 161 = .ok (.goto 57, 3) := by decide +kernel
theorem dX10_decide_164 : decode cX10_decide 164 = .ok (.iload_n 2, 1) := by decide +kernel
theorem dX10_decide_165 : decode cX10_decide 165 = .ok (.ifCond .eq 15, 3) := by decide +kernel
theorem dX10_decide_168 : decode cX10_decide 168 = .ok (.aload_n 0, 1) := by decide +kernel
theorem dX10_decide_169 : decode cX10_decide 169 = .ok (.iconst 3, 1) := by decide +kernel
theorem dX10_decide_170 : decode cX10_decide 170 = .ok (.putfield 121, 3) := by decide +kernel
theorem dX10_decide_173 : decode cX10_decide 173 = .ok (.aload_n 0, 1) := by decide +kernel
theorem dX10_decide_174 : decode cX10_decide 174 = .ok (.invokevirtual 191, 3) := by decide +kernel
theorem dX10_decide_177 : decode cX10_decide 177 = .ok (.goto 41, 3) := by decide +kernel
theorem dX10_decide_180 : decode cX10_decide 180 = .ok (.iload_n 1, 1) := by decide +kernel
theorem dX10_decide_181 : decode cX10_decide 181 = .ok (.ifCond .eq 33, 3) := by decide +kernel
theorem dX10_decide_184 : decode cX10_decide 184 = .ok (.aload_n 0, 1) := by decide +kernel
theorem dX10_decide_185 : decode cX10_decide 185 = .ok (.getfield 9, 3) := by decide +kernel
theorem dX10_decide_188 : decode cX10_decide 188 = .ok (.iconst 2, 1) := by decide +kernel
theorem dX10_decide_189 : decode cX10_decide 189 = .ok (.iaload, 1) := by decide +kernel
theorem dX10_decide_190 : decode cX10_decide 190 = .ok (.aload_n 0, 1) := by decide +kernel
theorem dX10_decide_191 : decode cX10_decide 191 = .ok (.getfield 24, 3) := by decide +kernel
theorem dX10_decide_194 : decode cX10_decide 194 = .ok (.getfield 163, 3) := by decide +kernel
theorem dX10_decide_197 : decode cX10_decide 197 = .ok (.iconst 1, 1) := by decide +kernel
theorem dX10_decide_198 : decode cX10_decide 198 = .ok (.iadd, 1) := by decide +kernel
theorem dX10_decide_199 : decode cX10_decide 199 = .ok (.if_icmp .eq 15, 3) := by decide +kernel
theorem dX10_decide_202 : decode cX10_decide 202 = .ok (.aload_n 0, 1) := by decide +kernel
theorem dX10_decide_203 : decode cX10_decide 203 = .ok (.iconst 4, 1) := by decide +kernel
theorem dX10_decide_204 : decode cX10_decide 204 = .ok (.putfield 121, 3) := by decide +kernel
theorem dX10_decide_207 : decode cX10_decide 207 = .ok (.aload_n 0, 1) := by decide +kernel
theorem dX10_decide_208 : decode cX10_decide 208 = .ok (.invokevirtual 194, 3) := by decide +kernel
theorem dX10_decide_211 : decode cX10_decide 211 = .ok (.goto 7, 3) := by decide +kernel
theorem dX10_decide_214 : decode cX10_decide 214 = .ok (.aload_n 0, 1) := by decide +kernel
theorem dX10_decide_215 : decode cX10_decide 215 = .ok (.invokevirtual 216, 3) := by decide +kernel
theorem dX10_decide_218 : decode cX10_decide 218 = .ok (.return_, 1) := by decide +kernel
theorem dX10_perform_0 : decode cX10_perform 0 = .ok (.aload_n 0, 1) := by decide +kernel
theorem dX10_perform_1 : decode cX10_perform 1 = .ok (.getfield 24, 3) := by decide +kernel
theorem dX10_perform_4 : decode cX10_perform 4 = .ok (.getfield 207, 3) := by decide +kernel
theorem dX10_perform_7 : decode cX10_perform 7 = .ok (.iconst 1, 1) := by decide +kernel
theorem dX10_perform_8 : decode cX10_perform 8 = .ok (.if_icmp .ne 13, 3) := by decide +kernel
theorem dX10_perform_11 : decode cX10_perform 11 = .ok (.aload_n 0, 1) := by decide +kernel
theorem dX10_perform_12 : decode cX10_perform 12 = .ok (.dup, 1) := by decide +kernel
theorem dX10_perform_13 : decode cX10_perform 13 = .ok (.getfield 127, 3) := by decide +kernel
theorem dX10_perform_16 : decode cX10_perform 16 = .ok (.iconst 1, 1) := by decide +kernel
theorem dX10_perform_17 : decode cX10_perform 17 = .ok (.iadd, 1) := by decide +kernel
theorem dX10_perform_18 : decode cX10_perform 18 = .ok (.putfield 127, 3) := by decide +kernel
theorem dX10_perform_21 : decode cX10_perform 21 = .ok (.aload_n 0, 1) := by decide +kernel
theorem dX10_perform_22 : decode cX10_perform 22 = .ok (.getfield 24, 3) := by decide +kernel
theorem dX10_perform_25 : decode cX10_perform 25 = .ok (.invokevirtual 219, 3) := by decide +kernel
theorem dX10_perform_28 : decode cX10_perform 28 = .ok (.aload_n 0, 1) := by decide +kernel
theorem dX10_perform_29 : decode cX10_perform 29 = .ok (.dup, 1) := by decide +kernel
theorem dX10_perform_30 : decode cX10_perform 30 = .ok (.getfield 115, 3) := by decide +kernel
theorem dX10_perform_33 : decode cX10_perform 33 = .ok (.iconst 1, 1) := by decide +kernel
theorem dX10_perform_34 : decode cX10_perform 34 = .ok (.iadd, 1) := by decide +kernel
theorem dX10_perform_35 : decode cX10_perform 35 = .ok (.putfield 115, 3) := by decide +kernel
theorem dX10_perform_38 : decode cX10_perform 38 = .ok (.aload_n 0, 1) := by decide +kernel
theorem dX10_perform_39 : decode cX10_perform 39 = .ok (.dup, 1) := by decide +kernel
theorem dX10_perform_40 : decode cX10_perform 40 = .ok (.getfield 133, 3) := by decide +kernel
theorem dX10_perform_43 : decode cX10_perform 43 = .ok (.iconst 1, 1) := by decide +kernel
theorem dX10_perform_44 : decode cX10_perform 44 = .ok (.iadd, 1) := by decide +kernel
theorem dX10_perform_45 : decode cX10_perform 45 = .ok (.putfield 133, 3) := by decide +kernel
theorem dX10_perform_48 : decode cX10_perform 48 = .ok (.aload_n 0, 1) := by decide +kernel
theorem dX10_perform_49 : decode cX10_perform 49 = .ok (.iconst 0, 1) := by decide +kernel
theorem dX10_perform_50 : decode cX10_perform 50 = .ok (.putfield 121, 3) := by decide +kernel
theorem dX10_perform_53 : decode cX10_perform 53 = .ok (.return_, 1) := by decide +kernel
theorem dX10_checkWord_0 : decode cX10_checkWord 0 = .ok (.iload_n 1, 1) := by decide +kernel
theorem dX10_checkWord_1 : decode cX10_checkWord 1 = .ok (.bipush 32, 2) := by decide +kernel
theorem dX10_checkWord_3 : decode cX10_checkWord 3 = .ok (.if_icmp .ge 13, 3) := by decide +kernel
theorem dX10_checkWord_6 : decode cX10_checkWord 6 = .ok (.aload_n 0, 1) := by decide +kernel
theorem dX10_checkWord_7 : decode cX10_checkWord 7 = .ok (.getfield 24, 3) := by decide +kernel
theorem dX10_checkWord_10 : decode cX10_checkWord 10 = .ok (.getfield 154, 3) := by decide +kernel
theorem dX10_checkWord_13 : decode cX10_checkWord 13 = .ok (.iload_n 1, 1) := by decide +kernel
theorem dX10_checkWord_14 : decode cX10_checkWord 14 = .ok (.iaload, 1) := by decide +kernel
theorem dX10_checkWord_15 : decode cX10_checkWord 15 = .ok (.ireturn, 1) := by decide +kernel
theorem dX10_checkWord_16 : decode cX10_checkWord 16 = .ok (.iload_n 1, 1) := by decide +kernel
theorem dX10_checkWord_17 : decode cX10_checkWord 17 = .ok (.bipush 32, 2) := by decide +kernel
theorem dX10_checkWord_19 : decode cX10_checkWord 19 = .ok (.if_icmp .ne 13, 3) := by decide +kernel
theorem dX10_checkWord_22 : decode cX10_checkWord 22 = .ok (.aload_n 0, 1) := by decide +kernel
theorem dX10_checkWord_23 : decode cX10_checkWord 23 = .ok (.getfield 24, 3) := by decide +kernel
theorem dX10_checkWord_26 : decode cX10_checkWord 26 = .ok (.getfield 157, 3) := by decide +kernel
theorem dX10_checkWord_29 : decode cX10_checkWord 29 = .ok (.goto 63, 3) := by decide +kernel
theorem dX10_checkWord_32 : decode cX10_checkWord 32 = .ok (.iload_n 1, 1) := by decide +kernel
theorem dX10_checkWord_33 : decode cX10_checkWord 33 = .ok (.bipush 33, 2) := by decide +kernel
theorem dX10_checkWord_35 : decode cX10_checkWord 35 = .ok (.if_icmp .ne 13, 3) := by decide +kernel
theorem dX10_checkWord_38 : decode cX10_checkWord 38 = .ok (.aload_n 0, 1) := by decide +kernel
theorem dX10_checkWord_39 : decode cX10_checkWord 39 = .ok (.getfield 24, 3) := by decide +kernel
theorem dX10_checkWord_42 : decode cX10_checkWord 42 = .ok (.getfield 160, 3) := by decide +kernel
theorem dX10_checkWord_45 : decode cX10_checkWord 45 = .ok (.goto 47, 3) := by decide +kernel
theorem dX10_checkWord_48 : decode cX10_checkWord 48 = .ok (.iload_n 1, 1) := by decide +kernel
theorem dX10_checkWord_49 : decode cX10_checkWord 49 = .ok (.bipush 34, 2) := by decide +kernel
theorem dX10_checkWord_51 : decode cX10_checkWord 51 = .ok (.if_icmp .ne 13, 3) := by decide +kernel
theorem dX10_checkWord_54 : decode cX10_checkWord 54 = .ok (.aload_n 0, 1) := by decide +kernel
theorem dX10_checkWord_55 : decode cX10_checkWord 55 = .ok (.getfield 24, 3) := by decide +kernel
theorem dX10_checkWord_58 : decode cX10_checkWord 58 = .ok (.getfield 163, 3) := by decide +kernel
theorem dX10_checkWord_61 : decode cX10_checkWord 61 = .ok (.goto 31, 3) := by decide +kernel
theorem dX10_checkWord_64 : decode cX10_checkWord 64 = .ok (.iload_n 1, 1) := by decide +kernel
theorem dX10_checkWord_65 : decode cX10_checkWord 65 = .ok (.bipush 35, 2) := by decide +kernel
theorem dX10_checkWord_67 : decode cX10_checkWord 67 = .ok (.if_icmp .ne 13, 3) := by decide +kernel
theorem dX10_checkWord_70 : decode cX10_checkWord 70 = .ok (.aload_n 0, 1) := by decide +kernel
theorem dX10_checkWord_71 : decode cX10_checkWord 71 = .ok (.getfield 24, 3) := by decide +kernel
theorem dX10_checkWord_74 : decode cX10_checkWord 74 = .ok (.getfield 166, 3) := by decide +kernel
theorem dX10_checkWord_77 : decode cX10_checkWord 77 = .ok (.goto 15, 3) := by decide +kernel
theorem dX10_checkWord_80 : decode cX10_checkWord 80 = .ok (.aload_n 0, 1) := by decide +kernel
theorem dX10_checkWord_81 : decode cX10_checkWord 81 = .ok (.getfield 24, 3) := by decide +kernel
theorem dX10_checkWord_84 : decode cX10_checkWord 84 = .ok (.getfield 167, 3) := by decide +kernel
theorem dX10_checkWord_87 : decode cX10_checkWord 87 = .ok (.iload_n 1, 1) := by decide +kernel
theorem dX10_checkWord_88 : decode cX10_checkWord 88 = .ok (.bipush 36, 2) := by decide +kernel
theorem dX10_checkWord_90 : decode cX10_checkWord 90 = .ok (.isub, 1) := by decide +kernel
theorem dX10_checkWord_91 : decode cX10_checkWord 91 = .ok (.iaload, 1) := by decide +kernel
theorem dX10_checkWord_92 : decode cX10_checkWord 92 = .ok (.ireturn, 1) := by decide +kernel
theorem dX10_check_0 : decode cX10_check 0 = .ok (.bipush 36, 2) := by decide +kernel
theorem dX10_check_2 : decode cX10_check 2 = .ok (.aload_n 0, 1) := by decide +kernel
theorem dX10_check_3 : decode cX10_check 3 = .ok (.getfield 77, 3) := by decide +kernel
theorem dX10_check_6 : decode cX10_check 6 = .ok (.iconst 4, 1) := by decide +kernel
theorem dX10_check_7 : decode cX10_check 7 = .ok (.idiv, 1) := by decide +kernel
theorem dX10_check_8 : decode cX10_check 8 = .ok (.iadd, 1) := by decide +kernel
theorem dX10_check_9 : decode cX10_check 9 = .ok (.istore_n 1, 1) := by decide +kernel
theorem dX10_check_10 : decode cX10_check 10 = .ok (.aload_n 0, 1) := by decide +kernel
theorem dX10_check_11 : decode cX10_check 11 = .ok (.invokevirtual 146, 3) := by decide +kernel
theorem dX10_check_14 : decode cX10_check 14 = .ok (.iconst 1, 1) := by decide +kernel
theorem dX10_check_15 : decode cX10_check 15 = .ok (.iadd, 1) := by decide +kernel
theorem dX10_check_16 : decode cX10_check 16 = .ok (.ldc 145, 2) := by decide +kernel
theorem dX10_check_18 : decode cX10_check 18 = .ok (.iand, 1) := by decide +kernel
theorem dX10_check_19 : decode cX10_check 19 = .ok (.istore_n 2, 1) := by decide +kernel
theorem dX10_check_20 : decode cX10_check 20 = .ok (.aload_n 0, 1) := by decide +kernel
theorem dX10_check_21 : decode cX10_check 21 = .ok (.getfield 179, 3) := by decide +kernel
theorem dX10_check_24 : decode cX10_check 24 = .ok (.iload_n 1, 1) := by decide +kernel
theorem dX10_check_25 : decode cX10_check 25 = .ok (.if_icmp .ge 28, 3) := by decide +kernel
theorem dX10_check_28 : decode cX10_check 28 = .ok (.aload_n 0, 1) := by decide +kernel
theorem dX10_check_29 : decode cX10_check 29 = .ok (.aload_n 0, 1) := by decide +kernel
theorem dX10_check_30 : decode cX10_check 30 = .ok (.iload_n 2, 1) := by decide +kernel
theorem dX10_check_31 : decode cX10_check 31 = .ok (.invokevirtual 150, 3) := by decide +kernel
theorem dX10_check_34 : decode cX10_check 34 = .ok (.aload_n 0, 1) := by decide +kernel
theorem dX10_check_35 : decode cX10_check 35 = .ok (.getfield 179, 3) := by decide +kernel
theorem dX10_check_38 : decode cX10_check 38 = .ok (.iadd, 1) := by decide +kernel
theorem dX10_check_39 : decode cX10_check 39 = .ok (.aload_n 0, 1) := by decide +kernel
theorem dX10_check_40 : decode cX10_check 40 = .ok (.aload_n 0, 1) := by decide +kernel
theorem dX10_check_41 : decode cX10_check 41 = .ok (.getfield 179, 3) := by decide +kernel
theorem dX10_check_44 : decode cX10_check 44 = .ok (.invokevirtual 220, 3) := by decide +kernel
theorem dX10_check_47 : decode cX10_check 47 = .ok (.invokevirtual 200, 3) := by decide +kernel
theorem dX10_check_50 : decode cX10_check 50 = .ok (.goto 56, 3) := by decide +kernel
theorem dX10_check_53 : decode cX10_check 53 = .ok (.aload_n 0, 1) := by decide +kernel
theorem dX10_check_54 : decode cX10_check 54 = .ok (.getfield 179, 3) := by decide +kernel
theorem dX10_check_57 : decode cX10_check 57 = .ok (.iload_n 1, 1) := by decide +kernel
theorem dX10_check_58 : decode cX10_check 58 = .ok (.if_icmp .ne 31, 3) := by decide +kernel
theorem dX10_check_61 : decode cX10_check 61 = .ok (.aload_n 0, 1) := by decide +kernel
theorem dX10_check_62 : decode cX10_check 62 = .ok (.iconst 0, 1) := by decide +kernel
theorem dX10_check_63 : decode cX10_check 63 = .ok (.iload_n 2, 1) := by decide +kernel
theorem dX10_check_64 : decode cX10_check 64 = .ok (.invokevirtual 200, 3) := by decide +kernel
theorem dX10_check_67 : decode cX10_check 67 = .ok (.aload_n 0, 1) := by decide +kernel
theorem dX10_check_68 : decode cX10_check 68 = .ok (.dup, 1) := by decide +kernel
theorem dX10_check_69 : decode cX10_check 69 = .ok (.getfield 136, 3) := by decide +kernel
theorem dX10_check_72 : decode cX10_check 72 = .ok (.iconst 1, 1) := by decide +kernel
theorem dX10_check_73 : decode cX10_check 73 = .ok (.iadd, 1) := by decide +kernel
theorem dX10_check_74 : decode cX10_check 74 = .ok (.putfield 136, 3) := by decide +kernel
theorem dX10_check_77 : decode cX10_check 77 = .ok (.aload_n 0, 1) := by decide +kernel
theorem dX10_check_78 : decode cX10_check 78 = .ok (.iconst 0, 1) := by decide +kernel
theorem dX10_check_79 : decode cX10_check 79 = .ok (.putfield 115, 3) := by decide +kernel
theorem dX10_check_82 : decode cX10_check 82 = .ok (.aload_n 0, 1) := by decide +kernel
theorem dX10_check_83 : decode cX10_check 83 = .ok (.invokevirtual 170, 3) := by decide +kernel
theorem dX10_check_86 : decode cX10_check 86 = .ok (.goto 20, 3) := by decide +kernel
theorem dX10_check_89 : decode cX10_check 89 = .ok (.aload_n 0, 1) := by decide +kernel
theorem dX10_check_90 : decode cX10_check 90 = .ok (.iconst 1, 1) := by decide +kernel
theorem dX10_check_91 : decode cX10_check 91 = .ok (.aload_n 0, 1) := by decide +kernel
theorem dX10_check_92 : decode cX10_check 92 = .ok (.invokevirtual 146, 3) := by decide +kernel
theorem dX10_check_95 : decode cX10_check 95 = .ok (.bipush 16, 2) := by decide +kernel
theorem dX10_check_97 : decode cX10_check 97 = .ok (.ishl, 1) := by decide +kernel
theorem dX10_check_98 : decode cX10_check 98 = .ok (.invokevirtual 200, 3) := by decide +kernel
theorem dX10_check_101 : decode cX10_check 101 = .ok (.aload_n 0, 1) := by decide +kernel
theorem dX10_check_102 : decode cX10_check 102 = .ok (.iconst 0, 1) := by decide +kernel
theorem dX10_check_103 : decode cX10_check 103 = .ok (.putfield 121, 3) := by decide +kernel
theorem dX10_check_106 : decode cX10_check 106 = .ok (.aload_n 0, 1) := by decide +kernel
theorem dX10_check_107 : decode cX10_check 107 = .ok (.dup, 1) := by decide +kernel
theorem dX10_check_108 : decode cX10_check 108 = .ok (.getfield 179, 3) := by decide +kernel
theorem dX10_check_111 : decode cX10_check 111 = .ok (.iconst 1, 1) := by decide +kernel
theorem dX10_check_112 : decode cX10_check 112 = .ok (.iadd, 1) := by decide +kernel
theorem dX10_check_113 : decode cX10_check 113 = .ok (.putfield 179, 3) := by decide +kernel
theorem dX10_check_116 : decode cX10_check 116 = .ok (.return_, 1) := by decide +kernel
theorem dX10_log_0 : decode cX10_log 0 = .ok (.aload_n 0, 1) := by decide +kernel
theorem dX10_log_1 : decode cX10_log 1 = .ok (.invokevirtual 176, 3) := by decide +kernel
theorem dX10_log_4 : decode cX10_log 4 = .ok (.istore_n 1, 1) := by decide +kernel
theorem dX10_log_5 : decode cX10_log 5 = .ok (.aload_n 0, 1) := by decide +kernel
theorem dX10_log_6 : decode cX10_log 6 = .ok (.getfield 92, 3) := by decide +kernel
theorem dX10_log_9 : decode cX10_log 9 = .ok (.iconst 2, 1) := by decide +kernel
theorem dX10_log_10 : decode cX10_log 10 = .ok (.iload_n 1, 1) := by decide +kernel
theorem dX10_log_11 : decode cX10_log 11 = .ok (.imul, 1) := by decide +kernel
theorem dX10_log_12 : decode cX10_log 12 = .ok (.iadd, 1) := by decide +kernel
theorem dX10_log_13 : decode cX10_log 13 = .ok (.istore_n 2, 1) := by decide +kernel
theorem dX10_log_14 : decode cX10_log 14 = .ok (.aload_n 0, 1) := by decide +kernel
theorem dX10_log_15 : decode cX10_log 15 = .ok (.getfield 95, 3) := by decide +kernel
theorem dX10_log_18 : decode cX10_log 18 = .ok (.aload_n 0, 1) := by decide +kernel
theorem dX10_log_19 : decode cX10_log 19 = .ok (.getfield 24, 3) := by decide +kernel
theorem dX10_log_22 : decode cX10_log 22 = .ok (.getfield 213, 3) := by decide +kernel
theorem dX10_log_25 : decode cX10_log 25 = .ok (.iadd, 1) := by decide +kernel
theorem dX10_log_26 : decode cX10_log 26 = .ok (.istore_n 3, 1) := by decide +kernel
theorem dX10_log_27 : decode cX10_log 27 = .ok (.aload_n 0, 1) := by decide +kernel
theorem dX10_log_28 : decode cX10_log 28 = .ok (.getfield 179, 3) := by decide +kernel
theorem dX10_log_31 : decode cX10_log 31 = .ok (.ifCond .ne 12, 3) := by decide +kernel
theorem dX10_log_34 : decode cX10_log 34 = .ok (.aload_n 0, 1) := by decide +kernel
theorem dX10_log_35 : decode cX10_log 35 = .ok (.iload_n 2, 1) := by decide +kernel
theorem dX10_log_36 : decode cX10_log 36 = .ok (.iload_n 3, 1) := by decide +kernel
theorem dX10_log_37 : decode cX10_log 37 = .ok (.invokevirtual 200, 3) := by decide +kernel
theorem dX10_log_40 : decode cX10_log 40 = .ok (.goto 68, 3) := by decide +kernel
theorem dX10_log_43 : decode cX10_log 43 = .ok (.aload_n 0, 1) := by decide +kernel
theorem dX10_log_44 : decode cX10_log 44 = .ok (.getfield 179, 3) := by decide +kernel
theorem dX10_log_47 : decode cX10_log 47 = .ok (.iconst 1, 1) := by decide +kernel
theorem dX10_log_48 : decode cX10_log 48 = .ok (.if_icmp .ne 19, 3) := by decide +kernel
theorem dX10_log_51 : decode cX10_log 51 = .ok (.aload_n 0, 1) := by decide +kernel
theorem dX10_log_52 : decode cX10_log 52 = .ok (.iload_n 2, 1) := by decide +kernel
theorem dX10_log_53 : decode cX10_log 53 = .ok (.iconst 1, 1) := by decide +kernel
theorem dX10_log_54 : decode cX10_log 54 = .ok (.iadd, 1) := by decide +kernel
theorem dX10_log_55 : decode cX10_log 55 = .ok (.aload_n 0, 1) := by decide +kernel
theorem dX10_log_56 : decode cX10_log 56 = .ok (.getfield 9, 3) := by decide +kernel
theorem dX10_log_59 : decode cX10_log 59 = .ok (.iload_n 3, 1) := by decide +kernel
theorem dX10_log_60 : decode cX10_log 60 = .ok (.iaload, 1) := by decide +kernel
theorem dX10_log_61 : decode cX10_log 61 = .ok (.invokevirtual 200, 3) := by decide +kernel
theorem dX10_log_64 : decode cX10_log 64 = .ok (.goto 44, 3) := by decide +kernel
theorem dX10_log_67 : decode cX10_log 67 = .ok (.aload_n 0, 1) := by decide +kernel
theorem dX10_log_68 : decode cX10_log 68 = .ok (.getfield 179, 3) := by decide +kernel
theorem dX10_log_71 : decode cX10_log 71 = .ok (.iconst 2, 1) := by decide +kernel
theorem dX10_log_72 : decode cX10_log 72 = .ok (.if_icmp .ne 32, 3) := by decide +kernel
theorem dX10_log_75 : decode cX10_log 75 = .ok (.aload_n 0, 1) := by decide +kernel
theorem dX10_log_76 : decode cX10_log 76 = .ok (.iconst 1, 1) := by decide +kernel
theorem dX10_log_77 : decode cX10_log 77 = .ok (.aload_n 0, 1) := by decide +kernel
theorem dX10_log_78 : decode cX10_log 78 = .ok (.getfield 9, 3) := by decide +kernel
theorem dX10_log_81 : decode cX10_log 81 = .ok (.iconst 1, 1) := by decide +kernel
theorem dX10_log_82 : decode cX10_log 82 = .ok (.iaload, 1) := by decide +kernel
theorem dX10_log_83 : decode cX10_log 83 = .ok (.iconst 1, 1) := by decide +kernel
theorem dX10_log_84 : decode cX10_log 84 = .ok (.iadd, 1) := by decide +kernel
theorem dX10_log_85 : decode cX10_log 85 = .ok (.invokevirtual 200, 3) := by decide +kernel
theorem dX10_log_88 : decode cX10_log 88 = .ok (.aload_n 0, 1) := by decide +kernel
theorem dX10_log_89 : decode cX10_log 89 = .ok (.getfield 44, 3) := by decide +kernel
theorem dX10_log_92 : decode cX10_log 92 = .ok (.aload_n 0, 1) := by decide +kernel
theorem dX10_log_93 : decode cX10_log 93 = .ok (.getfield 24, 3) := by decide +kernel
theorem dX10_log_96 : decode cX10_log 96 = .ok (.getfield 213, 3) := by decide +kernel
theorem dX10_log_99 : decode cX10_log 99 = .ok (.iconst 1, 1) := by decide +kernel
theorem dX10_log_100 : decode cX10_log 100 = .ok (.bastore, 1) := by decide +kernel
theorem dX10_log_101 : decode cX10_log 101 = .ok (.goto 7, 3) := by decide +kernel
theorem dX10_log_104 : decode cX10_log 104 = .ok (.aload_n 0, 1) := by decide +kernel
theorem dX10_log_105 : decode cX10_log 105 = .ok (.invokevirtual 216, 3) := by decide +kernel
theorem dX10_log_108 : decode cX10_log 108 = .ok (.aload_n 0, 1) := by decide +kernel
theorem dX10_log_109 : decode cX10_log 109 = .ok (.dup, 1) := by decide +kernel
theorem dX10_log_110 : decode cX10_log 110 = .ok (.getfield 179, 3) := by decide +kernel
theorem dX10_log_113 : decode cX10_log 113 = .ok (.iconst 1, 1) := by decide +kernel
theorem dX10_log_114 : decode cX10_log 114 = .ok (.iadd, 1) := by decide +kernel
theorem dX10_log_115 : decode cX10_log 115 = .ok (.putfield 179, 3) := by decide +kernel
theorem dX10_log_118 : decode cX10_log 118 = .ok (.return_, 1) := by decide +kernel
theorem dX10_send_0 : decode cX10_send 0 = .ok (.aload_n 0, 1) := by decide +kernel
theorem dX10_send_1 : decode cX10_send 1 = .ok (.getfield 179, 3) := by decide +kernel
theorem dX10_send_4 : decode cX10_send 4 = .ok (.ifCond .ne 21, 3) := by decide +kernel
theorem dX10_send_7 : decode cX10_send 7 = .ok (.aload_n 0, 1) := by decide +kernel
theorem dX10_send_8 : decode cX10_send 8 = .ok (.getfield 24, 3) := by decide +kernel
theorem dX10_send_11 : decode cX10_send 11 = .ok (.aload_n 0, 1) := by decide +kernel
theorem dX10_send_12 : decode cX10_send 12 = .ok (.getfield 37, 3) := by decide +kernel
theorem dX10_send_15 : decode cX10_send 15 = .ok (.aload_n 0, 1) := by decide +kernel
theorem dX10_send_16 : decode cX10_send 16 = .ok (.getfield 139, 3) := by decide +kernel
theorem dX10_send_19 : decode cX10_send 19 = .ok (.invokevirtual 223, 3) := by decide +kernel
theorem dX10_send_22 : decode cX10_send 22 = .ok (.goto 32, 3) := by decide +kernel
theorem dX10_send_25 : decode cX10_send 25 = .ok (.aload_n 0, 1) := by decide +kernel
theorem dX10_send_26 : decode cX10_send 26 = .ok (.getfield 179, 3) := by decide +kernel
theorem dX10_send_29 : decode cX10_send 29 = .ok (.iconst 1, 1) := by decide +kernel
theorem dX10_send_30 : decode cX10_send 30 = .ok (.if_icmp .ne 20, 3) := by decide +kernel
theorem dX10_send_33 : decode cX10_send 33 = .ok (.aload_n 0, 1) := by decide +kernel
theorem dX10_send_34 : decode cX10_send 34 = .ok (.iconst 2, 1) := by decide +kernel
theorem dX10_send_35 : decode cX10_send 35 = .ok (.aload_n 0, 1) := by decide +kernel
theorem dX10_send_36 : decode cX10_send 36 = .ok (.getfield 24, 3) := by decide +kernel
theorem dX10_send_39 : decode cX10_send 39 = .ok (.getfield 163, 3) := by decide +kernel
theorem dX10_send_42 : decode cX10_send 42 = .ok (.iconst 1, 1) := by decide +kernel
theorem dX10_send_43 : decode cX10_send 43 = .ok (.iadd, 1) := by decide +kernel
theorem dX10_send_44 : decode cX10_send 44 = .ok (.invokevirtual 200, 3) := by decide +kernel
theorem dX10_send_47 : decode cX10_send 47 = .ok (.goto 7, 3) := by decide +kernel
theorem dX10_send_50 : decode cX10_send 50 = .ok (.aload_n 0, 1) := by decide +kernel
theorem dX10_send_51 : decode cX10_send 51 = .ok (.invokevirtual 216, 3) := by decide +kernel
theorem dX10_send_54 : decode cX10_send 54 = .ok (.aload_n 0, 1) := by decide +kernel
theorem dX10_send_55 : decode cX10_send 55 = .ok (.dup, 1) := by decide +kernel
theorem dX10_send_56 : decode cX10_send 56 = .ok (.getfield 179, 3) := by decide +kernel
theorem dX10_send_59 : decode cX10_send 59 = .ok (.iconst 1, 1) := by decide +kernel
theorem dX10_send_60 : decode cX10_send 60 = .ok (.iadd, 1) := by decide +kernel
theorem dX10_send_61 : decode cX10_send 61 = .ok (.putfield 179, 3) := by decide +kernel
theorem dX10_send_64 : decode cX10_send 64 = .ok (.return_, 1) := by decide +kernel
theorem dX10_state_0 : decode cX10_state 0 = .ok (.aload_n 0, 1) := by decide +kernel
theorem dX10_state_1 : decode cX10_state 1 = .ok (.getfield 64, 3) := by decide +kernel
theorem dX10_state_4 : decode cX10_state 4 = .ok (.ifCond .ne 5, 3) := by decide +kernel
theorem dX10_state_7 : decode cX10_state 7 = .ok (.iconst 0, 1) := by decide +kernel
theorem dX10_state_8 : decode cX10_state 8 = .ok (.ireturn, 1) := by decide +kernel
theorem dX10_state_9 : decode cX10_state 9 = .ok (.aload_n 0, 1) := by decide +kernel
theorem dX10_state_10 : decode cX10_state 10 = .ok (.getfield 71, 3) := by decide +kernel
theorem dX10_state_13 : decode cX10_state 13 = .ok (.ifCond .ne 5, 3) := by decide +kernel
theorem dX10_state_16 : decode cX10_state 16 = .ok (.iconst 1, 1) := by decide +kernel
theorem dX10_state_17 : decode cX10_state 17 = .ok (.ireturn, 1) := by decide +kernel
theorem dX10_state_18 : decode cX10_state 18 = .ok (.aload_n 0, 1) := by decide +kernel
theorem dX10_state_19 : decode cX10_state 19 = .ok (.getfield 118, 3) := by decide +kernel
theorem dX10_state_22 : decode cX10_state 22 = .ok (.ifCond .le 8, 3) := by decide +kernel
theorem dX10_state_25 : decode cX10_state 25 = .ok (.aload_n 0, 1) := by decide +kernel
theorem dX10_state_26 : decode cX10_state 26 = .ok (.getfield 118, 3) := by decide +kernel
theorem dX10_state_29 : decode cX10_state 29 = .ok (.ireturn, 1) := by decide +kernel
theorem dX10_state_30 : decode cX10_state 30 = .ok (.aload_n 0, 1) := by decide +kernel
theorem dX10_state_31 : decode cX10_state 31 = .ok (.getfield 121, 3) := by decide +kernel
theorem dX10_state_34 : decode cX10_state 34 = .ok (.iconst 1, 1) := by decide +kernel
theorem dX10_state_35 : decode cX10_state 35 = .ok (.if_icmp .ne 7, 3) := by decide +kernel
theorem dX10_state_38 : decode cX10_state 38 = .ok (.iconst 2, 1) := by decide +kernel
theorem dX10_state_39 : decode cX10_state 39 = .ok (.goto 27, 3) := by decide +kernel
theorem dX10_state_42 : decode cX10_state 42 = .ok (.aload_n 0, 1) := by decide +kernel
theorem dX10_state_43 : decode cX10_state 43 = .ok (.getfield 121, 3) := by decide +kernel
theorem dX10_state_46 : decode cX10_state 46 = .ok (.ifCond .ne 7, 3) := by decide +kernel
theorem dX10_state_49 : decode cX10_state 49 = .ok (.iconst 3, 1) := by decide +kernel
theorem dX10_state_50 : decode cX10_state 50 = .ok (.goto 16, 3) := by decide +kernel
theorem dX10_state_53 : decode cX10_state 53 = .ok (.aload_n 0, 1) := by decide +kernel
theorem dX10_state_54 : decode cX10_state 54 = .ok (.getfield 121, 3) := by decide +kernel
theorem dX10_state_57 : decode cX10_state 57 = .ok (.iconst 2, 1) := by decide +kernel
theorem dX10_state_58 : decode cX10_state 58 = .ok (.if_icmp .ne 7, 3) := by decide +kernel
theorem dX10_state_61 : decode cX10_state 61 = .ok (.iconst 4, 1) := by decide +kernel
theorem dX10_state_62 : decode cX10_state 62 = .ok (.goto 4, 3) := by decide +kernel
theorem dX10_state_65 : decode cX10_state 65 = .ok (.iconst 5, 1) := by decide +kernel
theorem dX10_state_66 : decode cX10_state 66 = .ok (.ireturn, 1) := by decide +kernel
theorem dX10_told_0 : decode cX10_told 0 = .ok (.iload_n 1, 1) := by decide +kernel
theorem dX10_told_1 : decode cX10_told 1 = .ok (.ifCond .lt 18, 3) := by decide +kernel
theorem dX10_told_4 : decode cX10_told 4 = .ok (.iload_n 1, 1) := by decide +kernel
theorem dX10_told_5 : decode cX10_told 5 = .ok (.bipush 32, 2) := by decide +kernel
theorem dX10_told_7 : decode cX10_told 7 = .ok (.if_icmp .ge 12, 3) := by decide +kernel
theorem dX10_told_10 : decode cX10_told 10 = .ok (.aload_n 0, 1) := by decide +kernel
theorem dX10_told_11 : decode cX10_told 11 = .ok (.getfield 154, 3) := by decide +kernel
theorem dX10_told_14 : decode cX10_told 14 = .ok (.iload_n 1, 1) := by decide +kernel
theorem dX10_told_15 : decode cX10_told 15 = .ok (.iaload, 1) := by decide +kernel
theorem dX10_told_16 : decode cX10_told 16 = .ok (.goto 43, 3) := by decide +kernel
theorem dX10_told_19 : decode cX10_told 19 = .ok (.iload_n 1, 1) := by decide +kernel
theorem dX10_told_20 : decode cX10_told 20 = .ok (.bipush 32, 2) := by decide +kernel
theorem dX10_told_22 : decode cX10_told 22 = .ok (.if_icmp .ne 10, 3) := by decide +kernel
theorem dX10_told_25 : decode cX10_told 25 = .ok (.aload_n 0, 1) := by decide +kernel
theorem dX10_told_26 : decode cX10_told 26 = .ok (.getfield 157, 3) := by decide +kernel
theorem dX10_told_29 : decode cX10_told 29 = .ok (.goto 30, 3) := by decide +kernel
theorem dX10_told_32 : decode cX10_told 32 = .ok (.iload_n 1, 1) := by decide +kernel
theorem dX10_told_33 : decode cX10_told 33 = .ok (.bipush 33, 2) := by decide +kernel
theorem dX10_told_35 : decode cX10_told 35 = .ok (.if_icmp .ne 10, 3) := by decide +kernel
theorem dX10_told_38 : decode cX10_told 38 = .ok (.aload_n 0, 1) := by decide +kernel
theorem dX10_told_39 : decode cX10_told 39 = .ok (.getfield 160, 3) := by decide +kernel
theorem dX10_told_42 : decode cX10_told 42 = .ok (.goto 17, 3) := by decide +kernel
theorem dX10_told_45 : decode cX10_told 45 = .ok (.iload_n 1, 1) := by decide +kernel
theorem dX10_told_46 : decode cX10_told 46 = .ok (.bipush 34, 2) := by decide +kernel
theorem dX10_told_48 : decode cX10_told 48 = .ok (.if_icmp .ne 10, 3) := by decide +kernel
theorem dX10_told_51 : decode cX10_told 51 = .ok (.aload_n 0, 1) := by decide +kernel
theorem dX10_told_52 : decode cX10_told 52 = .ok (.getfield 163, 3) := by decide +kernel
theorem dX10_told_55 : decode cX10_told 55 = .ok (.goto 4, 3) := by decide +kernel
theorem dX10_told_58 : decode cX10_told 58 = .ok (.iconst 0, 1) := by decide +kernel
theorem dX10_told_59 : decode cX10_told 59 = .ok (.ireturn, 1) := by decide +kernel
theorem dX10_register_0 : decode cX10_register 0 = .ok (.aload_n 0, 1) := by decide +kernel
theorem dX10_register_1 : decode cX10_register 1 = .ok (.getfield 71, 3) := by decide +kernel
theorem dX10_register_4 : decode cX10_register 4 = .ok (.ifCond .ne 5, 3) := by decide +kernel
theorem dX10_register_7 : decode cX10_register 7 = .ok (.iconst 0, 1) := by decide +kernel
theorem dX10_register_8 : decode cX10_register 8 = .ok (.ireturn, 1) := by decide +kernel
theorem dX10_register_9 : decode cX10_register 9 = .ok (.iload_n 1, 1) := by decide +kernel
theorem dX10_register_10 : decode cX10_register 10 = .ok (.bipush 35, 2) := by decide +kernel
theorem dX10_register_12 : decode cX10_register 12 = .ok (.if_icmp .ne 13, 3) := by decide +kernel
theorem dX10_register_15 : decode cX10_register 15 = .ok (.aload_n 0, 1) := by decide +kernel
theorem dX10_register_16 : decode cX10_register 16 = .ok (.getfield 24, 3) := by decide +kernel
theorem dX10_register_19 : decode cX10_register 19 = .ok (.getfield 166, 3) := by decide +kernel
theorem dX10_register_22 : decode cX10_register 22 = .ok (.goto 24, 3) := by decide +kernel
theorem dX10_register_25 : decode cX10_register 25 = .ok (.iload_n 1, 1) := by decide +kernel
theorem dX10_register_26 : decode cX10_register 26 = .ok (.bipush 36, 2) := by decide +kernel
theorem dX10_register_28 : decode cX10_register 28 = .ok (.if_icmp .ne 10, 3) := by decide +kernel
theorem dX10_register_31 : decode cX10_register 31 = .ok (.aload_n 0, 1) := by decide +kernel
theorem dX10_register_32 : decode cX10_register 32 = .ok (.getfield 115, 3) := by decide +kernel
theorem dX10_register_35 : decode cX10_register 35 = .ok (.goto 11, 3) := by decide +kernel
theorem dX10_register_38 : decode cX10_register 38 = .ok (.aload_n 0, 1) := by decide +kernel
theorem dX10_register_39 : decode cX10_register 39 = .ok (.getfield 24, 3) := by decide +kernel
theorem dX10_register_42 : decode cX10_register 42 = .ok (.iload_n 1, 1) := by decide +kernel
theorem dX10_register_43 : decode cX10_register 43 = .ok (.invokestatic 227, 3) := by decide +kernel
theorem dX10_register_46 : decode cX10_register 46 = .ok (.ireturn, 1) := by decide +kernel
theorem dX10_ram_0 : decode cX10_ram 0 = .ok (.aload_n 0, 1) := by decide +kernel
theorem dX10_ram_1 : decode cX10_ram 1 = .ok (.getfield 71, 3) := by decide +kernel
theorem dX10_ram_4 : decode cX10_ram 4 = .ok (.ifCond .eq 26, 3) := by decide +kernel
theorem dX10_ram_7 : decode cX10_ram 7 = .ok (.iload_n 1, 1) := by decide +kernel
theorem dX10_ram_8 : decode cX10_ram 8 = .ok (.ifCond .lt 22, 3) := by decide +kernel
theorem dX10_ram_11 : decode cX10_ram 11 = .ok (.iload_n 1, 1) := by decide +kernel
theorem dX10_ram_12 : decode cX10_ram 12 = .ok (.aload_n 0, 1) := by decide +kernel
theorem dX10_ram_13 : decode cX10_ram 13 = .ok (.getfield 77, 3) := by decide +kernel
theorem dX10_ram_16 : decode cX10_ram 16 = .ok (.if_icmp .ge 14, 3) := by decide +kernel
theorem dX10_ram_19 : decode cX10_ram 19 = .ok (.aload_n 0, 1) := by decide +kernel
theorem dX10_ram_20 : decode cX10_ram 20 = .ok (.getfield 24, 3) := by decide +kernel
theorem dX10_ram_23 : decode cX10_ram 23 = .ok (.iload_n 1, 1) := by decide +kernel
theorem dX10_ram_24 : decode cX10_ram 24 = .ok (.invokevirtual 231, 3) := by decide +kernel
theorem dX10_ram_27 : decode cX10_ram 27 = .ok (.goto 4, 3) := by decide +kernel
theorem dX10_ram_30 : decode cX10_ram 30 = .ok (.iconst (-1), 1) := by decide +kernel
theorem dX10_ram_31 : decode cX10_ram 31 = .ok (.ireturn, 1) := by decide +kernel
theorem dX10_words_0 : decode cX10_words 0 = .ok (.aload_n 0, 1) := by decide +kernel
theorem dX10_words_1 : decode cX10_words 1 = .ok (.getfield 64, 3) := by decide +kernel
theorem dX10_words_4 : decode cX10_words 4 = .ok (.ifCond .eq 10, 3) := by decide +kernel
theorem dX10_words_7 : decode cX10_words 7 = .ok (.aload_n 0, 1) := by decide +kernel
theorem dX10_words_8 : decode cX10_words 8 = .ok (.getfield 98, 3) := by decide +kernel
theorem dX10_words_11 : decode cX10_words 11 = .ok (.goto 4, 3) := by decide +kernel
theorem dX10_words_14 : decode cX10_words 14 = .ok (.iconst 0, 1) := by decide +kernel
theorem dX10_words_15 : decode cX10_words 15 = .ok (.ireturn, 1) := by decide +kernel
theorem dX10_word_0 : decode cX10_word 0 = .ok (.aload_n 0, 1) := by decide +kernel
theorem dX10_word_1 : decode cX10_word 1 = .ok (.getfield 64, 3) := by decide +kernel
theorem dX10_word_4 : decode cX10_word 4 = .ok (.ifCond .eq 24, 3) := by decide +kernel
theorem dX10_word_7 : decode cX10_word 7 = .ok (.iload_n 1, 1) := by decide +kernel
theorem dX10_word_8 : decode cX10_word 8 = .ok (.ifCond .lt 20, 3) := by decide +kernel
theorem dX10_word_11 : decode cX10_word 11 = .ok (.iload_n 1, 1) := by decide +kernel
theorem dX10_word_12 : decode cX10_word 12 = .ok (.aload_n 0, 1) := by decide +kernel
theorem dX10_word_13 : decode cX10_word 13 = .ok (.getfield 98, 3) := by decide +kernel
theorem dX10_word_16 : decode cX10_word 16 = .ok (.if_icmp .ge 12, 3) := by decide +kernel
theorem dX10_word_19 : decode cX10_word 19 = .ok (.aload_n 0, 1) := by decide +kernel
theorem dX10_word_20 : decode cX10_word 20 = .ok (.getfield 9, 3) := by decide +kernel
theorem dX10_word_23 : decode cX10_word 23 = .ok (.iload_n 1, 1) := by decide +kernel
theorem dX10_word_24 : decode cX10_word 24 = .ok (.iaload, 1) := by decide +kernel
theorem dX10_word_25 : decode cX10_word 25 = .ok (.goto 4, 3) := by decide +kernel
theorem dX10_word_28 : decode cX10_word 28 = .ok (.iconst 0, 1) := by decide +kernel
theorem dX10_word_29 : decode cX10_word 29 = .ok (.ireturn, 1) := by decide +kernel
theorem dX10_frames_0 : decode cX10_frames 0 = .ok (.aload_n 0, 1) := by decide +kernel
theorem dX10_frames_1 : decode cX10_frames 1 = .ok (.getfield 37, 3) := by decide +kernel
theorem dX10_frames_4 : decode cX10_frames 4 = .ok (.getfield 112, 3) := by decide +kernel
theorem dX10_frames_7 : decode cX10_frames 7 = .ok (.ireturn, 1) := by decide +kernel
theorem dX10_frame_0 : decode cX10_frame 0 = .ok (.aload_n 0, 1) := by decide +kernel
theorem dX10_frame_1 : decode cX10_frame 1 = .ok (.getfield 37, 3) := by decide +kernel
theorem dX10_frame_4 : decode cX10_frame 4 = .ok (.iload_n 1, 1) := by decide +kernel
theorem dX10_frame_5 : decode cX10_frame 5 = .ok (.invokevirtual 234, 3) := by decide +kernel
theorem dX10_frame_8 : decode cX10_frame 8 = .ok (.ifCond .ne 5, 3) := by decide +kernel
theorem dX10_frame_11 : decode cX10_frame 11 = .ok (.iconst (-1), 1) := by decide +kernel
theorem dX10_frame_12 : decode cX10_frame 12 = .ok (.ireturn, 1) := by decide +kernel
theorem dX10_frame_13 : decode cX10_frame 13 = .ok (.iload_n 2, 1) := by decide +kernel
theorem dX10_frame_14 : decode cX10_frame 14 = .ok (.ifCond .ne 15, 3) := by decide +kernel
theorem dX10_frame_17 : decode cX10_frame 17 = .ok (.aload_n 0, 1) := by decide +kernel
theorem dX10_frame_18 : decode cX10_frame 18 = .ok (.getfield 37, 3) := by decide +kernel
theorem dX10_frame_21 : decode cX10_frame 21 = .ok (.getfield 238, 3) := by decide +kernel
theorem dX10_frame_24 : decode cX10_frame 24 = .ok (.iload_n 1, 1) := by decide +kernel
theorem dX10_frame_25 : decode cX10_frame 25 = .ok (.iaload, 1) := by decide +kernel
theorem dX10_frame_26 : decode cX10_frame 26 = .ok (.goto 38, 3) := by decide +kernel
theorem dX10_frame_29 : decode cX10_frame 29 = .ok (.iload_n 2, 1) := by decide +kernel
theorem dX10_frame_30 : decode cX10_frame 30 = .ok (.iconst 1, 1) := by decide +kernel
theorem dX10_frame_31 : decode cX10_frame 31 = .ok (.if_icmp .ne 15, 3) := by decide +kernel
theorem dX10_frame_34 : decode cX10_frame 34 = .ok (.aload_n 0, 1) := by decide +kernel
theorem dX10_frame_35 : decode cX10_frame 35 = .ok (.getfield 37, 3) := by decide +kernel
theorem dX10_frame_38 : decode cX10_frame 38 = .ok (.getfield 241, 3) := by decide +kernel
theorem dX10_frame_41 : decode cX10_frame 41 = .ok (.iload_n 1, 1) := by decide +kernel
theorem dX10_frame_42 : decode cX10_frame 42 = .ok (.iaload, 1) := by decide +kernel
theorem dX10_frame_43 : decode cX10_frame 43 = .ok (.goto 21, 3) := by decide +kernel
theorem dX10_frame_46 : decode cX10_frame 46 = .ok (.iload_n 2, 1) := by decide +kernel
theorem dX10_frame_47 : decode cX10_frame 47 = .ok (.iconst 2, 1) := by decide +kernel
theorem dX10_frame_48 : decode cX10_frame 48 = .ok (.if_icmp .ne 15, 3) := by decide +kernel
theorem dX10_frame_51 : decode cX10_frame 51 = .ok (.aload_n 0, 1) := by decide +kernel
theorem dX10_frame_52 : decode cX10_frame 52 = .ok (.getfield 37, 3) := by decide +kernel
theorem dX10_frame_55 : decode cX10_frame 55 = .ok (.getfield 244, 3) := by decide +kernel
theorem dX10_frame_58 : decode cX10_frame 58 = .ok (.iload_n 1, 1) := by decide +kernel
theorem dX10_frame_59 : decode cX10_frame 59 = .ok (.iaload, 1) := by decide +kernel
theorem dX10_frame_60 : decode cX10_frame 60 = .ok (.goto 4, 3) := by decide +kernel
theorem dX10_frame_63 : decode cX10_frame 63 = .ok (.iconst (-1), 1) := by decide +kernel
theorem dX10_frame_64 : decode cX10_frame 64 = .ok (.ireturn, 1) := by decide +kernel
theorem dX10_heard_0 : decode cX10_heard 0 = .ok (.aload_n 0, 1) := by decide +kernel
theorem dX10_heard_1 : decode cX10_heard 1 = .ok (.getfield 37, 3) := by decide +kernel
theorem dX10_heard_4 : decode cX10_heard 4 = .ok (.iload_n 1, 1) := by decide +kernel
theorem dX10_heard_5 : decode cX10_heard 5 = .ok (.iload_n 2, 1) := by decide +kernel
theorem dX10_heard_6 : decode cX10_heard 6 = .ok (.invokevirtual 247, 3) := by decide +kernel
theorem dX10_heard_9 : decode cX10_heard 9 = .ok (.ireturn, 1) := by decide +kernel
theorem dX10_count_0 : decode cX10_count 0 = .ok (.aload_n 0, 1) := by decide +kernel
theorem dX10_count_1 : decode cX10_count 1 = .ok (.getfield 64, 3) := by decide +kernel
theorem dX10_count_4 : decode cX10_count 4 = .ok (.ifCond .ne 5, 3) := by decide +kernel
theorem dX10_count_7 : decode cX10_count 7 = .ok (.iconst (-1), 1) := by decide +kernel
theorem dX10_count_8 : decode cX10_count 8 = .ok (.ireturn, 1) := by decide +kernel
theorem dX10_count_9 : decode cX10_count 9 = .ok (.iload_n 1, 1) := by decide +kernel
theorem dX10_count_10 : decode cX10_count 10 = .ok (.tableswitch 77 0 6 #[42, 47, 52, 57, 62, 67, 72], 42) := by decide +kernel
theorem dX10_count_52 : decode cX10_count 52 = .ok (.aload_n 0, 1) := by decide +kernel
theorem dX10_count_53 : decode cX10_count 53 = .ok (.getfield 124, 3) := by decide +kernel
theorem dX10_count_56 : decode cX10_count 56 = .ok (.ireturn, 1) := by decide +kernel
theorem dX10_count_57 : decode cX10_count 57 = .ok (.aload_n 0, 1) := by decide +kernel
theorem dX10_count_58 : decode cX10_count 58 = .ok (.getfield 127, 3) := by decide +kernel
theorem dX10_count_61 : decode cX10_count 61 = .ok (.ireturn, 1) := by decide +kernel
theorem dX10_count_62 : decode cX10_count 62 = .ok (.aload_n 0, 1) := by decide +kernel
theorem dX10_count_63 : decode cX10_count 63 = .ok (.getfield 133, 3) := by decide +kernel
theorem dX10_count_66 : decode cX10_count 66 = .ok (.ireturn, 1) := by decide +kernel
theorem dX10_count_67 : decode cX10_count 67 = .ok (.aload_n 0, 1) := by decide +kernel
theorem dX10_count_68 : decode cX10_count 68 = .ok (.getfield 130, 3) := by decide +kernel
theorem dX10_count_71 : decode cX10_count 71 = .ok (.ireturn, 1) := by decide +kernel
theorem dX10_count_72 : decode cX10_count 72 = .ok (.aload_n 0, 1) := by decide +kernel
theorem dX10_count_73 : decode cX10_count 73 = .ok (.getfield 136, 3) := by decide +kernel
theorem dX10_count_76 : decode cX10_count 76 = .ok (.ireturn, 1) := by decide +kernel
theorem dX10_count_77 : decode cX10_count 77 = .ok (.aload_n 0, 1) := by decide +kernel
theorem dX10_count_78 : decode cX10_count 78 = .ok (.getfield 139, 3) := by decide +kernel
theorem dX10_count_81 : decode cX10_count 81 = .ok (.ireturn, 1) := by decide +kernel
theorem dX10_count_82 : decode cX10_count 82 = .ok (.aload_n 0, 1) := by decide +kernel
theorem dX10_count_83 : decode cX10_count 83 = .ok (.getfield 142, 3) := by decide +kernel
theorem dX10_count_86 : decode cX10_count 86 = .ok (.ireturn, 1) := by decide +kernel
theorem dX10_count_87 : decode cX10_count 87 = .ok (.iconst (-1), 1) := by decide +kernel
theorem dX10_count_88 : decode cX10_count 88 = .ok (.ireturn, 1) := by decide +kernel
theorem dX10_plain_0 : decode cX10_plain 0 = .ok (.aload_n 0, 1) := by decide +kernel
theorem dX10_plain_1 : decode cX10_plain 1 = .ok (.getfield 64, 3) := by decide +kernel
theorem dX10_plain_4 : decode cX10_plain 4 = .ok (.ifCond .eq 14, 3) := by decide +kernel
theorem dX10_plain_7 : decode cX10_plain 7 = .ok (.iload_n 1, 1) := by decide +kernel
theorem dX10_plain_8 : decode cX10_plain 8 = .ok (.ifCond .lt 10, 3) := by decide +kernel
theorem dX10_plain_11 : decode cX10_plain 11 = .ok (.iload_n 1, 1) := by decide +kernel
theorem dX10_plain_12 : decode cX10_plain 12 = .ok (.sipush 20000, 3) := by decide +kernel
theorem dX10_plain_15 : decode cX10_plain 15 = .ok (.if_icmp .le 5, 3) := by decide +kernel
theorem dX10_plain_18 : decode cX10_plain 18 = .ok (.iconst (-1), 1) := by decide +kernel
theorem dX10_plain_19 : decode cX10_plain 19 = .ok (.ireturn, 1) := by decide +kernel
theorem dX10_plain_20 : decode cX10_plain 20 = .ok (.aload_n 0, 1) := by decide +kernel
theorem dX10_plain_21 : decode cX10_plain 21 = .ok (.iconst 1, 1) := by decide +kernel
theorem dX10_plain_22 : decode cX10_plain 22 = .ok (.putfield 74, 3) := by decide +kernel
theorem dX10_plain_25 : decode cX10_plain 25 = .ok (.aload_n 0, 1) := by decide +kernel
theorem dX10_plain_26 : decode cX10_plain 26 = .ok (.getfield 41, 3) := by decide +kernel
theorem dX10_plain_29 : decode cX10_plain 29 = .ok (.iconst 0, 1) := by decide +kernel
theorem dX10_plain_30 : decode cX10_plain 30 = .ok (.putfield 112, 3) := by decide +kernel
theorem dX10_plain_33 : decode cX10_plain 33 = .ok (.iconst 0, 1) := by decide +kernel
theorem dX10_plain_34 : decode cX10_plain 34 = .ok (.istore_n 2, 1) := by decide +kernel
theorem dX10_plain_35 : decode cX10_plain 35 = .ok (.iload_n 2, 1) := by decide +kernel
theorem dX10_plain_36 : decode cX10_plain 36 = .ok (.sipush 2048, 3) := by decide +kernel
theorem dX10_plain_39 : decode cX10_plain 39 = .ok (.if_icmp .ge 21, 3) := by decide +kernel
theorem dX10_plain_42 : decode cX10_plain 42 = .ok (.aload_n 0, 1) := by decide +kernel
theorem dX10_plain_43 : decode cX10_plain 43 = .ok (.getfield 31, 3) := by decide +kernel
theorem dX10_plain_46 : decode cX10_plain 46 = .ok (.iload_n 2, 1) := by decide +kernel
theorem dX10_plain_47 : decode cX10_plain 47 = .ok (.aload_n 0, 1) := by decide +kernel
theorem dX10_plain_48 : decode cX10_plain 48 = .ok (.getfield 13, 3) := by decide +kernel
theorem dX10_plain_51 : decode cX10_plain 51 = .ok (.iload_n 2, 1) := by decide +kernel
theorem dX10_plain_52 : decode cX10_plain 52 = .ok (.iaload, 1) := by decide +kernel
theorem dX10_plain_53 : decode cX10_plain 53 = .ok (.iastore, 1) := by decide +kernel
theorem dX10_plain_54 : decode cX10_plain 54 = .ok (.iinc 2 1, 3) := by decide +kernel
theorem dX10_plain_57 : decode cX10_plain 57 = .ok (.goto (-22), 3) := by decide +kernel
theorem dX10_plain_60 : decode cX10_plain 60 = .ok (.aload_n 0, 1) := by decide +kernel
theorem dX10_plain_61 : decode cX10_plain 61 = .ok (.getfield 28, 3) := by decide +kernel
theorem dX10_plain_64 : decode cX10_plain 64 = .ok (.aload_n 0, 1) := by decide +kernel
theorem dX10_plain_65 : decode cX10_plain 65 = .ok (.getfield 31, 3) := by decide +kernel
theorem dX10_plain_68 : decode cX10_plain 68 = .ok (.putfield 101, 3) := by decide +kernel
theorem dX10_plain_71 : decode cX10_plain 71 = .ok (.aload_n 0, 1) := by decide +kernel
theorem dX10_plain_72 : decode cX10_plain 72 = .ok (.getfield 28, 3) := by decide +kernel
theorem dX10_plain_75 : decode cX10_plain 75 = .ok (.iconst 0, 1) := by decide +kernel
theorem dX10_plain_76 : decode cX10_plain 76 = .ok (.putfield 104, 3) := by decide +kernel
theorem dX10_plain_79 : decode cX10_plain 79 = .ok (.aload_n 0, 1) := by decide +kernel
theorem dX10_plain_80 : decode cX10_plain 80 = .ok (.getfield 28, 3) := by decide +kernel
theorem dX10_plain_83 : decode cX10_plain 83 = .ok (.aload_n 0, 1) := by decide +kernel
theorem dX10_plain_84 : decode cX10_plain 84 = .ok (.getfield 77, 3) := by decide +kernel
theorem dX10_plain_87 : decode cX10_plain 87 = .ok (.aload_n 0, 1) := by decide +kernel
theorem dX10_plain_88 : decode cX10_plain 88 = .ok (.getfield 80, 3) := by decide +kernel
theorem dX10_plain_91 : decode cX10_plain 91 = .ok (.aload_n 0, 1) := by decide +kernel
theorem dX10_plain_92 : decode cX10_plain 92 = .ok (.getfield 89, 3) := by decide +kernel
theorem dX10_plain_95 : decode cX10_plain 95 = .ok (.invokevirtual 251, 3) := by decide +kernel
theorem dX10_plain_98 : decode cX10_plain 98 = .ok (.aload_n 0, 1) := by decide +kernel
theorem dX10_plain_99 : decode cX10_plain 99 = .ok (.getfield 28, 3) := by decide +kernel
theorem dX10_plain_102 : decode cX10_plain 102 = .ok (.invokevirtual 204, 3) := by decide +kernel
theorem dX10_plain_105 : decode cX10_plain 105 = .ok (.aload_n 0, 1) := by decide +kernel
theorem dX10_plain_106 : decode cX10_plain 106 = .ok (.getfield 28, 3) := by decide +kernel
theorem dX10_plain_109 : decode cX10_plain 109 = .ok (.getfield 166, 3) := by decide +kernel
theorem dX10_plain_112 : decode cX10_plain 112 = .ok (.iload_n 1, 1) := by decide +kernel
theorem dX10_plain_113 : decode cX10_plain 113 = .ok (.if_icmp .ge 53, 3) := by decide +kernel
theorem dX10_plain_116 : decode cX10_plain 116 = .ok (.aload_n 0, 1) := by decide +kernel
theorem dX10_plain_117 : decode cX10_plain 117 = .ok (.getfield 28, 3) := by decide +kernel
theorem dX10_plain_120 : decode cX10_plain 120 = .ok (.getfield 210, 3) := by decide +kernel
theorem dX10_plain_123 : decode cX10_plain 123 = .ok (.ifCond .ne 43, 3) := by decide +kernel
theorem dX10_plain_126 : decode cX10_plain 126 = .ok (.aload_n 0, 1) := by decide +kernel
theorem dX10_plain_127 : decode cX10_plain 127 = .ok (.getfield 28, 3) := by decide +kernel
theorem dX10_plain_130 : decode cX10_plain 130 = .ok (.getfield 207, 3) := by decide +kernel
theorem dX10_plain_133 : decode cX10_plain 133 = .ok (.iconst 2, 1) := by decide +kernel
theorem dX10_plain_134 : decode cX10_plain 134 = .ok (.if_icmp .ne 15, 3) := by decide +kernel
theorem dX10_plain_137 : decode cX10_plain 137 = .ok (.aload_n 0, 1) := by decide +kernel
theorem dX10_plain_138 : decode cX10_plain 138 = .ok (.getfield 28, 3) := by decide +kernel
theorem dX10_plain_141 : decode cX10_plain 141 = .ok (.aload_n 0, 1) := by decide +kernel
theorem dX10_plain_142 : decode cX10_plain 142 = .ok (.getfield 41, 3) := by decide +kernel
theorem dX10_plain_145 : decode cX10_plain 145 = .ok (.iconst 0, 1) := by decide +kernel
theorem dX10_plain_146 : decode cX10_plain 146 = .ok (.invokevirtual 223, 3) := by decide +kernel
theorem dX10_plain_149 : decode cX10_plain 149 = .ok (.aload_n 0, 1) := by decide +kernel
theorem dX10_plain_150 : decode cX10_plain 150 = .ok (.getfield 28, 3) := by decide +kernel
theorem dX10_plain_153 : decode cX10_plain 153 = .ok (.invokevirtual 219, 3) := by decide +kernel
theorem dX10_plain_156 : decode cX10_plain 156 = .ok (.aload_n 0, 1) := by decide +kernel
theorem dX10_plain_157 : decode cX10_plain 157 = .ok (.getfield 28, 3) := by decide +kernel
theorem dX10_plain_160 : decode cX10_plain 160 = .ok (.invokevirtual 204, 3) := by decide +kernel
theorem dX10_plain_163 : decode cX10_plain 163 = .ok (.goto (-58), 3) := by decide +kernel
theorem dX10_plain_166 : decode cX10_plain 166 = .ok (.aload_n 0, 1) := by decide +kernel
theorem dX10_plain_167 : decode cX10_plain 167 = .ok (.getfield 28, 3) := by decide +kernel
theorem dX10_plain_170 : decode cX10_plain 170 = .ok (.getfield 166, 3) := by decide +kernel
theorem dX10_plain_173 : decode cX10_plain 173 = .ok (.ireturn, 1) := by decide +kernel
theorem dX10_plainly_0 : decode cX10_plainly 0 = .ok (.aload_n 0, 1) := by decide +kernel
theorem dX10_plainly_1 : decode cX10_plainly 1 = .ok (.getfield 74, 3) := by decide +kernel
theorem dX10_plainly_4 : decode cX10_plainly 4 = .ok (.ifCond .ne 5, 3) := by decide +kernel
theorem dX10_plainly_7 : decode cX10_plainly 7 = .ok (.iconst 0, 1) := by decide +kernel
theorem dX10_plainly_8 : decode cX10_plainly 8 = .ok (.ireturn, 1) := by decide +kernel
theorem dX10_plainly_9 : decode cX10_plainly 9 = .ok (.iload_n 1, 1) := by decide +kernel
theorem dX10_plainly_10 : decode cX10_plainly 10 = .ok (.bipush 35, 2) := by decide +kernel
theorem dX10_plainly_12 : decode cX10_plainly 12 = .ok (.if_icmp .ne 13, 3) := by decide +kernel
theorem dX10_plainly_15 : decode cX10_plainly 15 = .ok (.aload_n 0, 1) := by decide +kernel
theorem dX10_plainly_16 : decode cX10_plainly 16 = .ok (.getfield 28, 3) := by decide +kernel
theorem dX10_plainly_19 : decode cX10_plainly 19 = .ok (.getfield 210, 3) := by decide +kernel
theorem dX10_plainly_22 : decode cX10_plainly 22 = .ok (.goto 11, 3) := by decide +kernel
theorem dX10_plainly_25 : decode cX10_plainly 25 = .ok (.aload_n 0, 1) := by decide +kernel
theorem dX10_plainly_26 : decode cX10_plainly 26 = .ok (.getfield 28, 3) := by decide +kernel
theorem dX10_plainly_29 : decode cX10_plainly 29 = .ok (.iload_n 1, 1) := by decide +kernel
theorem dX10_plainly_30 : decode cX10_plainly 30 = .ok (.invokestatic 227, 3) := by decide +kernel
theorem dX10_plainly_33 : decode cX10_plainly 33 = .ok (.ireturn, 1) := by decide +kernel
theorem dX10_plainByte_0 : decode cX10_plainByte 0 = .ok (.aload_n 0, 1) := by decide +kernel
theorem dX10_plainByte_1 : decode cX10_plainByte 1 = .ok (.getfield 74, 3) := by decide +kernel
theorem dX10_plainByte_4 : decode cX10_plainByte 4 = .ok (.ifCond .eq 26, 3) := by decide +kernel
theorem dX10_plainByte_7 : decode cX10_plainByte 7 = .ok (.aload_n 0, 1) := by decide +kernel
theorem dX10_plainByte_8 : decode cX10_plainByte 8 = .ok (.getfield 28, 3) := by decide +kernel
theorem dX10_plainByte_11 : decode cX10_plainByte 11 = .ok (.iload_n 1, 1) := by decide +kernel
theorem dX10_plainByte_12 : decode cX10_plainByte 12 = .ok (.lconst 1, 1) := by decide +kernel
theorem dX10_plainByte_13 : decode cX10_plainByte 13 = .ok (.invokevirtual 255, 3) := by decide +kernel
theorem dX10_plainByte_16 : decode cX10_plainByte 16 = .ok (.ifCond .eq 14, 3) := by decide +kernel
theorem dX10_plainByte_19 : decode cX10_plainByte 19 = .ok (.aload_n 0, 1) := by decide +kernel
theorem dX10_plainByte_20 : decode cX10_plainByte 20 = .ok (.getfield 28, 3) := by decide +kernel
theorem dX10_plainByte_23 : decode cX10_plainByte 23 = .ok (.iload_n 1, 1) := by decide +kernel
theorem dX10_plainByte_24 : decode cX10_plainByte 24 = .ok (.invokevirtual 231, 3) := by decide +kernel
theorem dX10_plainByte_27 : decode cX10_plainByte 27 = .ok (.goto 4, 3) := by decide +kernel
theorem dX10_plainByte_30 : decode cX10_plainByte 30 = .ok (.iconst (-1), 1) := by decide +kernel
theorem dX10_plainByte_31 : decode cX10_plainByte 31 = .ok (.ireturn, 1) := by decide +kernel
theorem dX10_plainFrame_0 : decode cX10_plainFrame 0 = .ok (.aload_n 0, 1) := by decide +kernel
theorem dX10_plainFrame_1 : decode cX10_plainFrame 1 = .ok (.getfield 74, 3) := by decide +kernel
theorem dX10_plainFrame_4 : decode cX10_plainFrame 4 = .ok (.ifCond .eq 26, 3) := by decide +kernel
theorem dX10_plainFrame_7 : decode cX10_plainFrame 7 = .ok (.aload_n 0, 1) := by decide +kernel
theorem dX10_plainFrame_8 : decode cX10_plainFrame 8 = .ok (.getfield 41, 3) := by decide +kernel
theorem dX10_plainFrame_11 : decode cX10_plainFrame 11 = .ok (.iload_n 1, 1) := by decide +kernel
theorem dX10_plainFrame_12 : decode cX10_plainFrame 12 = .ok (.invokevirtual 234, 3) := by decide +kernel
theorem dX10_plainFrame_15 : decode cX10_plainFrame 15 = .ok (.ifCond .eq 15, 3) := by decide +kernel
theorem dX10_plainFrame_18 : decode cX10_plainFrame 18 = .ok (.aload_n 0, 1) := by decide +kernel
theorem dX10_plainFrame_19 : decode cX10_plainFrame 19 = .ok (.getfield 41, 3) := by decide +kernel
theorem dX10_plainFrame_22 : decode cX10_plainFrame 22 = .ok (.getfield 241, 3) := by decide +kernel
theorem dX10_plainFrame_25 : decode cX10_plainFrame 25 = .ok (.iload_n 1, 1) := by decide +kernel
theorem dX10_plainFrame_26 : decode cX10_plainFrame 26 = .ok (.iaload, 1) := by decide +kernel
theorem dX10_plainFrame_27 : decode cX10_plainFrame 27 = .ok (.goto 4, 3) := by decide +kernel
theorem dX10_plainFrame_30 : decode cX10_plainFrame 30 = .ok (.iconst (-1), 1) := by decide +kernel
theorem dX10_plainFrame_31 : decode cX10_plainFrame 31 = .ok (.ireturn, 1) := by decide +kernel
theorem dX10_plainHeard_0 : decode cX10_plainHeard 0 = .ok (.aload_n 0, 1) := by decide +kernel
theorem dX10_plainHeard_1 : decode cX10_plainHeard 1 = .ok (.getfield 74, 3) := by decide +kernel
theorem dX10_plainHeard_4 : decode cX10_plainHeard 4 = .ok (.ifCond .eq 15, 3) := by decide +kernel
theorem dX10_plainHeard_7 : decode cX10_plainHeard 7 = .ok (.aload_n 0, 1) := by decide +kernel
theorem dX10_plainHeard_8 : decode cX10_plainHeard 8 = .ok (.getfield 41, 3) := by decide +kernel
theorem dX10_plainHeard_11 : decode cX10_plainHeard 11 = .ok (.iload_n 1, 1) := by decide +kernel
theorem dX10_plainHeard_12 : decode cX10_plainHeard 12 = .ok (.iload_n 2, 1) := by decide +kernel
theorem dX10_plainHeard_13 : decode cX10_plainHeard 13 = .ok (.invokevirtual 247, 3) := by decide +kernel
theorem dX10_plainHeard_16 : decode cX10_plainHeard 16 = .ok (.goto 4, 3) := by decide +kernel
theorem dX10_plainHeard_19 : decode cX10_plainHeard 19 = .ok (.iconst (-1), 1) := by decide +kernel
theorem dX10_plainHeard_20 : decode cX10_plainHeard 20 = .ok (.ireturn, 1) := by decide +kernel
theorem dX10_strays_0 : decode cX10_strays 0 = .ok (.aload_n 0, 1) := by decide +kernel
theorem dX10_strays_1 : decode cX10_strays 1 = .ok (.getfield 173, 3) := by decide +kernel
theorem dX10_strays_4 : decode cX10_strays 4 = .ok (.ireturn, 1) := by decide +kernel
theorem dL_law_0 : decode cL_law 0 = .ok (.new 7, 3) := by decide +kernel
theorem dL_law_3 : decode cL_law 3 = .ok (.dup, 1) := by decide +kernel
theorem dL_law_4 : decode cL_law 4 = .ok (.invokespecial 9, 3) := by decide +kernel
theorem dL_law_7 : decode cL_law 7 = .ok (.astore_n 1, 1) := by decide +kernel
theorem dL_law_8 : decode cL_law 8 = .ok (.new 10, 3) := by decide +kernel
theorem dL_law_11 : decode cL_law 11 = .ok (.dup, 1) := by decide +kernel
theorem dL_law_12 : decode cL_law 12 = .ok (.invokespecial 12, 3) := by decide +kernel
theorem dL_law_15 : decode cL_law 15 = .ok (.astore_n 2, 1) := by decide +kernel
theorem dL_law_16 : decode cL_law 16 = .ok (.iconst 0, 1) := by decide +kernel
theorem dL_law_17 : decode cL_law 17 = .ok (.istore_n 3, 1) := by decide +kernel
theorem dL_law_18 : decode cL_law 18 = .ok (.iload_n 3, 1) := by decide +kernel
theorem dL_law_19 : decode cL_law 19 = .ok (.aload_n 0, 1) := by decide +kernel
theorem dL_law_20 : decode cL_law 20 = .ok (.arraylength, 1) := by decide +kernel
theorem dL_law_21 : decode cL_law 21 = .ok (.bipush 6, 2) := by decide +kernel
theorem dL_law_23 : decode cL_law 23 = .ok (.isub, 1) := by decide +kernel
theorem dL_law_24 : decode cL_law 24 = .ok (.if_icmp .gt 674, 3) := by decide +kernel
theorem dL_law_27 : decode cL_law 27 = .ok (.aload_n 0, 1) := by decide +kernel
theorem dL_law_28 : decode cL_law 28 = .ok (.iload_n 3, 1) := by decide +kernel
theorem dL_law_29 : decode cL_law 29 = .ok (.iaload, 1) := by decide +kernel
theorem dL_law_30 : decode cL_law 30 = .ok (.bipush 31, 2) := by decide +kernel
theorem dL_law_32 : decode cL_law 32 = .ok (.iand, 1) := by decide +kernel
theorem dL_law_33 : decode cL_law 33 = .ok (.tableswitch 659 0 21 #[103, 166, 189, 252, 275, 288, 301, 324, 337, 360, 383, 396, 419, 432, 465, 498, 521, 544, 567, 590, 613, 646], 103) := by decide +kernel
theorem dL_law_136 : decode cL_law 136 = .ok (.aload_n 1, 1) := by decide +kernel
theorem dL_law_137 : decode cL_law 137 = .ok (.aload_n 0, 1) := by decide +kernel
theorem dL_law_138 : decode cL_law 138 = .ok (.iload_n 3, 1) := by decide +kernel
theorem dL_law_139 : decode cL_law 139 = .ok (.iconst 1, 1) := by decide +kernel
theorem dL_law_140 : decode cL_law 140 = .ok (.iadd, 1) := by decide +kernel
theorem dL_law_141 : decode cL_law 141 = .ok (.iaload, 1) := by decide +kernel
theorem dL_law_142 : decode cL_law 142 = .ok (.aload_n 0, 1) := by decide +kernel
theorem dL_law_143 : decode cL_law 143 = .ok (.iload_n 3, 1) := by decide +kernel
theorem dL_law_144 : decode cL_law 144 = .ok (.iconst 2, 1) := by decide +kernel
theorem dL_law_145 : decode cL_law 145 = .ok (.iadd, 1) := by decide +kernel
theorem dL_law_146 : decode cL_law 146 = .ok (.iaload, 1) := by decide +kernel
theorem dL_law_147 : decode cL_law 147 = .ok (.aload_n 0, 1) := by decide +kernel
theorem dL_law_148 : decode cL_law 148 = .ok (.iload_n 3, 1) := by decide +kernel
theorem dL_law_149 : decode cL_law 149 = .ok (.iconst 3, 1) := by decide +kernel
theorem dL_law_150 : decode cL_law 150 = .ok (.iadd, 1) := by decide +kernel
theorem dL_law_151 : decode cL_law 151 = .ok (.iaload, 1) := by decide +kernel
theorem dL_law_152 : decode cL_law 152 = .ok (.aload_n 0, 1) := by decide +kernel
theorem dL_law_153 : decode cL_law 153 = .ok (.iload_n 3, 1) := by decide +kernel
theorem dL_law_154 : decode cL_law 154 = .ok (.iconst 4, 1) := by decide +kernel
theorem dL_law_155 : decode cL_law 155 = .ok (.iadd, 1) := by decide +kernel
theorem dL_law_156 : decode cL_law 156 = .ok (.iaload, 1) := by decide +kernel
theorem dL_law_157 : decode cL_law 157 = .ok (.aload_n 0, 1) := by decide +kernel
theorem dL_law_158 : decode cL_law 158 = .ok (.iload_n 3, 1) := by decide +kernel
theorem dL_law_159 : decode cL_law 159 = .ok (.iconst 5, 1) := by decide +kernel
theorem dL_law_160 : decode cL_law 160 = .ok (.iadd, 1) := by decide +kernel
theorem dL_law_161 : decode cL_law 161 = .ok (.iaload, 1) := by decide +kernel
theorem dL_law_162 : decode cL_law 162 = .ok (.invokevirtual 13, 3) := by decide +kernel
theorem dL_law_165 : decode cL_law 165 = .ok (.aload_n 2, 1) := by decide +kernel
theorem dL_law_166 : decode cL_law 166 = .ok (.aload_n 0, 1) := by decide +kernel
theorem dL_law_167 : decode cL_law 167 = .ok (.iload_n 3, 1) := by decide +kernel
theorem dL_law_168 : decode cL_law 168 = .ok (.iconst 1, 1) := by decide +kernel
theorem dL_law_169 : decode cL_law 169 = .ok (.iadd, 1) := by decide +kernel
theorem dL_law_170 : decode cL_law 170 = .ok (.iaload, 1) := by decide +kernel
theorem dL_law_171 : decode cL_law 171 = .ok (.aload_n 0, 1) := by decide +kernel
theorem dL_law_172 : decode cL_law 172 = .ok (.iload_n 3, 1) := by decide +kernel
theorem dL_law_173 : decode cL_law 173 = .ok (.iconst 2, 1) := by decide +kernel
theorem dL_law_174 : decode cL_law 174 = .ok (.iadd, 1) := by decide +kernel
theorem dL_law_175 : decode cL_law 175 = .ok (.iaload, 1) := by decide +kernel
theorem dL_law_176 : decode cL_law 176 = .ok (.aload_n 0, 1) := by decide +kernel
theorem dL_law_177 : decode cL_law 177 = .ok (.iload_n 3, 1) := by decide +kernel
theorem dL_law_178 : decode cL_law 178 = .ok (.iconst 3, 1) := by decide +kernel
theorem dL_law_179 : decode cL_law 179 = .ok (.iadd, 1) := by decide +kernel
theorem dL_law_180 : decode cL_law 180 = .ok (.iaload, 1) := by decide +kernel
theorem dL_law_181 : decode cL_law 181 = .ok (.aload_n 0, 1) := by decide +kernel
theorem dL_law_182 : decode cL_law 182 = .ok (.iload_n 3, 1) := by decide +kernel
theorem dL_law_183 : decode cL_law 183 = .ok (.iconst 4, 1) := by decide +kernel
theorem dL_law_184 : decode cL_law 184 = .ok (.iadd, 1) := by decide +kernel
theorem dL_law_185 : decode cL_law 185 = .ok (.iaload, 1) := by decide +kernel
theorem dL_law_186 : decode cL_law 186 = .ok (.aload_n 0, 1) := by decide +kernel
theorem dL_law_187 : decode cL_law 187 = .ok (.iload_n 3, 1) := by decide +kernel
theorem dL_law_188 : decode cL_law 188 = .ok (.iconst 5, 1) := by decide +kernel
theorem dL_law_189 : decode cL_law 189 = .ok (.iadd, 1) := by decide +kernel
theorem dL_law_190 : decode cL_law 190 = .ok (.iaload, 1) := by decide +kernel
theorem dL_law_191 : decode cL_law 191 = .ok (.invokevirtual 17, 3) := by decide +kernel
theorem dL_law_194 : decode cL_law 194 = .ok (.if_icmp .eq 498, 3) := by decide +kernel
theorem dL_law_197 : decode cL_law 197 = .ok (.iconst 0, 1) := by decide +kernel
theorem dL_law_198 : decode cL_law 198 = .ok (.ireturn, 1) := by decide +kernel
theorem dL_law_199 : decode cL_law 199 = .ok (.aload_n 1, 1) := by decide +kernel
theorem dL_law_200 : decode cL_law 200 = .ok (.aload_n 0, 1) := by decide +kernel
theorem dL_law_201 : decode cL_law 201 = .ok (.iload_n 3, 1) := by decide +kernel
theorem dL_law_202 : decode cL_law 202 = .ok (.iconst 1, 1) := by decide +kernel
theorem dL_law_203 : decode cL_law 203 = .ok (.iadd, 1) := by decide +kernel
theorem dL_law_204 : decode cL_law 204 = .ok (.iaload, 1) := by decide +kernel
theorem dL_law_205 : decode cL_law 205 = .ok (.invokevirtual 18, 3) := by decide +kernel
theorem dL_law_208 : decode cL_law 208 = .ok (.aload_n 2, 1) := by decide +kernel
theorem dL_law_209 : decode cL_law 209 = .ok (.aload_n 0, 1) := by decide +kernel
theorem dL_law_210 : decode cL_law 210 = .ok (.iload_n 3, 1) := by decide +kernel
theorem dL_law_211 : decode cL_law 211 = .ok (.iconst 1, 1) := by decide +kernel
theorem dL_law_212 : decode cL_law 212 = .ok (.iadd, 1) := by decide +kernel
theorem dL_law_213 : decode cL_law 213 = .ok (.iaload, 1) := by decide +kernel
theorem dL_law_214 : decode cL_law 214 = .ok (.invokevirtual 22, 3) := by decide +kernel
theorem dL_law_217 : decode cL_law 217 = .ok (.if_icmp .eq 475, 3) := by decide +kernel
theorem dL_law_220 : decode cL_law 220 = .ok (.iconst 0, 1) := by decide +kernel
theorem dL_law_221 : decode cL_law 221 = .ok (.ireturn, 1) := by decide +kernel
theorem dL_law_222 : decode cL_law 222 = .ok (.aload_n 1, 1) := by decide +kernel
theorem dL_law_223 : decode cL_law 223 = .ok (.aload_n 0, 1) := by decide +kernel
theorem dL_law_224 : decode cL_law 224 = .ok (.iload_n 3, 1) := by decide +kernel
theorem dL_law_225 : decode cL_law 225 = .ok (.iconst 1, 1) := by decide +kernel
theorem dL_law_226 : decode cL_law 226 = .ok (.iadd, 1) := by decide +kernel
theorem dL_law_227 : decode cL_law 227 = .ok (.iaload, 1) := by decide +kernel
theorem dL_law_228 : decode cL_law 228 = .ok (.aload_n 0, 1) := by decide +kernel
theorem dL_law_229 : decode cL_law 229 = .ok (.iload_n 3, 1) := by decide +kernel
theorem dL_law_230 : decode cL_law 230 = .ok (.iconst 2, 1) := by decide +kernel
theorem dL_law_231 : decode cL_law 231 = .ok (.iadd, 1) := by decide +kernel
theorem dL_law_232 : decode cL_law 232 = .ok (.iaload, 1) := by decide +kernel
theorem dL_law_233 : decode cL_law 233 = .ok (.aload_n 0, 1) := by decide +kernel
theorem dL_law_234 : decode cL_law 234 = .ok (.iload_n 3, 1) := by decide +kernel
theorem dL_law_235 : decode cL_law 235 = .ok (.iconst 3, 1) := by decide +kernel
theorem dL_law_236 : decode cL_law 236 = .ok (.iadd, 1) := by decide +kernel
theorem dL_law_237 : decode cL_law 237 = .ok (.iaload, 1) := by decide +kernel
theorem dL_law_238 : decode cL_law 238 = .ok (.aload_n 0, 1) := by decide +kernel
theorem dL_law_239 : decode cL_law 239 = .ok (.iload_n 3, 1) := by decide +kernel
theorem dL_law_240 : decode cL_law 240 = .ok (.iconst 4, 1) := by decide +kernel
theorem dL_law_241 : decode cL_law 241 = .ok (.iadd, 1) := by decide +kernel
theorem dL_law_242 : decode cL_law 242 = .ok (.iaload, 1) := by decide +kernel
theorem dL_law_243 : decode cL_law 243 = .ok (.aload_n 0, 1) := by decide +kernel
theorem dL_law_244 : decode cL_law 244 = .ok (.iload_n 3, 1) := by decide +kernel
theorem dL_law_245 : decode cL_law 245 = .ok (.iconst 5, 1) := by decide +kernel
theorem dL_law_246 : decode cL_law 246 = .ok (.iadd, 1) := by decide +kernel
theorem dL_law_247 : decode cL_law 247 = .ok (.iaload, 1) := by decide +kernel
theorem dL_law_248 : decode cL_law 248 = .ok (.invokevirtual 23, 3) := by decide +kernel
theorem dL_law_251 : decode cL_law 251 = .ok (.aload_n 2, 1) := by decide +kernel
theorem dL_law_252 : decode cL_law 252 = .ok (.aload_n 0, 1) := by decide +kernel
theorem dL_law_253 : decode cL_law 253 = .ok (.iload_n 3, 1) := by decide +kernel
theorem dL_law_254 : decode cL_law 254 = .ok (.iconst 1, 1) := by decide +kernel
theorem dL_law_255 : decode cL_law 255 = .ok (.iadd, 1) := by decide +kernel
theorem dL_law_256 : decode cL_law 256 = .ok (.iaload, 1) := by decide +kernel
theorem dL_law_257 : decode cL_law 257 = .ok (.aload_n 0, 1) := by decide +kernel
theorem dL_law_258 : decode cL_law 258 = .ok (.iload_n 3, 1) := by decide +kernel
theorem dL_law_259 : decode cL_law 259 = .ok (.iconst 2, 1) := by decide +kernel
theorem dL_law_260 : decode cL_law 260 = .ok (.iadd, 1) := by decide +kernel
theorem dL_law_261 : decode cL_law 261 = .ok (.iaload, 1) := by decide +kernel
theorem dL_law_262 : decode cL_law 262 = .ok (.aload_n 0, 1) := by decide +kernel
theorem dL_law_263 : decode cL_law 263 = .ok (.iload_n 3, 1) := by decide +kernel
theorem dL_law_264 : decode cL_law 264 = .ok (.iconst 3, 1) := by decide +kernel
theorem dL_law_265 : decode cL_law 265 = .ok (.iadd, 1) := by decide +kernel
theorem dL_law_266 : decode cL_law 266 = .ok (.iaload, 1) := by decide +kernel
theorem dL_law_267 : decode cL_law 267 = .ok (.aload_n 0, 1) := by decide +kernel
theorem dL_law_268 : decode cL_law 268 = .ok (.iload_n 3, 1) := by decide +kernel
theorem dL_law_269 : decode cL_law 269 = .ok (.iconst 4, 1) := by decide +kernel
theorem dL_law_270 : decode cL_law 270 = .ok (.iadd, 1) := by decide +kernel
theorem dL_law_271 : decode cL_law 271 = .ok (.iaload, 1) := by decide +kernel
theorem dL_law_272 : decode cL_law 272 = .ok (.aload_n 0, 1) := by decide +kernel
theorem dL_law_273 : decode cL_law 273 = .ok (.iload_n 3, 1) := by decide +kernel
theorem dL_law_274 : decode cL_law 274 = .ok (.iconst 5, 1) := by decide +kernel
theorem dL_law_275 : decode cL_law 275 = .ok (.iadd, 1) := by decide +kernel
theorem dL_law_276 : decode cL_law 276 = .ok (.iaload, 1) := by decide +kernel
theorem dL_law_277 : decode cL_law 277 = .ok (.invokevirtual 26, 3) := by decide +kernel
theorem dL_law_280 : decode cL_law 280 = .ok (.if_icmp .eq 412, 3) := by decide +kernel
theorem dL_law_283 : decode cL_law 283 = .ok (.iconst 0, 1) := by decide +kernel
theorem dL_law_284 : decode cL_law 284 = .ok (.ireturn, 1) := by decide +kernel
theorem dL_law_285 : decode cL_law 285 = .ok (.aload_n 1, 1) := by decide +kernel
theorem dL_law_286 : decode cL_law 286 = .ok (.aload_n 0, 1) := by decide +kernel
theorem dL_law_287 : decode cL_law 287 = .ok (.iload_n 3, 1) := by decide +kernel
theorem dL_law_288 : decode cL_law 288 = .ok (.iconst 1, 1) := by decide +kernel
theorem dL_law_289 : decode cL_law 289 = .ok (.iadd, 1) := by decide +kernel
theorem dL_law_290 : decode cL_law 290 = .ok (.iaload, 1) := by decide +kernel
theorem dL_law_291 : decode cL_law 291 = .ok (.invokevirtual 27, 3) := by decide +kernel
theorem dL_law_294 : decode cL_law 294 = .ok (.aload_n 2, 1) := by decide +kernel
theorem dL_law_295 : decode cL_law 295 = .ok (.aload_n 0, 1) := by decide +kernel
theorem dL_law_296 : decode cL_law 296 = .ok (.iload_n 3, 1) := by decide +kernel
theorem dL_law_297 : decode cL_law 297 = .ok (.iconst 1, 1) := by decide +kernel
theorem dL_law_298 : decode cL_law 298 = .ok (.iadd, 1) := by decide +kernel
theorem dL_law_299 : decode cL_law 299 = .ok (.iaload, 1) := by decide +kernel
theorem dL_law_300 : decode cL_law 300 = .ok (.invokevirtual 31, 3) := by decide +kernel
theorem dL_law_303 : decode cL_law 303 = .ok (.if_icmp .eq 389, 3) := by decide +kernel
theorem dL_law_306 : decode cL_law 306 = .ok (.iconst 0, 1) := by decide +kernel
theorem dL_law_307 : decode cL_law 307 = .ok (.ireturn, 1) := by decide +kernel
theorem dL_law_308 : decode cL_law 308 = .ok (.aload_n 1, 1) := by decide +kernel
theorem dL_law_309 : decode cL_law 309 = .ok (.invokevirtual 32, 3) := by decide +kernel
theorem dL_law_312 : decode cL_law 312 = .ok (.aload_n 2, 1) := by decide +kernel
theorem dL_law_313 : decode cL_law 313 = .ok (.invokevirtual 36, 3) := by decide +kernel
theorem dL_law_316 : decode cL_law 316 = .ok (.if_icmp .eq 376, 3) := by decide +kernel
theorem dL_law_319 : decode cL_law 319 = .ok (.iconst 0, 1) := by decide +kernel
theorem dL_law_320 : decode cL_law 320 = .ok (.ireturn, 1) := by decide +kernel
theorem dL_law_321 : decode cL_law 321 = .ok (.aload_n 1, 1) := by decide +kernel
theorem dL_law_322 : decode cL_law 322 = .ok (.invokevirtual 37, 3) := by decide +kernel
theorem dL_law_325 : decode cL_law 325 = .ok (.aload_n 2, 1) := by decide +kernel
theorem dL_law_326 : decode cL_law 326 = .ok (.invokevirtual 40, 3) := by decide +kernel
theorem dL_law_329 : decode cL_law 329 = .ok (.if_icmp .eq 363, 3) := by decide +kernel
theorem dL_law_332 : decode cL_law 332 = .ok (.iconst 0, 1) := by decide +kernel
theorem dL_law_333 : decode cL_law 333 = .ok (.ireturn, 1) := by decide +kernel
theorem dL_law_334 : decode cL_law 334 = .ok (.aload_n 1, 1) := by decide +kernel
theorem dL_law_335 : decode cL_law 335 = .ok (.aload_n 0, 1) := by decide +kernel
theorem dL_law_336 : decode cL_law 336 = .ok (.iload_n 3, 1) := by decide +kernel
theorem dL_law_337 : decode cL_law 337 = .ok (.iconst 1, 1) := by decide +kernel
theorem dL_law_338 : decode cL_law 338 = .ok (.iadd, 1) := by decide +kernel
theorem dL_law_339 : decode cL_law 339 = .ok (.iaload, 1) := by decide +kernel
theorem dL_law_340 : decode cL_law 340 = .ok (.invokevirtual 41, 3) := by decide +kernel
theorem dL_law_343 : decode cL_law 343 = .ok (.aload_n 2, 1) := by decide +kernel
theorem dL_law_344 : decode cL_law 344 = .ok (.aload_n 0, 1) := by decide +kernel
theorem dL_law_345 : decode cL_law 345 = .ok (.iload_n 3, 1) := by decide +kernel
theorem dL_law_346 : decode cL_law 346 = .ok (.iconst 1, 1) := by decide +kernel
theorem dL_law_347 : decode cL_law 347 = .ok (.iadd, 1) := by decide +kernel
theorem dL_law_348 : decode cL_law 348 = .ok (.iaload, 1) := by decide +kernel
theorem dL_law_349 : decode cL_law 349 = .ok (.invokevirtual 44, 3) := by decide +kernel
theorem dL_law_352 : decode cL_law 352 = .ok (.if_icmp .eq 340, 3) := by decide +kernel
theorem dL_law_355 : decode cL_law 355 = .ok (.iconst 0, 1) := by decide +kernel
theorem dL_law_356 : decode cL_law 356 = .ok (.ireturn, 1) := by decide +kernel
theorem dL_law_357 : decode cL_law 357 = .ok (.aload_n 1, 1) := by decide +kernel
theorem dL_law_358 : decode cL_law 358 = .ok (.invokevirtual 45, 3) := by decide +kernel
theorem dL_law_361 : decode cL_law 361 = .ok (.aload_n 2, 1) := by decide +kernel
theorem dL_law_362 : decode cL_law 362 = .ok (.invokevirtual 49, 3) := by decide +kernel
theorem dL_law_365 : decode cL_law 365 = .ok (.if_icmp .eq 327, 3) := by decide +kernel
theorem dL_law_368 : decode cL_law 368 = .ok (.iconst 0, 1) := by decide +kernel
theorem dL_law_369 : decode cL_law 369 = .ok (.ireturn, 1) := by decide +kernel
theorem dL_law_370 : decode cL_law 370 = .ok (.aload_n 1, 1) := by decide +kernel
theorem dL_law_371 : decode cL_law 371 = .ok (.aload_n 0, 1) := by decide +kernel
theorem dL_law_372 : decode cL_law 372 = .ok (.iload_n 3, 1) := by decide +kernel
theorem dL_law_373 : decode cL_law 373 = .ok (.iconst 1, 1) := by decide +kernel
theorem dL_law_374 : decode cL_law 374 = .ok (.iadd, 1) := by decide +kernel
theorem dL_law_375 : decode cL_law 375 = .ok (.iaload, 1) := by decide +kernel
theorem dL_law_376 : decode cL_law 376 = .ok (.invokevirtual 50, 3) := by decide +kernel
theorem dL_law_379 : decode cL_law 379 = .ok (.aload_n 2, 1) := by decide +kernel
theorem dL_law_380 : decode cL_law 380 = .ok (.aload_n 0, 1) := by decide +kernel
theorem dL_law_381 : decode cL_law 381 = .ok (.iload_n 3, 1) := by decide +kernel
theorem dL_law_382 : decode cL_law 382 = .ok (.iconst 1, 1) := by decide +kernel
theorem dL_law_383 : decode cL_law 383 = .ok (.iadd, 1) := by decide +kernel
theorem dL_law_384 : decode cL_law 384 = .ok (.iaload, 1) := by decide +kernel
theorem dL_law_385 : decode cL_law 385 = .ok (.invokevirtual 53, 3) := by decide +kernel
theorem dL_law_388 : decode cL_law 388 = .ok (.if_icmp .eq 304, 3) := by decide +kernel
theorem dL_law_391 : decode cL_law 391 = .ok (.iconst 0, 1) := by decide +kernel
theorem dL_law_392 : decode cL_law 392 = .ok (.ireturn, 1) := by decide +kernel
theorem dL_law_393 : decode cL_law 393 = .ok (.aload_n 1, 1) := by decide +kernel
theorem dL_law_394 : decode cL_law 394 = .ok (.aload_n 0, 1) := by decide +kernel
theorem dL_law_395 : decode cL_law 395 = .ok (.iload_n 3, 1) := by decide +kernel
theorem dL_law_396 : decode cL_law 396 = .ok (.iconst 1, 1) := by decide +kernel
theorem dL_law_397 : decode cL_law 397 = .ok (.iadd, 1) := by decide +kernel
theorem dL_law_398 : decode cL_law 398 = .ok (.iaload, 1) := by decide +kernel
theorem dL_law_399 : decode cL_law 399 = .ok (.invokevirtual 54, 3) := by decide +kernel
theorem dL_law_402 : decode cL_law 402 = .ok (.aload_n 2, 1) := by decide +kernel
theorem dL_law_403 : decode cL_law 403 = .ok (.aload_n 0, 1) := by decide +kernel
theorem dL_law_404 : decode cL_law 404 = .ok (.iload_n 3, 1) := by decide +kernel
theorem dL_law_405 : decode cL_law 405 = .ok (.iconst 1, 1) := by decide +kernel
theorem dL_law_406 : decode cL_law 406 = .ok (.iadd, 1) := by decide +kernel
theorem dL_law_407 : decode cL_law 407 = .ok (.iaload, 1) := by decide +kernel
theorem dL_law_408 : decode cL_law 408 = .ok (.invokevirtual 57, 3) := by decide +kernel
theorem dL_law_411 : decode cL_law 411 = .ok (.if_icmp .eq 281, 3) := by decide +kernel
theorem dL_law_414 : decode cL_law 414 = .ok (.iconst 0, 1) := by decide +kernel
theorem dL_law_415 : decode cL_law 415 = .ok (.ireturn, 1) := by decide +kernel
theorem dL_law_416 : decode cL_law 416 = .ok (.aload_n 1, 1) := by decide +kernel
theorem dL_law_417 : decode cL_law 417 = .ok (.invokevirtual 58, 3) := by decide +kernel
theorem dL_law_420 : decode cL_law 420 = .ok (.aload_n 2, 1) := by decide +kernel
theorem dL_law_421 : decode cL_law 421 = .ok (.invokevirtual 61, 3) := by decide +kernel
theorem dL_law_424 : decode cL_law 424 = .ok (.if_icmp .eq 268, 3) := by decide +kernel
theorem dL_law_427 : decode cL_law 427 = .ok (.iconst 0, 1) := by decide +kernel
theorem dL_law_428 : decode cL_law 428 = .ok (.ireturn, 1) := by decide +kernel
theorem dL_law_429 : decode cL_law 429 = .ok (.aload_n 1, 1) := by decide +kernel
theorem dL_law_430 : decode cL_law 430 = .ok (.aload_n 0, 1) := by decide +kernel
theorem dL_law_431 : decode cL_law 431 = .ok (.iload_n 3, 1) := by decide +kernel
theorem dL_law_432 : decode cL_law 432 = .ok (.iconst 1, 1) := by decide +kernel
theorem dL_law_433 : decode cL_law 433 = .ok (.iadd, 1) := by decide +kernel
theorem dL_law_434 : decode cL_law 434 = .ok (.iaload, 1) := by decide +kernel
theorem dL_law_435 : decode cL_law 435 = .ok (.invokevirtual 62, 3) := by decide +kernel
theorem dL_law_438 : decode cL_law 438 = .ok (.aload_n 2, 1) := by decide +kernel
theorem dL_law_439 : decode cL_law 439 = .ok (.aload_n 0, 1) := by decide +kernel
theorem dL_law_440 : decode cL_law 440 = .ok (.iload_n 3, 1) := by decide +kernel
theorem dL_law_441 : decode cL_law 441 = .ok (.iconst 1, 1) := by decide +kernel
theorem dL_law_442 : decode cL_law 442 = .ok (.iadd, 1) := by decide +kernel
theorem dL_law_443 : decode cL_law 443 = .ok (.iaload, 1) := by decide +kernel
theorem dL_law_444 : decode cL_law 444 = .ok (.invokevirtual 65, 3) := by decide +kernel
theorem dL_law_447 : decode cL_law 447 = .ok (.if_icmp .eq 245, 3) := by decide +kernel
theorem dL_law_450 : decode cL_law 450 = .ok (.iconst 0, 1) := by decide +kernel
theorem dL_law_451 : decode cL_law 451 = .ok (.ireturn, 1) := by decide +kernel
theorem dL_law_452 : decode cL_law 452 = .ok (.aload_n 1, 1) := by decide +kernel
theorem dL_law_453 : decode cL_law 453 = .ok (.invokevirtual 66, 3) := by decide +kernel
theorem dL_law_456 : decode cL_law 456 = .ok (.aload_n 2, 1) := by decide +kernel
theorem dL_law_457 : decode cL_law 457 = .ok (.invokevirtual 69, 3) := by decide +kernel
theorem dL_law_460 : decode cL_law 460 = .ok (.if_icmp .eq 232, 3) := by decide +kernel
theorem dL_law_463 : decode cL_law 463 = .ok (.iconst 0, 1) := by decide +kernel
theorem dL_law_464 : decode cL_law 464 = .ok (.ireturn, 1) := by decide +kernel
theorem dL_law_465 : decode cL_law 465 = .ok (.aload_n 1, 1) := by decide +kernel
theorem dL_law_466 : decode cL_law 466 = .ok (.aload_n 0, 1) := by decide +kernel
theorem dL_law_467 : decode cL_law 467 = .ok (.iload_n 3, 1) := by decide +kernel
theorem dL_law_468 : decode cL_law 468 = .ok (.iconst 1, 1) := by decide +kernel
theorem dL_law_469 : decode cL_law 469 = .ok (.iadd, 1) := by decide +kernel
theorem dL_law_470 : decode cL_law 470 = .ok (.iaload, 1) := by decide +kernel
theorem dL_law_471 : decode cL_law 471 = .ok (.aload_n 0, 1) := by decide +kernel
theorem dL_law_472 : decode cL_law 472 = .ok (.iload_n 3, 1) := by decide +kernel
theorem dL_law_473 : decode cL_law 473 = .ok (.iconst 2, 1) := by decide +kernel
theorem dL_law_474 : decode cL_law 474 = .ok (.iadd, 1) := by decide +kernel
theorem dL_law_475 : decode cL_law 475 = .ok (.iaload, 1) := by decide +kernel
theorem dL_law_476 : decode cL_law 476 = .ok (.invokevirtual 70, 3) := by decide +kernel
theorem dL_law_479 : decode cL_law 479 = .ok (.aload_n 2, 1) := by decide +kernel
theorem dL_law_480 : decode cL_law 480 = .ok (.aload_n 0, 1) := by decide +kernel
theorem dL_law_481 : decode cL_law 481 = .ok (.iload_n 3, 1) := by decide +kernel
theorem dL_law_482 : decode cL_law 482 = .ok (.iconst 1, 1) := by decide +kernel
theorem dL_law_483 : decode cL_law 483 = .ok (.iadd, 1) := by decide +kernel
theorem dL_law_484 : decode cL_law 484 = .ok (.iaload, 1) := by decide +kernel
theorem dL_law_485 : decode cL_law 485 = .ok (.aload_n 0, 1) := by decide +kernel
theorem dL_law_486 : decode cL_law 486 = .ok (.iload_n 3, 1) := by decide +kernel
theorem dL_law_487 : decode cL_law 487 = .ok (.iconst 2, 1) := by decide +kernel
theorem dL_law_488 : decode cL_law 488 = .ok (.iadd, 1) := by decide +kernel
theorem dL_law_489 : decode cL_law 489 = .ok (.iaload, 1) := by decide +kernel
theorem dL_law_490 : decode cL_law 490 = .ok (.invokevirtual 74, 3) := by decide +kernel
theorem dL_law_493 : decode cL_law 493 = .ok (.if_icmp .eq 199, 3) := by decide +kernel
theorem dL_law_496 : decode cL_law 496 = .ok (.iconst 0, 1) := by decide +kernel
theorem dL_law_497 : decode cL_law 497 = .ok (.ireturn, 1) := by decide +kernel
theorem dL_law_498 : decode cL_law 498 = .ok (.aload_n 1, 1) := by decide +kernel
theorem dL_law_499 : decode cL_law 499 = .ok (.aload_n 0, 1) := by decide +kernel
theorem dL_law_500 : decode cL_law 500 = .ok (.iload_n 3, 1) := by decide +kernel
theorem dL_law_501 : decode cL_law 501 = .ok (.iconst 1, 1) := by decide +kernel
theorem dL_law_502 : decode cL_law 502 = .ok (.iadd, 1) := by decide +kernel
theorem dL_law_503 : decode cL_law 503 = .ok (.iaload, 1) := by decide +kernel
theorem dL_law_504 : decode cL_law 504 = .ok (.aload_n 0, 1) := by decide +kernel
theorem dL_law_505 : decode cL_law 505 = .ok (.iload_n 3, 1) := by decide +kernel
theorem dL_law_506 : decode cL_law 506 = .ok (.iconst 2, 1) := by decide +kernel
theorem dL_law_507 : decode cL_law 507 = .ok (.iadd, 1) := by decide +kernel
theorem dL_law_508 : decode cL_law 508 = .ok (.iaload, 1) := by decide +kernel
theorem dL_law_509 : decode cL_law 509 = .ok (.invokevirtual 75, 3) := by decide +kernel
theorem dL_law_512 : decode cL_law 512 = .ok (.aload_n 2, 1) := by decide +kernel
theorem dL_law_513 : decode cL_law 513 = .ok (.aload_n 0, 1) := by decide +kernel
theorem dL_law_514 : decode cL_law 514 = .ok (.iload_n 3, 1) := by decide +kernel
theorem dL_law_515 : decode cL_law 515 = .ok (.iconst 1, 1) := by decide +kernel
theorem dL_law_516 : decode cL_law 516 = .ok (.iadd, 1) := by decide +kernel
theorem dL_law_517 : decode cL_law 517 = .ok (.iaload, 1) := by decide +kernel
theorem dL_law_518 : decode cL_law 518 = .ok (.aload_n 0, 1) := by decide +kernel
theorem dL_law_519 : decode cL_law 519 = .ok (.iload_n 3, 1) := by decide +kernel
theorem dL_law_520 : decode cL_law 520 = .ok (.iconst 2, 1) := by decide +kernel
theorem dL_law_521 : decode cL_law 521 = .ok (.iadd, 1) := by decide +kernel
theorem dL_law_522 : decode cL_law 522 = .ok (.iaload, 1) := by decide +kernel
theorem dL_law_523 : decode cL_law 523 = .ok (.invokevirtual 78, 3) := by decide +kernel
theorem dL_law_526 : decode cL_law 526 = .ok (.if_icmp .eq 166, 3) := by decide +kernel
theorem dL_law_529 : decode cL_law 529 = .ok (.iconst 0, 1) := by decide +kernel
theorem dL_law_530 : decode cL_law 530 = .ok (.ireturn, 1) := by decide +kernel
theorem dL_law_531 : decode cL_law 531 = .ok (.aload_n 1, 1) := by decide +kernel
theorem dL_law_532 : decode cL_law 532 = .ok (.aload_n 0, 1) := by decide +kernel
theorem dL_law_533 : decode cL_law 533 = .ok (.iload_n 3, 1) := by decide +kernel
theorem dL_law_534 : decode cL_law 534 = .ok (.iconst 1, 1) := by decide +kernel
theorem dL_law_535 : decode cL_law 535 = .ok (.iadd, 1) := by decide +kernel
theorem dL_law_536 : decode cL_law 536 = .ok (.iaload, 1) := by decide +kernel
theorem dL_law_537 : decode cL_law 537 = .ok (.invokevirtual 79, 3) := by decide +kernel
theorem dL_law_540 : decode cL_law 540 = .ok (.aload_n 2, 1) := by decide +kernel
theorem dL_law_541 : decode cL_law 541 = .ok (.aload_n 0, 1) := by decide +kernel
theorem dL_law_542 : decode cL_law 542 = .ok (.iload_n 3, 1) := by decide +kernel
theorem dL_law_543 : decode cL_law 543 = .ok (.iconst 1, 1) := by decide +kernel
theorem dL_law_544 : decode cL_law 544 = .ok (.iadd, 1) := by decide +kernel
theorem dL_law_545 : decode cL_law 545 = .ok (.iaload, 1) := by decide +kernel
theorem dL_law_546 : decode cL_law 546 = .ok (.invokevirtual 82, 3) := by decide +kernel
theorem dL_law_549 : decode cL_law 549 = .ok (.if_icmp .eq 143, 3) := by decide +kernel
theorem dL_law_552 : decode cL_law 552 = .ok (.iconst 0, 1) := by decide +kernel
theorem dL_law_553 : decode cL_law 553 = .ok (.ireturn, 1) := by decide +kernel
theorem dL_law_554 : decode cL_law 554 = .ok (.aload_n 1, 1) := by decide +kernel
theorem dL_law_555 : decode cL_law 555 = .ok (.aload_n 0, 1) := by decide +kernel
theorem dL_law_556 : decode cL_law 556 = .ok (.iload_n 3, 1) := by decide +kernel
theorem dL_law_557 : decode cL_law 557 = .ok (.iconst 1, 1) := by decide +kernel
theorem dL_law_558 : decode cL_law 558 = .ok (.iadd, 1) := by decide +kernel
theorem dL_law_559 : decode cL_law 559 = .ok (.iaload, 1) := by decide +kernel
theorem dL_law_560 : decode cL_law 560 = .ok (.invokevirtual 83, 3) := by decide +kernel
theorem dL_law_563 : decode cL_law 563 = .ok (.aload_n 2, 1) := by decide +kernel
theorem dL_law_564 : decode cL_law 564 = .ok (.aload_n 0, 1) := by decide +kernel
theorem dL_law_565 : decode cL_law 565 = .ok (.iload_n 3, 1) := by decide +kernel
theorem dL_law_566 : decode cL_law 566 = .ok (.iconst 1, 1) := by decide +kernel
theorem dL_law_567 : decode cL_law 567 = .ok (.iadd, 1) := by decide +kernel
theorem dL_law_568 : decode cL_law 568 = .ok (.iaload, 1) := by decide +kernel
theorem dL_law_569 : decode cL_law 569 = .ok (.invokevirtual 86, 3) := by decide +kernel
theorem dL_law_572 : decode cL_law 572 = .ok (.if_icmp .eq 120, 3) := by decide +kernel
theorem dL_law_575 : decode cL_law 575 = .ok (.iconst 0, 1) := by decide +kernel
theorem dL_law_576 : decode cL_law 576 = .ok (.ireturn, 1) := by decide +kernel
theorem dL_law_577 : decode cL_law 577 = .ok (.aload_n 1, 1) := by decide +kernel
theorem dL_law_578 : decode cL_law 578 = .ok (.aload_n 0, 1) := by decide +kernel
theorem dL_law_579 : decode cL_law 579 = .ok (.iload_n 3, 1) := by decide +kernel
theorem dL_law_580 : decode cL_law 580 = .ok (.iconst 1, 1) := by decide +kernel
theorem dL_law_581 : decode cL_law 581 = .ok (.iadd, 1) := by decide +kernel
theorem dL_law_582 : decode cL_law 582 = .ok (.iaload, 1) := by decide +kernel
theorem dL_law_583 : decode cL_law 583 = .ok (.invokevirtual 87, 3) := by decide +kernel
theorem dL_law_586 : decode cL_law 586 = .ok (.aload_n 2, 1) := by decide +kernel
theorem dL_law_587 : decode cL_law 587 = .ok (.aload_n 0, 1) := by decide +kernel
theorem dL_law_588 : decode cL_law 588 = .ok (.iload_n 3, 1) := by decide +kernel
theorem dL_law_589 : decode cL_law 589 = .ok (.iconst 1, 1) := by decide +kernel
theorem dL_law_590 : decode cL_law 590 = .ok (.iadd, 1) := by decide +kernel
theorem dL_law_591 : decode cL_law 591 = .ok (.iaload, 1) := by decide +kernel
theorem dL_law_592 : decode cL_law 592 = .ok (.invokevirtual 90, 3) := by decide +kernel
theorem dL_law_595 : decode cL_law 595 = .ok (.if_icmp .eq 97, 3) := by decide +kernel
theorem dL_law_598 : decode cL_law 598 = .ok (.iconst 0, 1) := by decide +kernel
theorem dL_law_599 : decode cL_law 599 = .ok (.ireturn, 1) := by decide +kernel
theorem dL_law_600 : decode cL_law 600 = .ok (.aload_n 1, 1) := by decide +kernel
theorem dL_law_601 : decode cL_law 601 = .ok (.aload_n 0, 1) := by decide +kernel
theorem dL_law_602 : decode cL_law 602 = .ok (.iload_n 3, 1) := by decide +kernel
theorem dL_law_603 : decode cL_law 603 = .ok (.iconst 1, 1) := by decide +kernel
theorem dL_law_604 : decode cL_law 604 = .ok (.iadd, 1) := by decide +kernel
theorem dL_law_605 : decode cL_law 605 = .ok (.iaload, 1) := by decide +kernel
theorem dL_law_606 : decode cL_law 606 = .ok (.invokevirtual 91, 3) := by decide +kernel
theorem dL_law_609 : decode cL_law 609 = .ok (.aload_n 2, 1) := by decide +kernel
theorem dL_law_610 : decode cL_law 610 = .ok (.aload_n 0, 1) := by decide +kernel
theorem dL_law_611 : decode cL_law 611 = .ok (.iload_n 3, 1) := by decide +kernel
theorem dL_law_612 : decode cL_law 612 = .ok (.iconst 1, 1) := by decide +kernel
theorem dL_law_613 : decode cL_law 613 = .ok (.iadd, 1) := by decide +kernel
theorem dL_law_614 : decode cL_law 614 = .ok (.iaload, 1) := by decide +kernel
theorem dL_law_615 : decode cL_law 615 = .ok (.invokevirtual 94, 3) := by decide +kernel
theorem dL_law_618 : decode cL_law 618 = .ok (.if_icmp .eq 74, 3) := by decide +kernel
theorem dL_law_621 : decode cL_law 621 = .ok (.iconst 0, 1) := by decide +kernel
theorem dL_law_622 : decode cL_law 622 = .ok (.ireturn, 1) := by decide +kernel
theorem dL_law_623 : decode cL_law 623 = .ok (.aload_n 1, 1) := by decide +kernel
theorem dL_law_624 : decode cL_law 624 = .ok (.aload_n 0, 1) := by decide +kernel
theorem dL_law_625 : decode cL_law 625 = .ok (.iload_n 3, 1) := by decide +kernel
theorem dL_law_626 : decode cL_law 626 = .ok (.iconst 1, 1) := by decide +kernel
theorem dL_law_627 : decode cL_law 627 = .ok (.iadd, 1) := by decide +kernel
theorem dL_law_628 : decode cL_law 628 = .ok (.iaload, 1) := by decide +kernel
theorem dL_law_629 : decode cL_law 629 = .ok (.invokevirtual 95, 3) := by decide +kernel
theorem dL_law_632 : decode cL_law 632 = .ok (.aload_n 2, 1) := by decide +kernel
theorem dL_law_633 : decode cL_law 633 = .ok (.aload_n 0, 1) := by decide +kernel
theorem dL_law_634 : decode cL_law 634 = .ok (.iload_n 3, 1) := by decide +kernel
theorem dL_law_635 : decode cL_law 635 = .ok (.iconst 1, 1) := by decide +kernel
theorem dL_law_636 : decode cL_law 636 = .ok (.iadd, 1) := by decide +kernel
theorem dL_law_637 : decode cL_law 637 = .ok (.iaload, 1) := by decide +kernel
theorem dL_law_638 : decode cL_law 638 = .ok (.invokevirtual 98, 3) := by decide +kernel
theorem dL_law_641 : decode cL_law 641 = .ok (.if_icmp .eq 51, 3) := by decide +kernel
theorem dL_law_644 : decode cL_law 644 = .ok (.iconst 0, 1) := by decide +kernel
theorem dL_law_645 : decode cL_law 645 = .ok (.ireturn, 1) := by decide +kernel
theorem dL_law_646 : decode cL_law 646 = .ok (.aload_n 1, 1) := by decide +kernel
theorem dL_law_647 : decode cL_law 647 = .ok (.aload_n 0, 1) := by decide +kernel
theorem dL_law_648 : decode cL_law 648 = .ok (.iload_n 3, 1) := by decide +kernel
theorem dL_law_649 : decode cL_law 649 = .ok (.iconst 1, 1) := by decide +kernel
theorem dL_law_650 : decode cL_law 650 = .ok (.iadd, 1) := by decide +kernel
theorem dL_law_651 : decode cL_law 651 = .ok (.iaload, 1) := by decide +kernel
theorem dL_law_652 : decode cL_law 652 = .ok (.aload_n 0, 1) := by decide +kernel
theorem dL_law_653 : decode cL_law 653 = .ok (.iload_n 3, 1) := by decide +kernel
theorem dL_law_654 : decode cL_law 654 = .ok (.iconst 2, 1) := by decide +kernel
theorem dL_law_655 : decode cL_law 655 = .ok (.iadd, 1) := by decide +kernel
theorem dL_law_656 : decode cL_law 656 = .ok (.iaload, 1) := by decide +kernel
theorem dL_law_657 : decode cL_law 657 = .ok (.invokevirtual 99, 3) := by decide +kernel
theorem dL_law_660 : decode cL_law 660 = .ok (.aload_n 2, 1) := by decide +kernel
theorem dL_law_661 : decode cL_law 661 = .ok (.aload_n 0, 1) := by decide +kernel
theorem dL_law_662 : decode cL_law 662 = .ok (.iload_n 3, 1) := by decide +kernel
theorem dL_law_663 : decode cL_law 663 = .ok (.iconst 1, 1) := by decide +kernel
theorem dL_law_664 : decode cL_law 664 = .ok (.iadd, 1) := by decide +kernel
theorem dL_law_665 : decode cL_law 665 = .ok (.iaload, 1) := by decide +kernel
theorem dL_law_666 : decode cL_law 666 = .ok (.aload_n 0, 1) := by decide +kernel
theorem dL_law_667 : decode cL_law 667 = .ok (.iload_n 3, 1) := by decide +kernel
theorem dL_law_668 : decode cL_law 668 = .ok (.iconst 2, 1) := by decide +kernel
theorem dL_law_669 : decode cL_law 669 = .ok (.iadd, 1) := by decide +kernel
theorem dL_law_670 : decode cL_law 670 = .ok (.iaload, 1) := by decide +kernel
theorem dL_law_671 : decode cL_law 671 = .ok (.invokevirtual 102, 3) := by decide +kernel
theorem dL_law_674 : decode cL_law 674 = .ok (.if_icmp .eq 18, 3) := by decide +kernel
theorem dL_law_677 : decode cL_law 677 = .ok (.iconst 0, 1) := by decide +kernel
theorem dL_law_678 : decode cL_law 678 = .ok (.ireturn, 1) := by decide +kernel
theorem dL_law_679 : decode cL_law 679 = .ok (.aload_n 1, 1) := by decide +kernel
theorem dL_law_680 : decode cL_law 680 = .ok (.invokevirtual 103, 3) := by decide +kernel
theorem dL_law_683 : decode cL_law 683 = .ok (.aload_n 2, 1) := by decide +kernel
theorem dL_law_684 : decode cL_law 684 = .ok (.invokevirtual 106, 3) := by decide +kernel
theorem dL_law_687 : decode cL_law 687 = .ok (.if_icmp .eq 5, 3) := by decide +kernel
theorem dL_law_690 : decode cL_law 690 = .ok (.iconst 0, 1) := by decide +kernel
theorem dL_law_691 : decode cL_law 691 = .ok (.ireturn, 1) := by decide +kernel
theorem dL_law_692 : decode cL_law 692 = .ok (.iinc 3 6, 3) := by decide +kernel
theorem dL_law_695 : decode cL_law 695 = .ok (.goto (-677), 3) := by decide +kernel
theorem dL_law_698 : decode cL_law 698 = .ok (.iconst 1, 1) := by decide +kernel
theorem dL_law_699 : decode cL_law 699 = .ok (.ireturn, 1) := by decide +kernel
end
section
/-! worlds of this proof: a fixed list of cells; all numbers in one table 'St' (cell, slot) -/
abbrev St : Type := Nat → Nat → Int32
def st_up (S : St) (k j : Nat) (v : Int32) : St := fun q => if q = k then upd (S k) j v else S q
abbrev sh_F : Type := Option (Nat × Bool)
abbrev sh_C : Type := (Nat × Nat) ⊕ (Nat × List sh_F)
abbrev sh_T : Type := List sh_C
abbrev vD : Type := va_G × (Nat → Nat) × (Nat → ClassId) × sh_T
def adr (X : vD) (k : Nat) : Nat := X.2.1 k
def cyr (X : vD) (t : Nat) : ClassId := X.2.2.1 t
def shp (X : vD) : sh_T := X.2.2.2
def sh_v (X : vD) (x : Int32) (f : sh_F) : Value := match f with
  | none => .int x
  | some (r, false) => .ref (adr X r)
  | some (r, true) => if x = 0 then .null else .ref (adr X r)
def sh_fs (X : vD) (f : Nat → Int32) (fs : List sh_F) : List Value := fs.mapIdx (fun j t => sh_v X (f j) t)
def sh_e (X : vD) (f : Nat → Int32) (d : sh_C) : va_E := match d with
  | .inl (t, n) => .inl (cyr X t, n, .inl f)
  | .inr (ci, fs) => .inr (ci, sh_fs X f fs)
def sh_w (X : vD) (S : St) : va_W := (shp X).mapIdx (fun k d => (adr X k, sh_e X (S k) d))
def sh_A (X : vD) (sz : Nat) : Nat → Prop := fun q => (∃ k, k < (shp X).length ∧ q = adr X k) ∨ sz ≤ q
def sh_J (X : vD) : Prop := ∀ i j, i < (shp X).length → j < (shp X).length → adr X i = adr X j → i = j
def sh_N (U : State) : Prop := (∀ q ∈ tnF, va_Nw (.fieldLinkNest q.1 q.2.1 q.2.2.1 q.2.2.2.1 q.2.2.2.2.1 q.2.2.2.2.2) U) ∧ ∀ q ∈ tnM, va_Nw (.methodLinkNest q.1 q.2.1 q.2.2.1 q.2.2.2) U
def tys3 (X : vD) : List (ClassId × FieldType) := [(cyr X 0, .int), (cyr X 1, .byte), (cyr X 2, .boolean)]
def sh_K (X : vD) (U : State) : Prop := va_K X.1 cls (tys3 X) U ∧ sh_N U
theorem sh_K.warm {X : vD} {s U : State} (hW : s.WarmedH U.vm) (h : sh_K X s) : sh_K X U := ⟨va_K.moved hW.alike h.1, fun q hq => va_Nw.warmF hW (h.2.1 q hq), fun q hq => va_Nw.warmM hW (h.2.2 q hq)⟩
theorem sh_K.same {X : vD} {s U : State} (hv : s.vm = U.vm) (h : sh_K X s) : sh_K X U := ⟨va_K.moved (by rw [hv]; exact Vm.Alike.refl U.vm) h.1, fun q hq => va_Nw.same rfl hv (h.2.1 q hq), fun q hq => va_Nw.same rfl hv (h.2.2 q hq)⟩
def sh_P (X : vD) (S : St) (H : Heap) : Prop := va_P X.1 cls (sh_w X S) H
theorem sh_w_at {X : vD} {S : St} {k : Nat} {d : sh_C} (h : (shp X)[k]? = some d) : (sh_w X S)[k]? = some (adr X k, sh_e X (S k) d) := by
  unfold sh_w
  rw [List.getElem?_mapIdx, h]
  rfl
theorem sh_w_some {X : vD} {S : St} {k : Nat} {q : Nat × va_E} (h : (sh_w X S)[k]? = some q) : ∃ d, (shp X)[k]? = some d ∧ q = (adr X k, sh_e X (S k) d) := by
  unfold sh_w at h
  rw [List.getElem?_mapIdx] at h
  cases hd : (shp X)[k]? with
  | none => rw [hd] at h; cases h
  | some d => rw [hd] at h; exact ⟨d, rfl, (Option.some.inj h).symm⟩
theorem sh_lt {X : vD} {k : Nat} {d : sh_C} (h : (shp X)[k]? = some d) : k < (shp X).length := (List.getElem?_eq_some_iff.mp h).1
theorem sh_D {X : vD} (hJ : sh_J X) (S : St) (sz : Nat) : va_D (sh_A X sz) (sh_w X S) := by
  refine ⟨fun i j x y hi hj hxy => ?_, fun k q hk => ?_⟩
  · obtain ⟨d1, h1, rfl⟩ := sh_w_some hi
    obtain ⟨d2, h2, rfl⟩ := sh_w_some hj
    exact hJ i j (sh_lt h1) (sh_lt h2) hxy
  · obtain ⟨d1, h1, rfl⟩ := sh_w_some hk
    exact Or.inl ⟨k, sh_lt h1, rfl⟩
theorem st_self (S : St) (k j : Nat) (v : Int32) : st_up S k j v k = upd (S k) j v := if_pos rfl
theorem st_other (S : St) {k q : Nat} (j : Nat) (v : Int32) (h : q ≠ k) : st_up S k j v q = S q := if_neg h
theorem sh_set {X : vD} {S : St} {k : Nat} {d : sh_C} (h : (shp X)[k]? = some d) (j : Nat) (v : Int32) : (sh_w X S).set k (adr X k, sh_e X (upd (S k) j v) d) = sh_w X (st_up S k j v) := by
  apply List.ext_getElem?
  intro i
  by_cases hi : i = k
  · subst hi
    rw [List.getElem?_set_self (by unfold sh_w; rw [List.length_mapIdx]; exact sh_lt h), sh_w_at h, st_self]
  · rw [List.getElem?_set_ne (Ne.symm hi)]
    unfold sh_w
    rw [List.getElem?_mapIdx, List.getElem?_mapIdx, st_other _ _ _ hi]
theorem sh_fs_at {X : vD} {f : Nat → Int32} {fs : List sh_F} {j : Nat} {t : sh_F} (h : fs[j]? = some t) : (sh_fs X f fs)[j]? = some (sh_v X (f j) t) := by
  unfold sh_fs
  rw [List.getElem?_mapIdx, h]
  rfl
theorem sh_fs_set {X : vD} {f : Nat → Int32} {fs : List sh_F} {j : Nat} {t : sh_F} (h : fs[j]? = some t) (v : Int32) : (sh_fs X f fs).set j (sh_v X v t) = sh_fs X (upd f j v) fs := by
  have hl := (List.getElem?_eq_some_iff.mp h).1
  apply List.ext_getElem?
  intro i
  by_cases hi : i = j
  · subst hi
    rw [List.getElem?_set_self (by unfold sh_fs; rw [List.length_mapIdx]; exact hl), sh_fs_at h]
    simp [upd]
  · rw [List.getElem?_set_ne (Ne.symm hi)]
    unfold sh_fs
    rw [List.getElem?_mapIdx, List.getElem?_mapIdx]
    simp [upd, hi]
theorem sh_fs_len {X : vD} {f : Nat → Int32} {fs : List sh_F} : (sh_fs X f fs).length = fs.length := by unfold sh_fs; rw [List.length_mapIdx]
/-! the end of a method, its contract -/
def vQ (X : vD) (sz : Nat) (K : Option Value × St) : Array Value → State → Outcome → State → Prop := fun _ st oc t => oc = .returned K.1 ∧ sh_P X K.2 t.heap ∧ va_F (sh_A X sz) st t
def vP (X : vD) (sz : Nat) (As : List Value) (S : St) : Array Value → State → Prop := va_Pc As (fun U => U.heap.size = sz ∧ sh_P X S U.heap ∧ sh_K X U)
def uw (y : MethodName) (cc : ByteArray) (n : Nat) (ret : Option FieldType) : List Cond := .code y cc n ret :: tw
def rmd (d : Nat) : Room := { frames := d, cells := 0, slots := 0, locals := 36 * d }
def Con (l : Launch) (X : vD) (y : MethodName) (cc : ByteArray) (n : Nat) (ret : Option FieldType) (d : Nat) (As : List Value) (S : St) (K : Option Value × St) : Prop :=
  ∀ sz : Nat, Met l y (uw y cc n ret) (rmd d) (vP X sz As S) (vQ X sz K) 0 0 (sh_A X sz)
def vG (p : Program) (s : State) (m : MethodId) (args : Array Value) (meth : Method) (c : Code) (X : vD) (sh0 : sh_T) (own : String) (cc : ByteArray) (nL : Nat) (ret : Option FieldType) : Prop :=
  p.tables.exec = Jvm.exec ∧ c.code = cc ∧ c.maxLocals = nL ∧ s.vm.findClass own = some m.cls ∧ (∀ w ∈ tw, w.before args s = true) ∧ sh_K X s ∧ sh_J X ∧ shp X = sh0 ∧ meth.sig.returnType = ret ∧ meth.locks = false
def V {τ : Type} (p : Program) (l : Launch) (e : Env) (d : Nat) (s : State) (m : MethodId) (args : Array Value) (below : List Frame) (meth : Method) (c : Code) (X : vD) (nL : Nat) (ρ : τ → Option Value × St) (S : St) (pc : Nat) (lv : List (Nat × Value)) (st : List Value) (K : τ) : Prop :=
  ∀ (H : Heap) (locs : List Loc) (ls : Array Slot), sh_P X S H → va_S (sh_A X s.heap.size) s.heap H locs → lv_has ls nL lv → W p l e (rmd d) s m args below meth c H locs 0 0 (MQ below (vQ X s.heap.size (ρ K)) args s 0 0 (sh_A X s.heap.size)) (F0 m pc ls st)
theorem lw_good : tw.all goodWord = true := List.all_eq_true.mpr (fun w h => (List.mem_filter.mp h).2)
theorem lw_goodAll : ∀ w ∈ tw, ((w.onTables && w.keeps) = true ∨ ∃ ty, w = .arrayClass ty) := fun w h => good_of_word (List.all_eq_true.mp lw_good w h)
theorem uw_good {y y' : MethodName} {cc cc' : ByteArray} {n n' : Nat} {ret ret' : Option FieldType} (h : Cond.code y' cc' n' ret' ∈ tw) : GoodIn (uw y cc n ret) (uw y' cc' n' ret') := by
  intro w hw
  rcases List.mem_cons.mp hw with rfl | hw
  · exact ⟨List.mem_cons_of_mem _ h, lw_goodAll _ h⟩
  · exact ⟨List.mem_cons_of_mem _ hw, lw_goodAll _ hw⟩
theorem lw_goodIn {y' : MethodName} {cc' : ByteArray} {n' : Nat} {ret' : Option FieldType} (h : Cond.code y' cc' n' ret' ∈ tw) : GoodIn tw (uw y' cc' n' ret') := by
  intro w hw
  rcases List.mem_cons.mp hw with rfl | hw
  · exact ⟨h, lw_goodAll _ h⟩
  · exact ⟨hw, lw_goodAll _ hw⟩
/-- a contract out of a walk -/
theorem con_of {l : Launch} {X : vD} {sh0 : sh_T} {y : MethodName} {cc : ByteArray} {n : Nat} {ret : Option FieldType} {d : Nat} {As : List Value} {S : St} {τ : Type} {ρ : τ → Option Value × St} {K : τ} (hJ : sh_J X) (hsh : shp X = sh0) (hy : plainName y.cls = true) (hn : (lg_sl As).length ≤ n) {lv : List (Nat × Value)} (hlv : lv_args 0 As = lv)
    (body : ∀ (p : Program) (e : Env) (s : State) (m : MethodId) (below : List Frame) (meth : Method) (c : Code), vG p s m As.toArray meth c X sh0 y.cls cc n ret → V p l e d s m As.toArray below meth c X n ρ S 0 lv [] K) : Con l X y cc n ret d As S (ρ K) := by
  intro sz
  refine Met.ofW (cc := cc) (maxL := n) (ret := ret) hy rfl ?_
  intro p e s m args below meth c s₁ B hml hv
  obtain ⟨rfl, hsz, hP, hK⟩ := hv
  subst hsz
  have hts := atoms_spec (ws := uw y cc n ret) B.pre
  have G : vG p s m As.toArray meth c X sh0 y.cls cc n ret := ⟨B.exec, B.bytes, hml, findClass_of_methodNamed B.named, fun w h => hts w (List.mem_cons_of_mem _ h), hK, hJ, hsh, B.returns, B.notSynchronized⟩
  have hl := lv_entry As (n := n) hn
  rw [hlv] at hl
  rw [lg_entry_eq]
  exact body p e s m below meth c G s.heap [] _ hP va_S.rf hl
end
section
/-! rows: an instruction each, over the fixed worlds; the pure term drives the walk -/
def ush (x y : Int32) : Int32 := (x.toUInt32 >>> (y.toUInt32 &&& Int32.toUInt32 31)).toInt32
def bnv {τ : Type} (S : St) (k : St → τ) : τ := k S
def bnd {τ : Type} (q : Int32 × St) (k : Int32 → St → τ) : τ := k q.1 q.2
def bnx {τ : Type} (x : Int32) (k : Int32 → τ) : τ := k x
def bnl {τ : Type} (x : Int64) (k : Int64 → τ) : τ := k x
section ROWS
variable {τ : Type} {p : Program} {l : Launch} {e : Env} {d : Nat} {s : State} {m : MethodId} {args : Array Value} {below : List Frame} {meth : Method} {c : Code} {X : vD} {sh0 : sh_T} {own : String} {cc : ByteArray} {nL : Nat} {ret : Option FieldType} {ρ : τ → Option Value × St} {S : St} {pc : Nat} {lv : List (Nat × Value)} {st : List Value} {K : τ}
theorem v_iconst (G : vG p s m args meth c X sh0 own cc nL ret) {n : Int} {v : Int32} (hd : decode cc pc = .ok (.iconst n, 1)) (hv : Int32.ofInt n = v) (k : V p l e d s m args below meth c X nL ρ S (pc + 1) lv (.int v :: st) K) : V p l e d s m args below meth c X nL ρ S pc lv (st) K := fun H locs ls hP hS hl => lv_iconst G.1 G.2.1 hd hv (k H locs ls hP hS hl)
theorem v_bipush (G : vG p s m args meth c X sh0 own cc nL ret) {n : Int} {v : Int32} (hd : decode cc pc = .ok (.bipush n, 2)) (hv : (Int8.ofInt n).toInt32 = v) (k : V p l e d s m args below meth c X nL ρ S (pc + 2) lv (.int v :: st) K) : V p l e d s m args below meth c X nL ρ S pc lv (st) K := fun H locs ls hP hS hl => lv_bipush G.1 G.2.1 hd hv (k H locs ls hP hS hl)
theorem v_sipush (G : vG p s m args meth c X sh0 own cc nL ret) {n : Int} {v : Int32} (hd : decode cc pc = .ok (.sipush n, 3)) (hv : (Int16.ofInt n).toInt32 = v) (k : V p l e d s m args below meth c X nL ρ S (pc + 3) lv (.int v :: st) K) : V p l e d s m args below meth c X nL ρ S pc lv (st) K := fun H locs ls hP hS hl => lv_sipush G.1 G.2.1 hd hv (k H locs ls hP hS hl)
theorem v_ldc (G : vG p s m args meth c X sh0 own cc nL ret) {i : Nat} {v : Int32} (hd : decode cc pc = .ok (.ldc i, 2)) (hw : Cond.constant own i v ∈ tw) (k : V p l e d s m args below meth c X nL ρ S (pc + 2) lv (.int v :: st) K) : V p l e d s m args below meth c X nL ρ S pc lv (st) K := fun H locs ls hP hS hl => lv_ldc G.1 G.2.1 G.2.2.2.1 (G.2.2.2.2.1 _ hw) hd (k H locs ls hP hS hl)
theorem v_ldc2 (G : vG p s m args meth c X sh0 own cc nL ret) {i : Nat} {v : Int64} (hd : decode cc pc = .ok (.ldc2_w i, 3)) (hw : Cond.constantLong own i v ∈ tw) (k : V p l e d s m args below meth c X nL ρ S (pc + 3) lv (.long v :: st) K) : V p l e d s m args below meth c X nL ρ S pc lv (st) K := fun H locs ls hP hS hl => lv_ldc2 G.1 G.2.1 G.2.2.2.1 (G.2.2.2.2.1 _ hw) hd (k H locs ls hP hS hl)
theorem v_iload_n (G : vG p s m args meth c X sh0 own cc nL ret) (q : Nat) {i : Fin 4} {x : Int32} (hd : decode cc pc = .ok (.iload_n i, 1)) (hk : lv[q]? = some ((i : Nat), .int x)) (k : V p l e d s m args below meth c X nL ρ S (pc + 1) lv (.int x :: st) K) : V p l e d s m args below meth c X nL ρ S pc lv (st) K := fun H locs ls hP hS hl => lv_iload_n G.1 G.2.1 hd rfl (lv_at hl q hk) (k H locs ls hP hS hl)
theorem v_iload (G : vG p s m args meth c X sh0 own cc nL ret) (q : Nat) {i : Nat} {x : Int32} (hd : decode cc pc = .ok (.iload i, 2)) (hk : lv[q]? = some (i, .int x)) (k : V p l e d s m args below meth c X nL ρ S (pc + 2) lv (.int x :: st) K) : V p l e d s m args below meth c X nL ρ S pc lv (st) K := fun H locs ls hP hS hl => lv_iload G.1 G.2.1 hd (lv_at hl q hk) (k H locs ls hP hS hl)
theorem v_aload_n (G : vG p s m args meth c X sh0 own cc nL ret) (q : Nat) {i : Fin 4} {x : Nat} (hd : decode cc pc = .ok (.aload_n i, 1)) (hk : lv[q]? = some ((i : Nat), .ref x)) (k : V p l e d s m args below meth c X nL ρ S (pc + 1) lv (.ref x :: st) K) : V p l e d s m args below meth c X nL ρ S pc lv (st) K := fun H locs ls hP hS hl => lv_aload_n G.1 G.2.1 hd rfl (lv_at hl q hk) (k H locs ls hP hS hl)
theorem v_aload (G : vG p s m args meth c X sh0 own cc nL ret) (q : Nat) {i : Nat} {x : Nat} (hd : decode cc pc = .ok (.aload i, 2)) (hk : lv[q]? = some (i, .ref x)) (k : V p l e d s m args below meth c X nL ρ S (pc + 2) lv (.ref x :: st) K) : V p l e d s m args below meth c X nL ρ S pc lv (st) K := fun H locs ls hP hS hl => lv_aload G.1 G.2.1 hd (lv_at hl q hk) (k H locs ls hP hS hl)
theorem v_lload_n (G : vG p s m args meth c X sh0 own cc nL ret) (q : Nat) {i : Fin 4} {x : Int64} (hd : decode cc pc = .ok (.lload_n i, 1)) (hk : lv[q]? = some ((i : Nat), .long x)) (k : V p l e d s m args below meth c X nL ρ S (pc + 1) lv (.long x :: st) K) : V p l e d s m args below meth c X nL ρ S pc lv (st) K := fun H locs ls hP hS hl => lv_lload_n G.1 G.2.1 hd rfl (lv_at hl q hk) (k H locs ls hP hS hl)
theorem v_lload (G : vG p s m args meth c X sh0 own cc nL ret) (q : Nat) {i : Nat} {x : Int64} (hd : decode cc pc = .ok (.lload i, 2)) (hk : lv[q]? = some (i, .long x)) (k : V p l e d s m args below meth c X nL ρ S (pc + 2) lv (.long x :: st) K) : V p l e d s m args below meth c X nL ρ S pc lv (st) K := fun H locs ls hP hS hl => lv_lload G.1 G.2.1 hd (lv_at hl q hk) (k H locs ls hP hS hl)
theorem v_istore_n (G : vG p s m args meth c X sh0 own cc nL ret) {i : Fin 4} {x : Int32} (lv' : List (Nat × Value)) (hd : decode cc pc = .ok (.istore_n i, 1)) (hn : (i : Nat) < nL) (he : ((i : Nat), Value.int x) :: lv.filter (fun q => !(q.1 == (i : Nat)) && !(q.1 + 1 == (i : Nat) && q.2.category == 2)) = lv') (k : V p l e d s m args below meth c X nL ρ S (pc + 1) lv' st K) : V p l e d s m args below meth c X nL ρ S pc lv (.int x :: st) K := fun H locs ls hP hS hl => lv_istore_n G.1 G.2.1 hd rfl hl hn he (fun ls' hl' => k H locs ls' hP hS hl')
theorem v_istore (G : vG p s m args meth c X sh0 own cc nL ret) {i : Nat} {x : Int32} (lv' : List (Nat × Value)) (hd : decode cc pc = .ok (.istore i, 2)) (hn : i < nL) (he : (i, Value.int x) :: lv.filter (fun q => !(q.1 == i) && !(q.1 + 1 == i && q.2.category == 2)) = lv') (k : V p l e d s m args below meth c X nL ρ S (pc + 2) lv' st K) : V p l e d s m args below meth c X nL ρ S pc lv (.int x :: st) K := fun H locs ls hP hS hl => lv_istore G.1 G.2.1 hd hl hn he (fun ls' hl' => k H locs ls' hP hS hl')
theorem v_astore_n (G : vG p s m args meth c X sh0 own cc nL ret) {i : Fin 4} {x : Nat} (lv' : List (Nat × Value)) (hd : decode cc pc = .ok (.astore_n i, 1)) (hn : (i : Nat) < nL) (he : ((i : Nat), Value.ref x) :: lv.filter (fun q => !(q.1 == (i : Nat)) && !(q.1 + 1 == (i : Nat) && q.2.category == 2)) = lv') (k : V p l e d s m args below meth c X nL ρ S (pc + 1) lv' st K) : V p l e d s m args below meth c X nL ρ S pc lv (.ref x :: st) K := fun H locs ls hP hS hl => lv_astore_n G.1 G.2.1 hd rfl hl hn he (fun ls' hl' => k H locs ls' hP hS hl')
theorem v_astore (G : vG p s m args meth c X sh0 own cc nL ret) {i : Nat} {x : Nat} (lv' : List (Nat × Value)) (hd : decode cc pc = .ok (.astore i, 2)) (hn : i < nL) (he : (i, Value.ref x) :: lv.filter (fun q => !(q.1 == i) && !(q.1 + 1 == i && q.2.category == 2)) = lv') (k : V p l e d s m args below meth c X nL ρ S (pc + 2) lv' st K) : V p l e d s m args below meth c X nL ρ S pc lv (.ref x :: st) K := fun H locs ls hP hS hl => lv_astore G.1 G.2.1 hd hl hn he (fun ls' hl' => k H locs ls' hP hS hl')
theorem v_lstore_n (G : vG p s m args meth c X sh0 own cc nL ret) {i : Fin 4} {x : Int64} (lv' : List (Nat × Value)) (hd : decode cc pc = .ok (.lstore_n i, 1)) (hn : (i : Nat) + 1 < nL) (he : ((i : Nat), Value.long x) :: lv.filter (fun q => !(q.1 == (i : Nat)) && (!(q.1 == (i : Nat) + 1) && !(q.1 + 1 == (i : Nat) && q.2.category == 2))) = lv') (k : V p l e d s m args below meth c X nL ρ S (pc + 1) lv' st K) : V p l e d s m args below meth c X nL ρ S pc lv (.long x :: st) K := fun H locs ls hP hS hl => lv_lstore_n G.1 G.2.1 hd rfl hl hn he (fun ls' hl' => k H locs ls' hP hS hl')
theorem v_lstore (G : vG p s m args meth c X sh0 own cc nL ret) {i : Nat} {x : Int64} (lv' : List (Nat × Value)) (hd : decode cc pc = .ok (.lstore i, 2)) (hn : i + 1 < nL) (he : (i, Value.long x) :: lv.filter (fun q => !(q.1 == i) && (!(q.1 == i + 1) && !(q.1 + 1 == i && q.2.category == 2))) = lv') (k : V p l e d s m args below meth c X nL ρ S (pc + 2) lv' st K) : V p l e d s m args below meth c X nL ρ S pc lv (.long x :: st) K := fun H locs ls hP hS hl => lv_lstore G.1 G.2.1 hd hl hn he (fun ls' hl' => k H locs ls' hP hS hl')
theorem v_iinc (G : vG p s m args meth c X sh0 own cc nL ret) {i : Nat} {n : Int} {x v : Int32} (q : Nat) (lv' : List (Nat × Value)) (hd : decode cc pc = .ok (.iinc i n, 3)) (hk : lv[q]? = some (i, .int x)) (hv : x + Int32.ofInt n = v) (hn : i < nL) (he : (i, Value.int v) :: lv.filter (fun q => !(q.1 == i) && !(q.1 + 1 == i && q.2.category == 2)) = lv') (k : V p l e d s m args below meth c X nL ρ S (pc + 3) lv' st K) : V p l e d s m args below meth c X nL ρ S pc lv st K := fun H locs ls hP hS hl => lv_iinc G.1 G.2.1 hd hl hk hv hn he (fun ls' hl' => k H locs ls' hP hS hl')
theorem v_iadd (G : vG p s m args meth c X sh0 own cc nL ret) {x y : Int32} (hd : decode cc pc = .ok (.iadd, 1))  (k : V p l e d s m args below meth c X nL ρ S (pc + 1) lv (.int (x + y) :: st) K) : V p l e d s m args below meth c X nL ρ S pc lv (.int y :: .int x :: st) K := fun H locs ls hP hS hl => lv_iadd G.1 G.2.1 hd (k H locs ls hP hS hl)
theorem v_isub (G : vG p s m args meth c X sh0 own cc nL ret) {x y : Int32} (hd : decode cc pc = .ok (.isub, 1))  (k : V p l e d s m args below meth c X nL ρ S (pc + 1) lv (.int (x - y) :: st) K) : V p l e d s m args below meth c X nL ρ S pc lv (.int y :: .int x :: st) K := fun H locs ls hP hS hl => lv_isub G.1 G.2.1 hd (k H locs ls hP hS hl)
theorem v_imul (G : vG p s m args meth c X sh0 own cc nL ret) {x y : Int32} (hd : decode cc pc = .ok (.imul, 1))  (k : V p l e d s m args below meth c X nL ρ S (pc + 1) lv (.int (x * y) :: st) K) : V p l e d s m args below meth c X nL ρ S pc lv (.int y :: .int x :: st) K := fun H locs ls hP hS hl => lv_imul G.1 G.2.1 hd (k H locs ls hP hS hl)
theorem v_iand (G : vG p s m args meth c X sh0 own cc nL ret) {x y : Int32} (hd : decode cc pc = .ok (.iand, 1))  (k : V p l e d s m args below meth c X nL ρ S (pc + 1) lv (.int (x &&& y) :: st) K) : V p l e d s m args below meth c X nL ρ S pc lv (.int y :: .int x :: st) K := fun H locs ls hP hS hl => lv_iand G.1 G.2.1 hd (k H locs ls hP hS hl)
theorem v_ior (G : vG p s m args meth c X sh0 own cc nL ret) {x y : Int32} (hd : decode cc pc = .ok (.ior, 1))  (k : V p l e d s m args below meth c X nL ρ S (pc + 1) lv (.int (x ||| y) :: st) K) : V p l e d s m args below meth c X nL ρ S pc lv (.int y :: .int x :: st) K := fun H locs ls hP hS hl => lv_ior G.1 G.2.1 hd (k H locs ls hP hS hl)
theorem v_ixor (G : vG p s m args meth c X sh0 own cc nL ret) {x y : Int32} (hd : decode cc pc = .ok (.ixor, 1))  (k : V p l e d s m args below meth c X nL ρ S (pc + 1) lv (.int (x ^^^ y) :: st) K) : V p l e d s m args below meth c X nL ρ S pc lv (.int y :: .int x :: st) K := fun H locs ls hP hS hl => lv_ixor G.1 G.2.1 hd (k H locs ls hP hS hl)
theorem v_ishl (G : vG p s m args meth c X sh0 own cc nL ret) {x y : Int32} (hd : decode cc pc = .ok (.ishl, 1))  (k : V p l e d s m args below meth c X nL ρ S (pc + 1) lv (.int (x <<< (y &&& 31)) :: st) K) : V p l e d s m args below meth c X nL ρ S pc lv (.int y :: .int x :: st) K := fun H locs ls hP hS hl => lv_ishl G.1 G.2.1 hd (k H locs ls hP hS hl)
theorem v_ishr (G : vG p s m args meth c X sh0 own cc nL ret) {x y : Int32} (hd : decode cc pc = .ok (.ishr, 1))  (k : V p l e d s m args below meth c X nL ρ S (pc + 1) lv (.int (x >>> (y &&& 31)) :: st) K) : V p l e d s m args below meth c X nL ρ S pc lv (.int y :: .int x :: st) K := fun H locs ls hP hS hl => lv_ishr G.1 G.2.1 hd (k H locs ls hP hS hl)
theorem v_iushr (G : vG p s m args meth c X sh0 own cc nL ret) {x y : Int32} (hd : decode cc pc = .ok (.iushr, 1))  (k : V p l e d s m args below meth c X nL ρ S (pc + 1) lv (.int (ush x y) :: st) K) : V p l e d s m args below meth c X nL ρ S pc lv (.int y :: .int x :: st) K := fun H locs ls hP hS hl => lv_iushr G.1 G.2.1 hd rfl (k H locs ls hP hS hl)
theorem v_idiv (G : vG p s m args meth c X sh0 own cc nL ret) {x y : Int32} (hd : decode cc pc = .ok (.idiv, 1)) (hne : ¬ y = 0) (k : V p l e d s m args below meth c X nL ρ S (pc + 1) lv (.int (x / y) :: st) K) : V p l e d s m args below meth c X nL ρ S pc lv (.int y :: .int x :: st) K := fun H locs ls hP hS hl => lv_idiv G.1 G.2.1 hd hne (k H locs ls hP hS hl)
theorem v_irem (G : vG p s m args meth c X sh0 own cc nL ret) {x y : Int32} (hd : decode cc pc = .ok (.irem, 1)) (hne : ¬ y = 0) (k : V p l e d s m args below meth c X nL ρ S (pc + 1) lv (.int (x - x / y * y) :: st) K) : V p l e d s m args below meth c X nL ρ S pc lv (.int y :: .int x :: st) K := fun H locs ls hP hS hl => lv_irem G.1 G.2.1 hd hne (k H locs ls hP hS hl)
theorem v_ladd (G : vG p s m args meth c X sh0 own cc nL ret) {x y : Int64} (hd : decode cc pc = .ok (.ladd, 1))  (k : V p l e d s m args below meth c X nL ρ S (pc + 1) lv (.long (x + y) :: st) K) : V p l e d s m args below meth c X nL ρ S pc lv (.long y :: .long x :: st) K := fun H locs ls hP hS hl => lv_ladd G.1 G.2.1 hd (k H locs ls hP hS hl)
theorem v_lsub (G : vG p s m args meth c X sh0 own cc nL ret) {x y : Int64} (hd : decode cc pc = .ok (.lsub, 1))  (k : V p l e d s m args below meth c X nL ρ S (pc + 1) lv (.long (x - y) :: st) K) : V p l e d s m args below meth c X nL ρ S pc lv (.long y :: .long x :: st) K := fun H locs ls hP hS hl => lv_lsub G.1 G.2.1 hd (k H locs ls hP hS hl)
theorem v_land (G : vG p s m args meth c X sh0 own cc nL ret) {x y : Int64} (hd : decode cc pc = .ok (.land, 1))  (k : V p l e d s m args below meth c X nL ρ S (pc + 1) lv (.long (x &&& y) :: st) K) : V p l e d s m args below meth c X nL ρ S pc lv (.long y :: .long x :: st) K := fun H locs ls hP hS hl => lv_land G.1 G.2.1 hd (k H locs ls hP hS hl)
theorem v_lshr (G : vG p s m args meth c X sh0 own cc nL ret) {x : Int64} {y : Int32} (hd : decode cc pc = .ok (.lshr, 1))  (k : V p l e d s m args below meth c X nL ρ S (pc + 1) lv (.long (x >>> (y.toInt64 &&& 63)) :: st) K) : V p l e d s m args below meth c X nL ρ S pc lv (.int y :: .long x :: st) K := fun H locs ls hP hS hl => lv_lshr G.1 G.2.1 hd rfl (k H locs ls hP hS hl)
theorem v_lcmp (G : vG p s m args meth c X sh0 own cc nL ret) {x y : Int64} (hd : decode cc pc = .ok (.lcmp, 1))  (k : V p l e d s m args below meth c X nL ρ S (pc + 1) lv (.int (lg_cmp x y) :: st) K) : V p l e d s m args below meth c X nL ρ S pc lv (.long y :: .long x :: st) K := fun H locs ls hP hS hl => W.lcmp G.1 G.2.1 hd (k H locs ls hP hS hl)
theorem v_i2l (G : vG p s m args meth c X sh0 own cc nL ret) {x : Int32} (hd : decode cc pc = .ok (.i2l, 1))  (k : V p l e d s m args below meth c X nL ρ S (pc + 1) lv (.long x.toInt64 :: st) K) : V p l e d s m args below meth c X nL ρ S pc lv (.int x :: st) K := fun H locs ls hP hS hl => lv_i2l G.1 G.2.1 hd rfl (k H locs ls hP hS hl)
theorem v_l2i (G : vG p s m args meth c X sh0 own cc nL ret) {x : Int64} (hd : decode cc pc = .ok (.l2i, 1))  (k : V p l e d s m args below meth c X nL ρ S (pc + 1) lv (.int x.toInt32 :: st) K) : V p l e d s m args below meth c X nL ρ S pc lv (.long x :: st) K := fun H locs ls hP hS hl => lv_l2i G.1 G.2.1 hd rfl (k H locs ls hP hS hl)
theorem v_i2b (G : vG p s m args meth c X sh0 own cc nL ret) {x : Int32} (hd : decode cc pc = .ok (.i2b, 1))  (k : V p l e d s m args below meth c X nL ρ S (pc + 1) lv (.int x.toInt8.toInt32 :: st) K) : V p l e d s m args below meth c X nL ρ S pc lv (.int x :: st) K := fun H locs ls hP hS hl => lv_i2b G.1 G.2.1 hd rfl (k H locs ls hP hS hl)
theorem v_i2s (G : vG p s m args meth c X sh0 own cc nL ret) {x : Int32} (hd : decode cc pc = .ok (.i2s, 1))  (k : V p l e d s m args below meth c X nL ρ S (pc + 1) lv (.int x.toInt16.toInt32 :: st) K) : V p l e d s m args below meth c X nL ρ S pc lv (.int x :: st) K := fun H locs ls hP hS hl => lv_i2s G.1 G.2.1 hd rfl (k H locs ls hP hS hl)
theorem v_dup (G : vG p s m args meth c X sh0 own cc nL ret) {a : Value} (hd : decode cc pc = .ok (.dup, 1)) (ha : a.category = 1) (k : V p l e d s m args below meth c X nL ρ S (pc + 1) lv (a :: a :: st) K) : V p l e d s m args below meth c X nL ρ S pc lv (a :: st) K := fun H locs ls hP hS hl => lv_dup G.1 G.2.1 hd ha (k H locs ls hP hS hl)
theorem v_dup2 (G : vG p s m args meth c X sh0 own cc nL ret) {a b : Value} (hd : decode cc pc = .ok (.dup2, 1)) (ha : a.category = 1) (hb : b.category = 1) (k : V p l e d s m args below meth c X nL ρ S (pc + 1) lv (a :: b :: a :: b :: st) K) : V p l e d s m args below meth c X nL ρ S pc lv (a :: b :: st) K := fun H locs ls hP hS hl => lv_dup2_11 G.1 G.2.1 hd ha hb (k H locs ls hP hS hl)
theorem v_dup_x1 (G : vG p s m args meth c X sh0 own cc nL ret) {a b : Value} (hd : decode cc pc = .ok (.dup_x1, 1)) (ha : a.category = 1) (hb : b.category = 1) (k : V p l e d s m args below meth c X nL ρ S (pc + 1) lv (a :: b :: a :: st) K) : V p l e d s m args below meth c X nL ρ S pc lv (a :: b :: st) K := fun H locs ls hP hS hl => lv_dup_x1 G.1 G.2.1 hd ha hb (k H locs ls hP hS hl)
theorem v_pop (G : vG p s m args meth c X sh0 own cc nL ret) {a : Value} (hd : decode cc pc = .ok (.pop, 1)) (ha : a.category = 1) (k : V p l e d s m args below meth c X nL ρ S (pc + 1) lv (st) K) : V p l e d s m args below meth c X nL ρ S pc lv (a :: st) K := fun H locs ls hP hS hl => lv_pop G.1 G.2.1 hd ha (k H locs ls hP hS hl)
theorem v_if_eq (G : vG p s m args meth c X sh0 own cc nL ret) {x : Int32} {off : Int} {tgt : Nat} {Kt Kf : τ} (hd : decode cc pc = .ok (.ifCond .eq off, 3)) (ht : (pc : Int) + off = (tgt : Int)) (kt : (x = 0) → V p l e d s m args below meth c X nL ρ S tgt lv st Kt) (kf : ¬ (x = 0) → V p l e d s m args below meth c X nL ρ S (pc + 3) lv st Kf) : V p l e d s m args below meth c X nL ρ S pc lv (.int x :: st) (if x = 0 then Kt else Kf) := fun H locs ls hP hS hl => lv_if_eq G.1 G.2.1 hd ht (fun h => by have h := h; rw [if_pos h]; exact kt h H locs ls hP hS hl) (fun h => by have h := h; rw [if_neg h]; exact kf h H locs ls hP hS hl)
theorem v_if_ne (G : vG p s m args meth c X sh0 own cc nL ret) {x : Int32} {off : Int} {tgt : Nat} {Kt Kf : τ} (hd : decode cc pc = .ok (.ifCond .ne off, 3)) (ht : (pc : Int) + off = (tgt : Int)) (kt : ¬ (x = 0) → V p l e d s m args below meth c X nL ρ S tgt lv st Kt) (kf : (x = 0) → V p l e d s m args below meth c X nL ρ S (pc + 3) lv st Kf) : V p l e d s m args below meth c X nL ρ S pc lv (.int x :: st) (if x = 0 then Kf else Kt) := fun H locs ls hP hS hl => lv_if_ne G.1 G.2.1 hd ht (fun h => by have h := h; rw [if_neg h]; exact kt h H locs ls hP hS hl) (fun h => by have h := h; rw [if_pos h]; exact kf h H locs ls hP hS hl)
theorem v_if_lt (G : vG p s m args meth c X sh0 own cc nL ret) {x : Int32} {off : Int} {tgt : Nat} {Kt Kf : τ} (hd : decode cc pc = .ok (.ifCond .lt off, 3)) (ht : (pc : Int) + off = (tgt : Int)) (kt : (x < 0) → V p l e d s m args below meth c X nL ρ S tgt lv st Kt) (kf : ¬ (x < 0) → V p l e d s m args below meth c X nL ρ S (pc + 3) lv st Kf) : V p l e d s m args below meth c X nL ρ S pc lv (.int x :: st) (if x < 0 then Kt else Kf) := fun H locs ls hP hS hl => lv_if_lt G.1 G.2.1 hd ht (fun h => by have h := h; rw [if_pos h]; exact kt h H locs ls hP hS hl) (fun h => by have h := h; rw [if_neg h]; exact kf h H locs ls hP hS hl)
theorem v_if_ge (G : vG p s m args meth c X sh0 own cc nL ret) {x : Int32} {off : Int} {tgt : Nat} {Kt Kf : τ} (hd : decode cc pc = .ok (.ifCond .ge off, 3)) (ht : (pc : Int) + off = (tgt : Int)) (kt : ¬ (x < 0) → V p l e d s m args below meth c X nL ρ S tgt lv st Kt) (kf : (x < 0) → V p l e d s m args below meth c X nL ρ S (pc + 3) lv st Kf) : V p l e d s m args below meth c X nL ρ S pc lv (.int x :: st) (if x < 0 then Kf else Kt) := fun H locs ls hP hS hl => lv_if_ge G.1 G.2.1 hd ht (fun h => by have h := Int32.not_lt.mpr h; rw [if_neg h]; exact kt h H locs ls hP hS hl) (fun h => by have h := Int32.not_le.mp h; rw [if_pos h]; exact kf h H locs ls hP hS hl)
theorem v_if_gt (G : vG p s m args meth c X sh0 own cc nL ret) {x : Int32} {off : Int} {tgt : Nat} {Kt Kf : τ} (hd : decode cc pc = .ok (.ifCond .gt off, 3)) (ht : (pc : Int) + off = (tgt : Int)) (kt : (0 < x) → V p l e d s m args below meth c X nL ρ S tgt lv st Kt) (kf : ¬ (0 < x) → V p l e d s m args below meth c X nL ρ S (pc + 3) lv st Kf) : V p l e d s m args below meth c X nL ρ S pc lv (.int x :: st) (if 0 < x then Kt else Kf) := fun H locs ls hP hS hl => lv_if_gt G.1 G.2.1 hd ht (fun h => by have h := h; rw [if_pos h]; exact kt h H locs ls hP hS hl) (fun h => by have h := h; rw [if_neg h]; exact kf h H locs ls hP hS hl)
theorem v_if_le (G : vG p s m args meth c X sh0 own cc nL ret) {x : Int32} {off : Int} {tgt : Nat} {Kt Kf : τ} (hd : decode cc pc = .ok (.ifCond .le off, 3)) (ht : (pc : Int) + off = (tgt : Int)) (kt : ¬ (0 < x) → V p l e d s m args below meth c X nL ρ S tgt lv st Kt) (kf : (0 < x) → V p l e d s m args below meth c X nL ρ S (pc + 3) lv st Kf) : V p l e d s m args below meth c X nL ρ S pc lv (.int x :: st) (if 0 < x then Kf else Kt) := fun H locs ls hP hS hl => lv_if_le G.1 G.2.1 hd ht (fun h => by have h := Int32.not_lt.mpr h; rw [if_neg h]; exact kt h H locs ls hP hS hl) (fun h => by have h := Int32.not_le.mp h; rw [if_pos h]; exact kf h H locs ls hP hS hl)
theorem v_icmp_eq (G : vG p s m args meth c X sh0 own cc nL ret) {x y : Int32} {off : Int} {tgt : Nat} {Kt Kf : τ} (hd : decode cc pc = .ok (.if_icmp .eq off, 3)) (ht : (pc : Int) + off = (tgt : Int)) (kt : (x = y) → V p l e d s m args below meth c X nL ρ S tgt lv st Kt) (kf : ¬ (x = y) → V p l e d s m args below meth c X nL ρ S (pc + 3) lv st Kf) : V p l e d s m args below meth c X nL ρ S pc lv (.int y :: .int x :: st) (if x = y then Kt else Kf) := fun H locs ls hP hS hl => lv_icmp_eq G.1 G.2.1 hd ht (fun h => by have h := h; rw [if_pos h]; exact kt h H locs ls hP hS hl) (fun h => by have h := h; rw [if_neg h]; exact kf h H locs ls hP hS hl)
theorem v_icmp_ne (G : vG p s m args meth c X sh0 own cc nL ret) {x y : Int32} {off : Int} {tgt : Nat} {Kt Kf : τ} (hd : decode cc pc = .ok (.if_icmp .ne off, 3)) (ht : (pc : Int) + off = (tgt : Int)) (kt : ¬ (x = y) → V p l e d s m args below meth c X nL ρ S tgt lv st Kt) (kf : (x = y) → V p l e d s m args below meth c X nL ρ S (pc + 3) lv st Kf) : V p l e d s m args below meth c X nL ρ S pc lv (.int y :: .int x :: st) (if x = y then Kf else Kt) := fun H locs ls hP hS hl => lv_icmp_ne G.1 G.2.1 hd ht (fun h => by have h := h; rw [if_neg h]; exact kt h H locs ls hP hS hl) (fun h => by have h := h; rw [if_pos h]; exact kf h H locs ls hP hS hl)
theorem v_icmp_lt (G : vG p s m args meth c X sh0 own cc nL ret) {x y : Int32} {off : Int} {tgt : Nat} {Kt Kf : τ} (hd : decode cc pc = .ok (.if_icmp .lt off, 3)) (ht : (pc : Int) + off = (tgt : Int)) (kt : (x < y) → V p l e d s m args below meth c X nL ρ S tgt lv st Kt) (kf : ¬ (x < y) → V p l e d s m args below meth c X nL ρ S (pc + 3) lv st Kf) : V p l e d s m args below meth c X nL ρ S pc lv (.int y :: .int x :: st) (if x < y then Kt else Kf) := fun H locs ls hP hS hl => lv_icmp_lt G.1 G.2.1 hd ht (fun h => by have h := h; rw [if_pos h]; exact kt h H locs ls hP hS hl) (fun h => by have h := h; rw [if_neg h]; exact kf h H locs ls hP hS hl)
theorem v_icmp_ge (G : vG p s m args meth c X sh0 own cc nL ret) {x y : Int32} {off : Int} {tgt : Nat} {Kt Kf : τ} (hd : decode cc pc = .ok (.if_icmp .ge off, 3)) (ht : (pc : Int) + off = (tgt : Int)) (kt : ¬ (x < y) → V p l e d s m args below meth c X nL ρ S tgt lv st Kt) (kf : (x < y) → V p l e d s m args below meth c X nL ρ S (pc + 3) lv st Kf) : V p l e d s m args below meth c X nL ρ S pc lv (.int y :: .int x :: st) (if x < y then Kf else Kt) := fun H locs ls hP hS hl => lv_icmp_ge G.1 G.2.1 hd ht (fun h => by have h := Int32.not_lt.mpr h; rw [if_neg h]; exact kt h H locs ls hP hS hl) (fun h => by have h := Int32.not_le.mp h; rw [if_pos h]; exact kf h H locs ls hP hS hl)
theorem v_icmp_gt (G : vG p s m args meth c X sh0 own cc nL ret) {x y : Int32} {off : Int} {tgt : Nat} {Kt Kf : τ} (hd : decode cc pc = .ok (.if_icmp .gt off, 3)) (ht : (pc : Int) + off = (tgt : Int)) (kt : (y < x) → V p l e d s m args below meth c X nL ρ S tgt lv st Kt) (kf : ¬ (y < x) → V p l e d s m args below meth c X nL ρ S (pc + 3) lv st Kf) : V p l e d s m args below meth c X nL ρ S pc lv (.int y :: .int x :: st) (if y < x then Kt else Kf) := fun H locs ls hP hS hl => lv_icmp_gt G.1 G.2.1 hd ht (fun h => by have h := h; rw [if_pos h]; exact kt h H locs ls hP hS hl) (fun h => by have h := h; rw [if_neg h]; exact kf h H locs ls hP hS hl)
theorem v_icmp_le (G : vG p s m args meth c X sh0 own cc nL ret) {x y : Int32} {off : Int} {tgt : Nat} {Kt Kf : τ} (hd : decode cc pc = .ok (.if_icmp .le off, 3)) (ht : (pc : Int) + off = (tgt : Int)) (kt : ¬ (y < x) → V p l e d s m args below meth c X nL ρ S tgt lv st Kt) (kf : (y < x) → V p l e d s m args below meth c X nL ρ S (pc + 3) lv st Kf) : V p l e d s m args below meth c X nL ρ S pc lv (.int y :: .int x :: st) (if y < x then Kf else Kt) := fun H locs ls hP hS hl => lv_icmp_le G.1 G.2.1 hd ht (fun h => by have h := Int32.not_lt.mpr h; rw [if_neg h]; exact kt h H locs ls hP hS hl) (fun h => by have h := Int32.not_le.mp h; rw [if_pos h]; exact kf h H locs ls hP hS hl)
theorem v_goto (G : vG p s m args meth c X sh0 own cc nL ret) {off : Int} {tgt : Nat} (hd : decode cc pc = .ok (.goto off, 3)) (ht : (pc : Int) + off = (tgt : Int)) (k : V p l e d s m args below meth c X nL ρ S tgt lv st K) : V p l e d s m args below meth c X nL ρ S pc lv st K := fun H locs ls hP hS hl => lv_goto G.1 G.2.1 hd ht (k H locs ls hP hS hl)
theorem v_sw {x : Int32} (n : Int32) {K1 K2 : τ} (k1 : V p l e d s m args below meth c X nL ρ S pc lv (.int n :: st) K1) (k2 : ¬ x = n → V p l e d s m args below meth c X nL ρ S pc lv (.int x :: st) K2) : V p l e d s m args below meth c X nL ρ S pc lv (.int x :: st) (if x = n then K1 else K2) := by
  by_cases h : x = n
  · rw [if_pos h, h]; exact k1
  · rw [if_neg h]; exact k2 h
theorem v_lookup (G : vG p s m args meth c X sh0 own cc nL ret) {x : Int32} {dflt : Int} {ps : Array (Int × Int)} {len : Nat} {off : Int} {tgt : Nat} (hd : decode cc pc = .ok (.lookupswitch dflt ps, len)) (hp : (ps.toList.zip (ps.toList.drop 1)).all (fun (a, next) => a.1 < next.1) = true) (ho : Op.lookupswitch.offset ps.toList dflt x.toInt = off) (ht : (pc : Int) + off = (tgt : Int)) (k : V p l e d s m args below meth c X nL ρ S tgt lv st K) : V p l e d s m args below meth c X nL ρ S pc lv (.int x :: st) K := fun H locs ls hP hS hl => lv_lookup G.1 G.2.1 hd hp ho ht (k H locs ls hP hS hl)
theorem v_tableOut (G : vG p s m args meth c X sh0 own cc nL ret) {x : Int32} {dflt lo hi : Int} {offs : Array Int} {len : Nat} {tgt : Nat} (hd : decode cc pc = .ok (.tableswitch dflt lo hi offs, len)) (h : x.toInt < lo ∨ hi < x.toInt) (ht : (pc : Int) + dflt = (tgt : Int)) (k : V p l e d s m args below meth c X nL ρ S tgt lv st K) : V p l e d s m args below meth c X nL ρ S pc lv (.int x :: st) K := fun H locs ls hP hS hl => lv_tableOut G.1 G.2.1 hd h ht (k H locs ls hP hS hl)
theorem v_tableIn (G : vG p s m args meth c X sh0 own cc nL ret) {x : Int32} {dflt lo hi : Int} {offs : Array Int} {len : Nat} {off : Int} {tgt : Nat} (hd : decode cc pc = .ok (.tableswitch dflt lo hi offs, len)) (h1 : ¬ x.toInt < lo) (h2 : ¬ hi < x.toInt) (ho : offs[(x.toInt - lo).toNat]? = some off) (ht : (pc : Int) + off = (tgt : Int)) (k : V p l e d s m args below meth c X nL ρ S tgt lv st K) : V p l e d s m args below meth c X nL ρ S pc lv (.int x :: st) K := fun H locs ls hP hS hl => lv_tableIn G.1 G.2.1 hd h1 h2 ho ht (k H locs ls hP hS hl)
theorem v_namei {x : Int32} {kf : Int32 → τ} (k : ∀ y : Int32, y = x → V p l e d s m args below meth c X nL ρ S pc lv (.int y :: st) (kf y)) : V p l e d s m args below meth c X nL ρ S pc lv (.int x :: st) (bnx x kf) := k x rfl
theorem v_namel {x : Int64} {kf : Int64 → τ} (k : ∀ y : Int64, y = x → V p l e d s m args below meth c X nL ρ S pc lv (.long y :: st) (kf y)) : V p l e d s m args below meth c X nL ρ S pc lv (.long x :: st) (bnl x kf) := k x rfl
theorem v_geti (G : vG p s m args meth c X sh0 own cc nL ret) {C : String} {T : u_T} {N ci i k j : Nat} {fl : List sh_F} (hin : ∀ w ∈ u_ws C T N, w ∈ tw) (hc : cls[ci]? = some (C, T, N)) (hs : sh0[k]? = some (.inr (ci, fl))) (hf : fl[j]? = some (none)) (hj : j < N) (hw : Cond.fieldLink own i (T j).1 (T j).2.1 (T j).2.2.1 ∈ tw)  (hd : decode cc pc = .ok (.getfield i, 3)) (k1 : V p l e d s m args below meth c X nL ρ S (pc + 3) lv (.int (S k j) :: st) K) : V p l e d s m args below meth c X nL ρ S pc lv (.ref (adr X k) :: st) K := fun H locs ls hP hS hl => va_get (D := X.1) (fs := sh_fs X (S k) fl) G.1 G.2.1 G.2.2.2.2.1 hin G.2.2.2.1 G.2.2.2.2.2.1.1 hP k (by rw [sh_w_at (by rw [G.2.2.2.2.2.2.2.1]; exact hs)]; rfl) hc j hj (G.2.2.2.2.1 _ hw) (fun _ h9 => h9) (by rw [sh_fs_at hf]; exact congrArg some rfl) hd (k1 H locs ls hP hS hl)
theorem v_getr (G : vG p s m args meth c X sh0 own cc nL ret) {C : String} {T : u_T} {N ci i k j : Nat} {fl : List sh_F} {r : Nat} (hin : ∀ w ∈ u_ws C T N, w ∈ tw) (hc : cls[ci]? = some (C, T, N)) (hs : sh0[k]? = some (.inr (ci, fl))) (hf : fl[j]? = some (some (r, false))) (hj : j < N) (hw : Cond.fieldLink own i (T j).1 (T j).2.1 (T j).2.2.1 ∈ tw)  (hd : decode cc pc = .ok (.getfield i, 3)) (k1 : V p l e d s m args below meth c X nL ρ S (pc + 3) lv (.ref (adr X r) :: st) K) : V p l e d s m args below meth c X nL ρ S pc lv (.ref (adr X k) :: st) K := fun H locs ls hP hS hl => va_get (D := X.1) (fs := sh_fs X (S k) fl) G.1 G.2.1 G.2.2.2.2.1 hin G.2.2.2.1 G.2.2.2.2.2.1.1 hP k (by rw [sh_w_at (by rw [G.2.2.2.2.2.2.2.1]; exact hs)]; rfl) hc j hj (G.2.2.2.2.1 _ hw) (fun _ h9 => h9) (by rw [sh_fs_at hf]; exact congrArg some rfl) hd (k1 H locs ls hP hS hl)
theorem v_getq (G : vG p s m args meth c X sh0 own cc nL ret) {C : String} {T : u_T} {N ci i k j : Nat} {fl : List sh_F} {r : Nat} (hin : ∀ w ∈ u_ws C T N, w ∈ tw) (hc : cls[ci]? = some (C, T, N)) (hs : sh0[k]? = some (.inr (ci, fl))) (hf : fl[j]? = some (some (r, true))) (hj : j < N) (hw : Cond.fieldLink own i (T j).1 (T j).2.1 (T j).2.2.1 ∈ tw) (hz : ¬ S k j = 0) (hd : decode cc pc = .ok (.getfield i, 3)) (k1 : V p l e d s m args below meth c X nL ρ S (pc + 3) lv (.ref (adr X r) :: st) K) : V p l e d s m args below meth c X nL ρ S pc lv (.ref (adr X k) :: st) K := fun H locs ls hP hS hl => va_get (D := X.1) (fs := sh_fs X (S k) fl) G.1 G.2.1 G.2.2.2.2.1 hin G.2.2.2.1 G.2.2.2.2.2.1.1 hP k (by rw [sh_w_at (by rw [G.2.2.2.2.2.2.2.1]; exact hs)]; rfl) hc j hj (G.2.2.2.2.1 _ hw) (fun _ h9 => h9) (by rw [sh_fs_at hf]; exact congrArg some (by show (if _ then _ else _) = _; rw [if_neg hz])) hd (k1 H locs ls hP hS hl)
theorem v_puti (G : vG p s m args meth c X sh0 own cc nL ret) {C : String} {T : u_T} {N ci i k j : Nat} {fl : List sh_F} {v : Int32} {ty0 : Nat → FieldType} {kf : St → τ} (hin : ∀ w ∈ u_ws C T N, w ∈ tw) (hc : cls[ci]? = some (C, T, N)) (hs : sh0[k]? = some (.inr (ci, fl))) (hty : ∀ k, k < N → parseFieldDescriptor (T k).2.2.1 = some (ty0 k)) (hnm : ∀ a, a < N → ∀ b, b < N → a ≠ b → (T a).2.1 ≠ (T b).2.1) (hf : fl[j]? = some none) (hj : j < N) (hfin : (T j).2.2.2 = false) (hn : narrow (ty0 j) (.int v) = .int v) (hfit : fits (ty0 j) (.int v) = true) (hw : Cond.fieldLink own i (T j).1 (T j).2.1 (T j).2.2.1 ∈ tw) (hd : decode cc pc = .ok (.putfield i, 3)) (k1 : ∀ S1 : St, S1 = st_up S k j v → V p l e d s m args below meth c X nL ρ S1 (pc + 3) lv st (kf S1)) : V p l e d s m args below meth c X nL ρ S pc lv (.int v :: .ref (adr X k) :: st) (bnv (st_up S k j v) kf) := by
  intro H locs ls hP hS hl
  have hs' : (shp X)[k]? = some (.inr (ci, fl)) := by rw [G.2.2.2.2.2.2.2.1]; exact hs
  refine va_put (D := X.1) (fs := sh_fs X (S k) fl) (ty := ty0 j) G.1 G.2.1 G.2.2.2.2.1 hin ty0 hty hnm G.2.2.2.1 G.2.2.2.2.2.1.1 hP (sh_D G.2.2.2.2.2.2.1 S s.heap.size) hS k (by rw [sh_w_at hs']; rfl) hc j hj (G.2.2.2.2.1 _ hw) (fun _ h9 => h9) hfin (hty j hj) hn hfit (by rw [sh_fs_len]; exact (List.getElem?_eq_some_iff.mp hf).1) hd (fun H1 locs1 hP1 _ hS1 => ?_)
  have e1 : (sh_fs X (S k) fl).set j (.int v) = sh_fs X (upd (S k) j v) fl := sh_fs_set (t := none) hf v
  rw [e1] at hP1
  have e2 : (sh_w X S).set k (adr X k, .inr (ci, sh_fs X (upd (S k) j v) fl)) = sh_w X (st_up S k j v) := sh_set (d := .inr (ci, fl)) hs' j v
  rw [e2] at hP1
  exact k1 _ rfl H1 locs1 ls hP1 hS1 hl
theorem v_getNi (G : vG p s m args meth c X sh0 own cc nL ret) {C : String} {T : u_T} {N ci i k j : Nat} {fl : List sh_F} (hin : ∀ w ∈ u_ws C T N, w ∈ tw) (hc : cls[ci]? = some (C, T, N)) (hs : sh0[k]? = some (.inr (ci, fl))) (hf : fl[j]? = some (none)) (hj : j < N) {host : String} (hw : (own, i, (T j).1, (T j).2.1, (T j).2.2.1, host) ∈ tnF)  (hd : decode cc pc = .ok (.getfield i, 3)) (k1 : V p l e d s m args below meth c X nL ρ S (pc + 3) lv (.int (S k j) :: st) K) : V p l e d s m args below meth c X nL ρ S pc lv (.ref (adr X k) :: st) K := fun H locs ls hP hS hl => va_getN (D := X.1) (fs := sh_fs X (S k) fl) G.1 G.2.1 G.2.2.2.2.1 hin G.2.2.2.1 G.2.2.2.2.2.1.1 hP k (by rw [sh_w_at (by rw [G.2.2.2.2.2.2.2.1]; exact hs)]; rfl) hc j hj (va_Nw.use rfl (G.2.2.2.2.2.1.2.1 _ hw)) (fun _ h9 => h9) (by rw [sh_fs_at hf]; exact congrArg some rfl) hd (k1 H locs ls hP hS hl)
theorem v_getNr (G : vG p s m args meth c X sh0 own cc nL ret) {C : String} {T : u_T} {N ci i k j : Nat} {fl : List sh_F} {r : Nat} (hin : ∀ w ∈ u_ws C T N, w ∈ tw) (hc : cls[ci]? = some (C, T, N)) (hs : sh0[k]? = some (.inr (ci, fl))) (hf : fl[j]? = some (some (r, false))) (hj : j < N) {host : String} (hw : (own, i, (T j).1, (T j).2.1, (T j).2.2.1, host) ∈ tnF)  (hd : decode cc pc = .ok (.getfield i, 3)) (k1 : V p l e d s m args below meth c X nL ρ S (pc + 3) lv (.ref (adr X r) :: st) K) : V p l e d s m args below meth c X nL ρ S pc lv (.ref (adr X k) :: st) K := fun H locs ls hP hS hl => va_getN (D := X.1) (fs := sh_fs X (S k) fl) G.1 G.2.1 G.2.2.2.2.1 hin G.2.2.2.1 G.2.2.2.2.2.1.1 hP k (by rw [sh_w_at (by rw [G.2.2.2.2.2.2.2.1]; exact hs)]; rfl) hc j hj (va_Nw.use rfl (G.2.2.2.2.2.1.2.1 _ hw)) (fun _ h9 => h9) (by rw [sh_fs_at hf]; exact congrArg some rfl) hd (k1 H locs ls hP hS hl)
theorem v_getNq (G : vG p s m args meth c X sh0 own cc nL ret) {C : String} {T : u_T} {N ci i k j : Nat} {fl : List sh_F} {r : Nat} (hin : ∀ w ∈ u_ws C T N, w ∈ tw) (hc : cls[ci]? = some (C, T, N)) (hs : sh0[k]? = some (.inr (ci, fl))) (hf : fl[j]? = some (some (r, true))) (hj : j < N) {host : String} (hw : (own, i, (T j).1, (T j).2.1, (T j).2.2.1, host) ∈ tnF) (hz : ¬ S k j = 0) (hd : decode cc pc = .ok (.getfield i, 3)) (k1 : V p l e d s m args below meth c X nL ρ S (pc + 3) lv (.ref (adr X r) :: st) K) : V p l e d s m args below meth c X nL ρ S pc lv (.ref (adr X k) :: st) K := fun H locs ls hP hS hl => va_getN (D := X.1) (fs := sh_fs X (S k) fl) G.1 G.2.1 G.2.2.2.2.1 hin G.2.2.2.1 G.2.2.2.2.2.1.1 hP k (by rw [sh_w_at (by rw [G.2.2.2.2.2.2.2.1]; exact hs)]; rfl) hc j hj (va_Nw.use rfl (G.2.2.2.2.2.1.2.1 _ hw)) (fun _ h9 => h9) (by rw [sh_fs_at hf]; exact congrArg some (by show (if _ then _ else _) = _; rw [if_neg hz])) hd (k1 H locs ls hP hS hl)
theorem v_putNi (G : vG p s m args meth c X sh0 own cc nL ret) {C : String} {T : u_T} {N ci i k j : Nat} {fl : List sh_F} {v : Int32} {ty0 : Nat → FieldType} {kf : St → τ} (hin : ∀ w ∈ u_ws C T N, w ∈ tw) (hc : cls[ci]? = some (C, T, N)) (hs : sh0[k]? = some (.inr (ci, fl))) (hty : ∀ k, k < N → parseFieldDescriptor (T k).2.2.1 = some (ty0 k)) (hnm : ∀ a, a < N → ∀ b, b < N → a ≠ b → (T a).2.1 ≠ (T b).2.1) (hf : fl[j]? = some none) (hj : j < N) (hfin : (T j).2.2.2 = false) (hn : narrow (ty0 j) (.int v) = .int v) (hfit : fits (ty0 j) (.int v) = true) {host : String} (hw : (own, i, (T j).1, (T j).2.1, (T j).2.2.1, host) ∈ tnF) (hd : decode cc pc = .ok (.putfield i, 3)) (k1 : ∀ S1 : St, S1 = st_up S k j v → V p l e d s m args below meth c X nL ρ S1 (pc + 3) lv st (kf S1)) : V p l e d s m args below meth c X nL ρ S pc lv (.int v :: .ref (adr X k) :: st) (bnv (st_up S k j v) kf) := by
  intro H locs ls hP hS hl
  have hs' : (shp X)[k]? = some (.inr (ci, fl)) := by rw [G.2.2.2.2.2.2.2.1]; exact hs
  refine va_putN (D := X.1) (fs := sh_fs X (S k) fl) (ty := ty0 j) G.1 G.2.1 G.2.2.2.2.1 hin ty0 hty hnm G.2.2.2.1 G.2.2.2.2.2.1.1 hP (sh_D G.2.2.2.2.2.2.1 S s.heap.size) hS k (by rw [sh_w_at hs']; rfl) hc j hj (va_Nw.use rfl (G.2.2.2.2.2.1.2.1 _ hw)) (fun _ h9 => h9) hfin (hty j hj) hn hfit (by rw [sh_fs_len]; exact (List.getElem?_eq_some_iff.mp hf).1) hd (fun H1 locs1 hP1 _ hS1 => ?_)
  have e1 : (sh_fs X (S k) fl).set j (.int v) = sh_fs X (upd (S k) j v) fl := sh_fs_set (t := none) hf v
  rw [e1] at hP1
  have e2 : (sh_w X S).set k (adr X k, .inr (ci, sh_fs X (upd (S k) j v) fl)) = sh_w X (st_up S k j v) := sh_set (d := .inr (ci, fl)) hs' j v
  rw [e2] at hP1
  exact k1 _ rfl H1 locs1 ls hP1 hS1 hl
theorem v_putq (G : vG p s m args meth c X sh0 own cc nL ret) {C : String} {T : u_T} {N ci i k j r : Nat} {fl : List sh_F} {ty0 : Nat → FieldType} {kf : St → τ} (hin : ∀ w ∈ u_ws C T N, w ∈ tw) (hc : cls[ci]? = some (C, T, N)) (hs : sh0[k]? = some (.inr (ci, fl))) (hty : ∀ k, k < N → parseFieldDescriptor (T k).2.2.1 = some (ty0 k)) (hnm : ∀ a, a < N → ∀ b, b < N → a ≠ b → (T a).2.1 ≠ (T b).2.1) (hf : fl[j]? = some (some (r, true))) (hj : j < N) (hfin : (T j).2.2.2 = false) (hn : ∀ a : Nat, narrow (ty0 j) (.ref a) = .ref a) (hfit : ∀ a : Nat, fits (ty0 j) (.ref a) = true) (hw : Cond.fieldLink own i (T j).1 (T j).2.1 (T j).2.2.1 ∈ tw) (hd : decode cc pc = .ok (.putfield i, 3)) (k1 : ∀ S1 : St, S1 = st_up S k j 1 → V p l e d s m args below meth c X nL ρ S1 (pc + 3) lv st (kf S1)) : V p l e d s m args below meth c X nL ρ S pc lv (.ref (adr X r) :: .ref (adr X k) :: st) (bnv (st_up S k j 1) kf) := by
  intro H locs ls hP hS hl
  have hs' : (shp X)[k]? = some (.inr (ci, fl)) := by rw [G.2.2.2.2.2.2.2.1]; exact hs
  refine va_put (D := X.1) (fs := sh_fs X (S k) fl) (ty := ty0 j) G.1 G.2.1 G.2.2.2.2.1 hin ty0 hty hnm G.2.2.2.1 G.2.2.2.2.2.1.1 hP (sh_D G.2.2.2.2.2.2.1 S s.heap.size) hS k (by rw [sh_w_at hs']; rfl) hc j hj (G.2.2.2.2.1 _ hw) (fun _ h9 => h9) hfin (hty j hj) (hn _) (hfit _) (by rw [sh_fs_len]; exact (List.getElem?_eq_some_iff.mp hf).1) hd (fun H1 locs1 hP1 _ hS1 => ?_)
  have e0 : sh_v X 1 (some (r, true)) = .ref (adr X r) := by simp [sh_v]
  have e1 : (sh_fs X (S k) fl).set j (.ref (adr X r)) = sh_fs X (upd (S k) j 1) fl := by rw [← e0]; exact sh_fs_set (t := some (r, true)) hf 1
  rw [e1] at hP1
  have e2 : (sh_w X S).set k (adr X k, .inr (ci, sh_fs X (upd (S k) j 1) fl)) = sh_w X (st_up S k j 1) := sh_set (d := .inr (ci, fl)) hs' j 1
  rw [e2] at hP1
  exact k1 _ rfl H1 locs1 ls hP1 hS1 hl
theorem v_iald (G : vG p s m args meth c X sh0 own cc nL ret) {k n : Nat} {i : Int32} (hs : sh0[k]? = some (.inl (0, n))) (hin : vp_in i n) (hd : decode cc pc = .ok (.iaload, 1)) (k1 : V p l e d s m args below meth c X nL ρ S (pc + 1) lv (.int (S k i.toNatClampNeg) :: st) K) : V p l e d s m args below meth c X nL ρ S pc lv (.int i :: .ref (adr X k) :: st) K := fun H locs ls hP hS hl => va_iald (D := X.1) (f := S k) (n := n) (cA := cyr X 0) G.1 G.2.1 G.2.2.2.2.2.1.1 hP k 0 (by rw [sh_w_at (by rw [G.2.2.2.2.2.2.2.1]; exact hs)]; rfl) rfl hin hd (k1 H locs ls hP hS hl)
theorem v_iast (G : vG p s m args meth c X sh0 own cc nL ret) {k n : Nat} {i x : Int32} {kf : St → τ} (hs : sh0[k]? = some (.inl (0, n))) (hin : vp_in i n) (hd : decode cc pc = .ok (.iastore, 1)) (k1 : ∀ S1 : St, S1 = st_up S k i.toNatClampNeg (x) → V p l e d s m args below meth c X nL ρ S1 (pc + 1) lv st (kf S1)) : V p l e d s m args below meth c X nL ρ S pc lv (.int x :: .int i :: .ref (adr X k) :: st) (bnv (st_up S k i.toNatClampNeg (x)) kf) := by
  intro H locs ls hP hS hl
  have hs' : (shp X)[k]? = some (.inl (0, n)) := by rw [G.2.2.2.2.2.2.2.1]; exact hs
  refine va_iast (D := X.1) (f := S k) (n := n) (cA := cyr X 0) G.1 G.2.1 G.2.2.2.2.2.1.1 hP (sh_D G.2.2.2.2.2.2.1 S s.heap.size) hS k 0 (by rw [sh_w_at hs']; rfl) rfl hin hd (fun H1 locs1 hP1 _ hS1 => ?_)
  have e2 : (sh_w X S).set k (adr X k, .inl (cyr X 0, n, .inl (upd (S k) i.toNatClampNeg (x)))) = sh_w X (st_up S k i.toNatClampNeg (x)) := sh_set (d := .inl (0, n)) hs' _ _
  rw [e2] at hP1
  exact k1 _ rfl H1 locs1 ls hP1 hS1 hl
theorem v_bald (G : vG p s m args meth c X sh0 own cc nL ret) {k n : Nat} {i : Int32} (hs : sh0[k]? = some (.inl (1, n))) (hin : vp_in i n) (hd : decode cc pc = .ok (.baload, 1)) (k1 : V p l e d s m args below meth c X nL ρ S (pc + 1) lv (.int (S k i.toNatClampNeg) :: st) K) : V p l e d s m args below meth c X nL ρ S pc lv (.int i :: .ref (adr X k) :: st) K := fun H locs ls hP hS hl => va_bald (D := X.1) (f := S k) (n := n) (cA := cyr X 1) G.1 G.2.1 G.2.2.2.2.2.1.1 hP k 1 (by rw [sh_w_at (by rw [G.2.2.2.2.2.2.2.1]; exact hs)]; rfl) rfl hin hd (k1 H locs ls hP hS hl)
theorem v_bast (G : vG p s m args meth c X sh0 own cc nL ret) {k n : Nat} {i x : Int32} {kf : St → τ} (hs : sh0[k]? = some (.inl (1, n))) (hin : vp_in i n) (hd : decode cc pc = .ok (.bastore, 1)) (k1 : ∀ S1 : St, S1 = st_up S k i.toNatClampNeg (vp_nar .byte x) → V p l e d s m args below meth c X nL ρ S1 (pc + 1) lv st (kf S1)) : V p l e d s m args below meth c X nL ρ S pc lv (.int x :: .int i :: .ref (adr X k) :: st) (bnv (st_up S k i.toNatClampNeg (vp_nar .byte x)) kf) := by
  intro H locs ls hP hS hl
  have hs' : (shp X)[k]? = some (.inl (1, n)) := by rw [G.2.2.2.2.2.2.2.1]; exact hs
  refine va_bast (D := X.1) (f := S k) (n := n) (cA := cyr X 1) G.1 G.2.1 G.2.2.2.2.2.1.1 hP (sh_D G.2.2.2.2.2.2.1 S s.heap.size) hS k 1 (by rw [sh_w_at hs']; rfl) rfl hin hd (fun H1 locs1 hP1 _ hS1 => ?_)
  have e2 : (sh_w X S).set k (adr X k, .inl (cyr X 1, n, .inl (upd (S k) i.toNatClampNeg (vp_nar .byte x)))) = sh_w X (st_up S k i.toNatClampNeg (vp_nar .byte x)) := sh_set (d := .inl (1, n)) hs' _ _
  rw [e2] at hP1
  exact k1 _ rfl H1 locs1 ls hP1 hS1 hl
theorem v_zald (G : vG p s m args meth c X sh0 own cc nL ret) {k n : Nat} {i : Int32} (hs : sh0[k]? = some (.inl (2, n))) (hin : vp_in i n) (hd : decode cc pc = .ok (.baload, 1)) (k1 : V p l e d s m args below meth c X nL ρ S (pc + 1) lv (.int (S k i.toNatClampNeg) :: st) K) : V p l e d s m args below meth c X nL ρ S pc lv (.int i :: .ref (adr X k) :: st) K := fun H locs ls hP hS hl => va_zald (D := X.1) (f := S k) (n := n) (cA := cyr X 2) G.1 G.2.1 G.2.2.2.2.2.1.1 hP k 2 (by rw [sh_w_at (by rw [G.2.2.2.2.2.2.2.1]; exact hs)]; rfl) rfl hin hd (k1 H locs ls hP hS hl)
theorem v_zast (G : vG p s m args meth c X sh0 own cc nL ret) {k n : Nat} {i x : Int32} {kf : St → τ} (hs : sh0[k]? = some (.inl (2, n))) (hin : vp_in i n) (hd : decode cc pc = .ok (.bastore, 1)) (k1 : ∀ S1 : St, S1 = st_up S k i.toNatClampNeg (vp_nar .boolean x) → V p l e d s m args below meth c X nL ρ S1 (pc + 1) lv st (kf S1)) : V p l e d s m args below meth c X nL ρ S pc lv (.int x :: .int i :: .ref (adr X k) :: st) (bnv (st_up S k i.toNatClampNeg (vp_nar .boolean x)) kf) := by
  intro H locs ls hP hS hl
  have hs' : (shp X)[k]? = some (.inl (2, n)) := by rw [G.2.2.2.2.2.2.2.1]; exact hs
  refine va_zast (D := X.1) (f := S k) (n := n) (cA := cyr X 2) G.1 G.2.1 G.2.2.2.2.2.1.1 hP (sh_D G.2.2.2.2.2.2.1 S s.heap.size) hS k 2 (by rw [sh_w_at hs']; rfl) rfl hin hd (fun H1 locs1 hP1 _ hS1 => ?_)
  have e2 : (sh_w X S).set k (adr X k, .inl (cyr X 2, n, .inl (upd (S k) i.toNatClampNeg (vp_nar .boolean x)))) = sh_w X (st_up S k i.toNatClampNeg (vp_nar .boolean x)) := sh_set (d := .inl (2, n)) hs' _ _
  rw [e2] at hP1
  exact k1 _ rfl H1 locs1 ls hP1 hS1 hl
theorem v_alen (G : vG p s m args meth c X sh0 own cc nL ret) {k n t : Nat} {ty : FieldType} (hs : sh0[k]? = some (.inl (t, n))) (ht : (tys3 X)[t]? = some (cyr X t, ty)) (hd : decode cc pc = .ok (.arraylength, 1)) (k1 : V p l e d s m args below meth c X nL ρ S (pc + 1) lv (.int (nI n) :: st) K) : V p l e d s m args below meth c X nL ρ S pc lv (.ref (adr X k) :: st) K := fun H locs ls hP hS hl => va_alen (D := X.1) (x := (n, .inl (S k))) (cA := cyr X t) G.1 G.2.1 G.2.2.2.2.2.1.1 hP k t (by rw [sh_w_at (by rw [G.2.2.2.2.2.2.2.1]; exact hs)]; rfl) ht rfl hd (k1 H locs ls hP hS hl)
theorem v_iret (G : vG p s m args meth c X sh0 own cc nL ret) {r : Int32} (hr : ret = some .int) (h : (ρ K) = (some (.int r), S)) (hd : decode cc pc = .ok (.ireturn, 1)) : V p l e d s m args below meth c X nL ρ S pc lv [.int r] K := by
  intro H locs ls hP hS hl
  have hlk : meth.locks = false := G.2.2.2.2.2.2.2.2.2
  exact W.iret (v := r) G.1 G.2.1 (G.2.2.2.2.2.2.2.2.1.trans hr) (fun t ht hW => ⟨by rw [h], by rw [h, ht]; exact hP, hS.F ht⟩) hS.2.2 hd
theorem v_zret (G : vG p s m args meth c X sh0 own cc nL ret) {r : Int32} (hr : ret = some .boolean) (hn : narrow .boolean (.int r) = .int r) (h : (ρ K) = (some (.int r), S)) (hd : decode cc pc = .ok (.ireturn, 1)) : V p l e d s m args below meth c X nL ρ S pc lv [.int r] K := by
  intro H locs ls hP hS hl
  have hlk : meth.locks = false := G.2.2.2.2.2.2.2.2.2
  exact W.zret (v := r) G.1 G.2.1 (G.2.2.2.2.2.2.2.2.1.trans hr) hn (fun t ht hW => ⟨by rw [h], by rw [h, ht]; exact hP, hS.F ht⟩) hS.2.2 hd
theorem v_vret (G : vG p s m args meth c X sh0 own cc nL ret) (hr : ret = none) (h : (ρ K) = (none, S)) (hd : decode cc pc = .ok (.return_, 1)) : V p l e d s m args below meth c X nL ρ S pc lv [] K := by
  intro H locs ls hP hS hl
  have hlk : meth.locks = false := G.2.2.2.2.2.2.2.2.2
  exact W.vret G.1 G.2.1 (G.2.2.2.2.2.2.2.2.1.trans hr) (fun t ht hW => ⟨by rw [h], by rw [h, ht]; exact hP, hS.F ht⟩) hS.2.2 hd
theorem v_aret (G : vG p s m args meth c X sh0 own cc nL ret) {r : Nat} {n : String} (hr : ret = some (.object n)) (h : (ρ K) = (some (.ref r), S)) (hd : decode cc pc = .ok (.areturn, 1)) : V p l e d s m args below meth c X nL ρ S pc lv [.ref r] K := by
  intro H locs ls hP hS hl
  have hlk : meth.locks = false := G.2.2.2.2.2.2.2.2.2
  exact W.aret (v := .ref r) G.1 G.2.1 (G.2.2.2.2.2.2.2.2.1.trans hr) (Or.inl ⟨n, rfl⟩) (Or.inr ⟨r, rfl⟩) (fun t ht hW => ⟨by rw [h], by rw [h, ht]; exact hP, hS.F ht⟩) hS.2.2 hd
theorem vP_blind (X : vD) (sz : Nat) (As : List Value) (S : St) : FrameBlind (vP X sz As S) := fun a U g mk q => by
  obtain ⟨q0, q1, qP, qK⟩ := q
  exact ⟨q0, q1, qP, sh_K.same (s := U) rfl qK⟩
theorem v_back {locs : List Loc} {H : Heap} {K1 : Option Value × St} {a : Array Value} {st0 : List Value} {ls : Array Slot} {Q : State → Prop} (hr : va_Run p l e (rmd d) s m args below meth c H locs 0 0 0 0 (F0 m pc ls st0) st (vQ X H.size K1 a) (sh_A X H.size)) (hS : va_S (sh_A X s.heap.size) s.heap H locs)
    (kk : ∀ (H1 : Heap) (locs1 : List Loc), sh_P X K1.2 H1 → va_S (sh_A X s.heap.size) s.heap H1 locs1 → W p l e (rmd d) s m args below meth c H1 locs1 0 0 Q (F0 m (pc + 3) ls (K1.1.toList ++ st))) : W p l e (rmd d) s m args below meth c H locs 0 0 Q (F0 m pc ls st0) := by
  intro T hT X0
  obtain ⟨v, st₀, t, T', L, h0, X', hL, e1, e2, ⟨hv, hP1, hz, hk⟩, stp⟩ := hr T hT X0
  rw [h0] at hz hk
  have hv2 : v = K1.1 := by injection hv
  subst hv2
  have hA : ∀ q, sh_A X H.size q → sh_A X s.heap.size q := fun q h => h.elim Or.inl (fun z => Or.inr (Nat.le_trans hS.1 z))
  obtain ⟨t2, a1, b1⟩ := kk T'.heap (locs ++ L) (by rw [e1]; exact hP1) ⟨Nat.le_trans hS.1 (by rw [e1]; exact hz), fun q h1 h2 => by rw [e1, hk q (Nat.lt_of_lt_of_le h1 hS.1) (fun z => h2 (hA q z))]; exact hS.2.1 q h1 h2, fun q hq => by
      rcases List.mem_append.mp hq with h | h
      · exact hS.2.2 q h
      · exact hA _ (hL q h)⟩ T' rfl X'
  exact ⟨t2, stp t2 a1, b1⟩
theorem sh_recv {H : Heap} {C : String} {T : u_T} {N ci k : Nat} {fl : List sh_F} (G : vG p s m args meth c X sh0 own cc nL ret) (hP : sh_P X S H) (hc : cls[ci]? = some (C, T, N)) (hs : sh0[k]? = some (.inr (ci, fl))) : ∃ cellB : Cell, H[adr X k]? = some cellB ∧ cellB.vm.isStatics = false ∧ s.vm.findClass C = some cellB.cls :=
  va_recv (q := (C, T, N)) (fs := sh_fs X (S k) fl) G.2.2.2.2.2.1.1 hP hc (by rw [sh_w_at (by rw [G.2.2.2.2.2.2.2.1]; exact hs)]; rfl)
/-- an instance method of an object of the world -/
theorem v_callV (G : vG p s m args meth c X sh0 own cc nL ret) {y : MethodName} {cc' : ByteArray} {n' : Nat} {ret' : Option FieldType} {d' i k ci : Nat} {T : u_T} {N : Nat} {fl : List sh_F} {As st0 : List Value} {K1 : Option Value × St} (hC : Con l X y cc' n' ret' d' (.ref (adr X k) :: As) S K1) (hdd : d' + 1 ≤ d) (hnl : n' ≤ 17) (hc : cls[ci]? = some (y.cls, T, N)) (hs : sh0[k]? = some (.inr (ci, fl))) (w1 : Cond.methodLink own i y ∈ tw) (w2 : Cond.instanceMethod y ∈ tw) (w3 : Cond.selects y.cls y y ∈ tw) (w4 : Cond.initialized y.cls ∈ tw) (w5 : Cond.code y cc' n' ret' ∈ tw)
    (hy : y.cls ≠ "java/lang/invoke/MethodHandle" ∧ y.cls ≠ "java/lang/invoke/VarHandle" ∧ (parseMethodDescriptor y.desc).map (fun d => d.parameters.length) = some As.length) (hst : st0 = As.reverse ++ .ref (adr X k) :: st) (hrm : (st.map fun v => v.category).sum ≤ 8) (hd : decode cc pc = .ok (.invokevirtual i, 3)) (k1 : V p l e d s m args below meth c X nL ρ K1.2 (pc + 3) lv (K1.1.toList ++ st) K) : V p l e d s m args below meth c X nL ρ S pc lv st0 K := by
  intro H locs ls hP hS hl
  obtain ⟨g1, g2, g3, g4, g5, g6, g7, g8, g9, g10⟩ := id G
  have cb : CallB (rmd d) s args own i y cc' n' ret' (uw y cc' n' ret') (rmd d') 0 0 As.length := callB_of As.length g5 (lw_goodIn w5) rfl rfl rfl (g5 _ w4) (g5 _ w1) hy ⟨hdd, by show 8 + (n' + 11) + 36 * d' ≤ 36 * d; omega⟩
  have hp : PreV s H y.cls (adr X k) (vP X H.size (.ref (adr X k) :: As) S) As := ⟨vP_blind _ _ _ _, sh_recv (S := S) G hP hc hs, fun U hU hW => ⟨rfl, by rw [hU], by rw [hU]; exact hP, sh_K.warm hW g6⟩⟩
  refine v_back (K1 := K1) (st := st) (ls := ls) (pc := pc) (va_runV (As := As) (rest := st) ⟨g1, g2, g3, g4, g5⟩ (hC H.size) ⟨cb, g5 _ w2, g5 _ w3⟩ hp rfl rfl hl.1 hst (lv_room hrm) hd ⟨Nat.le_refl _, Nat.le_refl _⟩) hS ?_
  exact fun H1 locs1 hP1 hS1 => k1 H1 locs1 ls hP1 hS1 hl
/-- a static method -/
theorem v_callS (G : vG p s m args meth c X sh0 own cc nL ret) {y : MethodName} {cc' : ByteArray} {n' : Nat} {ret' : Option FieldType} {d' i : Nat} {As st0 : List Value} {K1 : Option Value × St} (hC : Con l X y cc' n' ret' d' As S K1) (hdd : d' + 1 ≤ d) (hnl : n' ≤ 17) (w1 : Cond.methodLink own i y ∈ tw) (w2 : Cond.static y ∈ tw) (w4 : Cond.initialized y.cls ∈ tw) (w5 : Cond.code y cc' n' ret' ∈ tw)
    (hy : y.cls ≠ "java/lang/invoke/MethodHandle" ∧ y.cls ≠ "java/lang/invoke/VarHandle" ∧ (parseMethodDescriptor y.desc).map (fun d => d.parameters.length) = some As.length) (hst : st0 = As.reverse ++ st) (hrm : (st.map fun v => v.category).sum ≤ 8) (hd : decode cc pc = .ok (.invokestatic i, 3)) (k1 : V p l e d s m args below meth c X nL ρ K1.2 (pc + 3) lv (K1.1.toList ++ st) K) : V p l e d s m args below meth c X nL ρ S pc lv st0 K := by
  intro H locs ls hP hS hl
  obtain ⟨g1, g2, g3, g4, g5, g6, g7, g8, g9, g10⟩ := id G
  have cb : CallB (rmd d) s args own i y cc' n' ret' (uw y cc' n' ret') (rmd d') 0 0 As.length := callB_of As.length g5 (lw_goodIn w5) rfl rfl rfl (g5 _ w4) (g5 _ w1) hy ⟨hdd, by show 8 + (n' + 11) + 36 * d' ≤ 36 * d; omega⟩
  have hp : PreS s H (vP X H.size As S) As := ⟨vP_blind _ _ _ _, fun U hU hW => ⟨rfl, by rw [hU], by rw [hU]; exact hP, sh_K.warm hW g6⟩⟩
  refine v_back (K1 := K1) (st := st) (ls := ls) (pc := pc) (va_runS (As := As) (rest := st) ⟨g1, g2, g3, g4, g5⟩ (hC H.size) ⟨cb, g5 _ w2⟩ hp rfl rfl hl.1 hst (lv_room hrm) hd ⟨Nat.le_refl _, Nat.le_refl _⟩) hS ?_
  exact fun H1 locs1 hP1 hS1 => k1 H1 locs1 ls hP1 hS1 hl
/-- behind a call that changes the state: the pure term goes on with its answer -/
theorem v_bnd {q : Int32 × St} {kf : Int32 → St → τ} (k : ∀ (r : Int32) (S1 : St), q = (r, S1) → V p l e d s m args below meth c X nL ρ S1 pc lv (.int r :: st) (kf r S1)) : V p l e d s m args below meth c X nL ρ q.2 pc lv (.int q.1 :: st) (bnd q kf) := k q.1 q.2 rfl
theorem v_bnv {S0 : St} {kf : St → τ} (k : ∀ S1 : St, S1 = S0 → V p l e d s m args below meth c X nL ρ S1 pc lv st (kf S1)) : V p l e d s m args below meth c X nL ρ S0 pc lv st (bnv S0 kf) := k S0 rfl
theorem v_callVi (G : vG p s m args meth c X sh0 own cc nL ret) {y : MethodName} {cc' : ByteArray} {n' : Nat} {ret' : Option FieldType} {d' i k ci : Nat} {T : u_T} {N : Nat} {fl : List sh_F} {As st0 : List Value} {r : Int32} {S1 : St} (hC : Con l X y cc' n' ret' d' (.ref (adr X k) :: As) S (some (.int r), S1)) (hdd : d' + 1 ≤ d) (hnl : n' ≤ 17) (hc : cls[ci]? = some (y.cls, T, N)) (hs : sh0[k]? = some (.inr (ci, fl))) (w1 : Cond.methodLink own i y ∈ tw) (w2 : Cond.instanceMethod y ∈ tw) (w3 : Cond.selects y.cls y y ∈ tw) (w4 : Cond.initialized y.cls ∈ tw) (w5 : Cond.code y cc' n' ret' ∈ tw)
    (hy : y.cls ≠ "java/lang/invoke/MethodHandle" ∧ y.cls ≠ "java/lang/invoke/VarHandle" ∧ (parseMethodDescriptor y.desc).map (fun d => d.parameters.length) = some As.length) (hst : st0 = As.reverse ++ .ref (adr X k) :: st) (hrm : (st.map fun v => v.category).sum ≤ 8) (hd : decode cc pc = .ok (.invokevirtual i, 3)) (k1 : V p l e d s m args below meth c X nL ρ S1 (pc + 3) lv (.int r :: st) K) : V p l e d s m args below meth c X nL ρ S pc lv st0 K := v_callV G hC hdd hnl hc hs w1 w2 w3 w4 w5 hy hst hrm hd k1
theorem v_callSi (G : vG p s m args meth c X sh0 own cc nL ret) {y : MethodName} {cc' : ByteArray} {n' : Nat} {ret' : Option FieldType} {d' i : Nat} {As st0 : List Value} {r : Int32} {S1 : St} (hC : Con l X y cc' n' ret' d' As S (some (.int r), S1)) (hdd : d' + 1 ≤ d) (hnl : n' ≤ 17) (w1 : Cond.methodLink own i y ∈ tw) (w2 : Cond.static y ∈ tw) (w4 : Cond.initialized y.cls ∈ tw) (w5 : Cond.code y cc' n' ret' ∈ tw)
    (hy : y.cls ≠ "java/lang/invoke/MethodHandle" ∧ y.cls ≠ "java/lang/invoke/VarHandle" ∧ (parseMethodDescriptor y.desc).map (fun d => d.parameters.length) = some As.length) (hst : st0 = As.reverse ++ st) (hrm : (st.map fun v => v.category).sum ≤ 8) (hd : decode cc pc = .ok (.invokestatic i, 3)) (k1 : V p l e d s m args below meth c X nL ρ S1 (pc + 3) lv (.int r :: st) K) : V p l e d s m args below meth c X nL ρ S pc lv st0 K := v_callS G hC hdd hnl w1 w2 w4 w5 hy hst hrm hd k1
theorem v_callVv (G : vG p s m args meth c X sh0 own cc nL ret) {y : MethodName} {cc' : ByteArray} {n' : Nat} {ret' : Option FieldType} {d' i k ci : Nat} {T : u_T} {N : Nat} {fl : List sh_F} {As st0 : List Value} {S1 : St} (hC : Con l X y cc' n' ret' d' (.ref (adr X k) :: As) S (none, S1)) (hdd : d' + 1 ≤ d) (hnl : n' ≤ 17) (hc : cls[ci]? = some (y.cls, T, N)) (hs : sh0[k]? = some (.inr (ci, fl))) (w1 : Cond.methodLink own i y ∈ tw) (w2 : Cond.instanceMethod y ∈ tw) (w3 : Cond.selects y.cls y y ∈ tw) (w4 : Cond.initialized y.cls ∈ tw) (w5 : Cond.code y cc' n' ret' ∈ tw)
    (hy : y.cls ≠ "java/lang/invoke/MethodHandle" ∧ y.cls ≠ "java/lang/invoke/VarHandle" ∧ (parseMethodDescriptor y.desc).map (fun d => d.parameters.length) = some As.length) (hst : st0 = As.reverse ++ .ref (adr X k) :: st) (hrm : (st.map fun v => v.category).sum ≤ 8) (hd : decode cc pc = .ok (.invokevirtual i, 3)) (k1 : V p l e d s m args below meth c X nL ρ S1 (pc + 3) lv (st) K) : V p l e d s m args below meth c X nL ρ S pc lv st0 K := v_callV G hC hdd hnl hc hs w1 w2 w3 w4 w5 hy hst hrm hd k1
theorem v_callSv (G : vG p s m args meth c X sh0 own cc nL ret) {y : MethodName} {cc' : ByteArray} {n' : Nat} {ret' : Option FieldType} {d' i : Nat} {As st0 : List Value} {S1 : St} (hC : Con l X y cc' n' ret' d' As S (none, S1)) (hdd : d' + 1 ≤ d) (hnl : n' ≤ 17) (w1 : Cond.methodLink own i y ∈ tw) (w2 : Cond.static y ∈ tw) (w4 : Cond.initialized y.cls ∈ tw) (w5 : Cond.code y cc' n' ret' ∈ tw)
    (hy : y.cls ≠ "java/lang/invoke/MethodHandle" ∧ y.cls ≠ "java/lang/invoke/VarHandle" ∧ (parseMethodDescriptor y.desc).map (fun d => d.parameters.length) = some As.length) (hst : st0 = As.reverse ++ st) (hrm : (st.map fun v => v.category).sum ≤ 8) (hd : decode cc pc = .ok (.invokestatic i, 3)) (k1 : V p l e d s m args below meth c X nL ρ S1 (pc + 3) lv (st) K) : V p l e d s m args below meth c X nL ρ S pc lv st0 K := v_callS G hC hdd hnl w1 w2 w4 w5 hy hst hrm hd k1
theorem v_callVr (G : vG p s m args meth c X sh0 own cc nL ret) {y : MethodName} {cc' : ByteArray} {n' : Nat} {ret' : Option FieldType} {d' i k ci : Nat} {T : u_T} {N : Nat} {fl : List sh_F} {As st0 : List Value} {r : Nat} {S1 : St} (hC : Con l X y cc' n' ret' d' (.ref (adr X k) :: As) S (some (.ref r), S1)) (hdd : d' + 1 ≤ d) (hnl : n' ≤ 17) (hc : cls[ci]? = some (y.cls, T, N)) (hs : sh0[k]? = some (.inr (ci, fl))) (w1 : Cond.methodLink own i y ∈ tw) (w2 : Cond.instanceMethod y ∈ tw) (w3 : Cond.selects y.cls y y ∈ tw) (w4 : Cond.initialized y.cls ∈ tw) (w5 : Cond.code y cc' n' ret' ∈ tw)
    (hy : y.cls ≠ "java/lang/invoke/MethodHandle" ∧ y.cls ≠ "java/lang/invoke/VarHandle" ∧ (parseMethodDescriptor y.desc).map (fun d => d.parameters.length) = some As.length) (hst : st0 = As.reverse ++ .ref (adr X k) :: st) (hrm : (st.map fun v => v.category).sum ≤ 8) (hd : decode cc pc = .ok (.invokevirtual i, 3)) (k1 : V p l e d s m args below meth c X nL ρ S1 (pc + 3) lv (.ref r :: st) K) : V p l e d s m args below meth c X nL ρ S pc lv st0 K := v_callV G hC hdd hnl hc hs w1 w2 w3 w4 w5 hy hst hrm hd k1
theorem v_callSr (G : vG p s m args meth c X sh0 own cc nL ret) {y : MethodName} {cc' : ByteArray} {n' : Nat} {ret' : Option FieldType} {d' i : Nat} {As st0 : List Value} {r : Nat} {S1 : St} (hC : Con l X y cc' n' ret' d' As S (some (.ref r), S1)) (hdd : d' + 1 ≤ d) (hnl : n' ≤ 17) (w1 : Cond.methodLink own i y ∈ tw) (w2 : Cond.static y ∈ tw) (w4 : Cond.initialized y.cls ∈ tw) (w5 : Cond.code y cc' n' ret' ∈ tw)
    (hy : y.cls ≠ "java/lang/invoke/MethodHandle" ∧ y.cls ≠ "java/lang/invoke/VarHandle" ∧ (parseMethodDescriptor y.desc).map (fun d => d.parameters.length) = some As.length) (hst : st0 = As.reverse ++ st) (hrm : (st.map fun v => v.category).sum ≤ 8) (hd : decode cc pc = .ok (.invokestatic i, 3)) (k1 : V p l e d s m args below meth c X nL ρ S1 (pc + 3) lv (.ref r :: st) K) : V p l e d s m args below meth c X nL ρ S pc lv st0 K := v_callS G hC hdd hnl w1 w2 w4 w5 hy hst hrm hd k1
theorem v_callVl (G : vG p s m args meth c X sh0 own cc nL ret) {y : MethodName} {cc' : ByteArray} {n' : Nat} {ret' : Option FieldType} {d' i k ci : Nat} {T : u_T} {N : Nat} {fl : List sh_F} {As st0 : List Value} {r : Int64} {S1 : St} (hC : Con l X y cc' n' ret' d' (.ref (adr X k) :: As) S (some (.long r), S1)) (hdd : d' + 1 ≤ d) (hnl : n' ≤ 17) (hc : cls[ci]? = some (y.cls, T, N)) (hs : sh0[k]? = some (.inr (ci, fl))) (w1 : Cond.methodLink own i y ∈ tw) (w2 : Cond.instanceMethod y ∈ tw) (w3 : Cond.selects y.cls y y ∈ tw) (w4 : Cond.initialized y.cls ∈ tw) (w5 : Cond.code y cc' n' ret' ∈ tw)
    (hy : y.cls ≠ "java/lang/invoke/MethodHandle" ∧ y.cls ≠ "java/lang/invoke/VarHandle" ∧ (parseMethodDescriptor y.desc).map (fun d => d.parameters.length) = some As.length) (hst : st0 = As.reverse ++ .ref (adr X k) :: st) (hrm : (st.map fun v => v.category).sum ≤ 8) (hd : decode cc pc = .ok (.invokevirtual i, 3)) (k1 : V p l e d s m args below meth c X nL ρ S1 (pc + 3) lv (.long r :: st) K) : V p l e d s m args below meth c X nL ρ S pc lv st0 K := v_callV G hC hdd hnl hc hs w1 w2 w3 w4 w5 hy hst hrm hd k1
theorem v_callSl (G : vG p s m args meth c X sh0 own cc nL ret) {y : MethodName} {cc' : ByteArray} {n' : Nat} {ret' : Option FieldType} {d' i : Nat} {As st0 : List Value} {r : Int64} {S1 : St} (hC : Con l X y cc' n' ret' d' As S (some (.long r), S1)) (hdd : d' + 1 ≤ d) (hnl : n' ≤ 17) (w1 : Cond.methodLink own i y ∈ tw) (w2 : Cond.static y ∈ tw) (w4 : Cond.initialized y.cls ∈ tw) (w5 : Cond.code y cc' n' ret' ∈ tw)
    (hy : y.cls ≠ "java/lang/invoke/MethodHandle" ∧ y.cls ≠ "java/lang/invoke/VarHandle" ∧ (parseMethodDescriptor y.desc).map (fun d => d.parameters.length) = some As.length) (hst : st0 = As.reverse ++ st) (hrm : (st.map fun v => v.category).sum ≤ 8) (hd : decode cc pc = .ok (.invokestatic i, 3)) (k1 : V p l e d s m args below meth c X nL ρ S1 (pc + 3) lv (.long r :: st) K) : V p l e d s m args below meth c X nL ρ S pc lv st0 K := v_callS G hC hdd hnl w1 w2 w4 w5 hy hst hrm hd k1
theorem v_sub {lv' : List (Nat × Value)} (ks : List Nat) (hl : lv_pick lv ks = lv') (k : V p l e d s m args below meth c X nL ρ S pc lv' st K) : V p l e d s m args below meth c X nL ρ S pc lv st K := fun H locs ls hP hS hl' => k H locs ls hP hS (lv_sub hl' ks hl)
end ROWS
theorem vi_mask {x y : Int32} {n : Nat} (k : Nat) (hm : y.toBitVec.toNat = 2 ^ k - 1) (hk : k ≤ 30) (hn : 2 ^ k ≤ n) : vp_in (x &&& y) n := by
  have h := pk_andIn x k hm hk
  exact fun q => h (q.elim Or.inl (fun z => Or.inr (Nat.le_trans hn z)))
theorem vi_tgt {x : Int32} (h0 : 0 < x) (h : x < 32) : vp_in x 36 := by
  refine vp_in_iff.mpr ⟨?_, ?_⟩
  · rw [Int32.lt_iff_toInt_lt, Int32.toInt_zero] at h0; omega
  · rw [Int32.lt_iff_toInt_lt] at h
    have : (32 : Int32).toInt = 32 := by decide
    omega
theorem lp_toInt {i b : Int32} (h : i < b) : (i + 1).toInt = i.toInt + 1 := by
  have h1 := Int32.toInt_lt b
  have h2 := Int32.le_toInt i
  rw [Int32.lt_iff_toInt_lt] at h
  rw [Int32.toInt_add, show (1 : Int32).toInt = 1 from by decide]
  rw [Int.bmod_eq_of_le] <;> omega
theorem lp_m {i b : Int32} {n : Nat} (h : i < b) (hm : (b.toInt - i.toInt).toNat < n + 1) : (b.toInt - (i + 1).toInt).toNat < n := by
  rw [lp_toInt h]
  rw [Int32.lt_iff_toInt_lt] at h
  omega
theorem lp_m31 {i b : Int32} {n : Nat} (h : i < b) (hm : (2147483648 - i.toInt).toNat < n + 1) : (2147483648 - (i + 1).toInt).toNat < n := by
  rw [lp_toInt h]
  have h1 := Int32.toInt_lt b
  rw [Int32.lt_iff_toInt_lt] at h
  omega
theorem lp_nn {i b : Int32} (h : i < b) (h0 : ¬ i < 0) : ¬ i + 1 < 0 := by
  rw [Int32.lt_iff_toInt_lt, Int32.toInt_zero] at h0 ⊢
  rw [lp_toInt h]
  omega
def fu31 : Nat := 2147483649
theorem lp_31 : (2147483648 - (0 : Int32).toInt).toNat < fu31 := by decide
theorem sr_nn {x : Int32} (h : ¬ x < 0) : ¬ x >>> ((2 : Int32) &&& 31) < 0 := by
  obtain ⟨j, hj, rfl⟩ := nI_of h
  rw [pk_shrN hj _ 2 (by decide)]
  exact nI_pos (by omega)
theorem vi_lit {i : Nat} {n : Nat} (h : i < n) (hn : n < 2 ^ 31) : vp_in (nI i) n := vp_in_nI h hn
theorem vi_br {x : Int32} {n : Nat} (h0 : ¬ x < 0) (h : x < nI n) (hn : n < 2 ^ 31) : vp_in x n := by
  refine vp_in_iff.mpr ⟨?_, ?_⟩
  · have := Int32.not_lt.mp h0
    rwa [Int32.le_iff_toInt_le, Int32.toInt_zero] at this
  · rwa [Int32.lt_iff_toInt_lt, nI_toInt hn] at h
end
section
/-! the class: its cells -/
def shX : sh_T := [.inr (7, [some (1, false), some (4, false), some (7, false), some (20, false)]),
  .inr (6, [some (2, false), none, none]),
  .inr (0, [some (3, false)]),
  .inl (0, 2050),
  .inr (4, [some (5, false), some (6, false), none, none, none, none, none, none, none]),
  .inl (0, 2048),
  .inl (0, 1000),
  .inr (2, [some (4, false), some (8, false), some (9, false), some (10, false), some (11, false), some (17, false), none, none, none, none, none, none, none, none, none]),
  .inl (0, 6219),
  .inl (0, 2048),
  .inl (0, 7),
  .inr (5, [some (12, false), some (13, false), some (14, false), some (15, false), none, none]),
  .inl (0, 400),
  .inl (0, 400),
  .inl (0, 400),
  .inr (0, [some (16, false)]),
  .inl (0, 6400),
  .inr (1, [some (4, false), some (18, false), some (19, false), some (8, false), none, none, none, none, none, none]),
  .inl (0, 36),
  .inl (0, 1024),
  .inr (3, [some (4, false), some (21, false), some (28, false), some (22, false), none, none]),
  .inl (0, 2048),
  .inr (5, [some (23, false), some (24, false), some (25, false), some (26, false), none, none]),
  .inl (0, 400),
  .inl (0, 400),
  .inl (0, 400),
  .inr (0, [some (27, false)]),
  .inl (0, 6400),
  .inr (1, [some (4, false), some (29, false), some (30, false), some (21, false), none, none, none, none, none, none]),
  .inl (0, 36),
  .inl (0, 1024)]
theorem shX_len : shX.length = 31 := rfl
def isB (kb kp n : Nat) : Prop := shX[kb]? = some (.inr (0, [some (kp, false)])) ∧ shX[kp]? = some (.inl (0, n)) ∧ n < 2 ^ 31
def isG (kg ko km ks n : Nat) : Prop := shX[kg]? = some (.inr (1, [some (4, false), some (ko, false), some (km, false), some (ks, false), none, none, none, none, none, none])) ∧ shX[ko]? = some (.inl (0, 36)) ∧ shX[km]? = some (.inl (0, 1024)) ∧ shX[ks]? = some (.inl (0, n)) ∧ n < 2 ^ 31
def isR (kr kn kl kc kb kp : Nat) : Prop := shX[kr]? = some (.inr (5, [some (kn, false), some (kl, false), some (kc, false), some (kb, false), none, none])) ∧ shX[kn]? = some (.inl (0, 400)) ∧ shX[kl]? = some (.inl (0, 400)) ∧ shX[kc]? = some (.inl (0, 400)) ∧ isB kb kp 6400
end
section
/-! SensorNode$Bytes.get -/
theorem qyX0_get : yX0_get.cls ≠ "java/lang/invoke/MethodHandle" ∧ yX0_get.cls ≠ "java/lang/invoke/VarHandle" ∧ (parseMethodDescriptor yX0_get.desc).map (fun d => d.parameters.length) = some 1 := by decide +kernel
def f_B_get (S : St) (kb kp n : Nat) (a1 : Int32) : Int32 := bnx (a1 >>> ((2 : Int32) &&& 31)) (fun x_1 => (if x_1 < 0 then (0 : Int32) else (if x_1 < (nI n) then (ush (S kp x_1.toNatClampNeg) ((8 : Int32) * (a1 &&& (3 : Int32)))) &&& (255 : Int32) else (0 : Int32))))
set_option maxHeartbeats 4000000 in
set_option maxRecDepth 100000 in
theorem c_B_get (l : Launch) {X : vD} (hJ : sh_J X) (hX : shp X = shX) (kb kp n : Nat) (hB : isB kb kp n) (S : St) (a1 : Int32)  : Con l X yX0_get cX0_get 3 (some .int) 0 [.ref (adr X kb), .int a1] S (some (.int (f_B_get S kb kp n a1)), S) := by
  refine con_of (ρ := (fun r : Int32 => ((some (.int r), S) : Option Value × St))) (K := f_B_get S kb kp n a1) hJ hX (by decide) (Nat.le_of_ble_eq_true rfl) (lv := [(0, .ref (adr X kb)), (1, .int a1)]) rfl ?_
  intro p e s m below meth c G
  have G : vG p s m _ meth c X shX "SensorNode$Bytes" cX0_get 3 (some .int) := G
  unfold f_B_get
  refine v_iload_n G 1 dX0_get_0 rfl ?_
  refine v_iconst G (v := (2 : Int32)) dX0_get_1 (by decide) ?_
  refine v_ishr G dX0_get_2 ?_
  refine v_namei (fun x_1 ex_1 => ?_)
  refine v_istore_n G [(2, .int x_1), (0, .ref (adr X kb)), (1, .int a1)] dX0_get_3 (by decide) rfl ?_
  refine v_iload_n G 0 dX0_get_4 rfl ?_
  refine v_if_lt G (tgt := 17) dX0_get_5 (by decide) (fun c_2 => ?_) (fun c_2 => ?_)
  · refine v_iconst G (v := (0 : Int32)) dX0_get_17 (by decide) ?_
    refine v_goto G (tgt := 38) dX0_get_18 (by decide) ?_
    exact v_iret G rfl rfl dX0_get_38
  · refine v_iload_n G 0 dX0_get_8 rfl ?_
    refine v_aload_n G 1 dX0_get_9 rfl ?_
    refine v_getr G (ci := 0) (T := TX0) (j := 0) inX0 rfl hB.1 rfl (by decide) w1_32 dX0_get_10 ?_
    refine v_alen G (ty := .int) hB.2.1 rfl dX0_get_13 ?_
    refine v_icmp_lt G (tgt := 21) dX0_get_14 (by decide) (fun c_3 => ?_) (fun c_3 => ?_)
    · refine v_aload_n G 1 dX0_get_21 rfl ?_
      refine v_getr G (ci := 0) (T := TX0) (j := 0) inX0 rfl hB.1 rfl (by decide) w1_32 dX0_get_22 ?_
      refine v_iload_n G 0 dX0_get_25 rfl ?_
      refine v_iald G hB.2.1 (vi_br (by assumption) (by assumption) hB.2.2) dX0_get_26 ?_
      refine v_bipush G (v := (8 : Int32)) dX0_get_27 (by decide) ?_
      refine v_iload_n G 2 dX0_get_29 rfl ?_
      refine v_iconst G (v := (3 : Int32)) dX0_get_30 (by decide) ?_
      refine v_iand G dX0_get_31 ?_
      refine v_imul G dX0_get_32 ?_
      refine v_iushr G dX0_get_33 ?_
      refine v_sipush G (v := (255 : Int32)) dX0_get_34 (by decide) ?_
      refine v_iand G dX0_get_37 ?_
      exact v_iret G rfl rfl dX0_get_38
    · refine v_iconst G (v := (0 : Int32)) dX0_get_17 (by decide) ?_
      refine v_goto G (tgt := 38) dX0_get_18 (by decide) ?_
      exact v_iret G rfl rfl dX0_get_38
/-! SensorNode$Bytes.put -/
theorem qyX0_put : yX0_put.cls ≠ "java/lang/invoke/MethodHandle" ∧ yX0_put.cls ≠ "java/lang/invoke/VarHandle" ∧ (parseMethodDescriptor yX0_put.desc).map (fun d => d.parameters.length) = some 2 := by decide +kernel
def f_B_put (S : St) (kb kp n : Nat) (a1 : Int32) (a2 : Int32) : St := bnx (a1 >>> ((2 : Int32) &&& 31)) (fun x_1 => (if x_1 < 0 then S else (if x_1 < (nI n) then bnx ((8 : Int32) * (a1 &&& (3 : Int32))) (fun x_4 => bnv (st_up S kp x_1.toNatClampNeg (((S kp x_1.toNatClampNeg) &&& (((255 : Int32) <<< (x_4 &&& 31)) ^^^ (-1 : Int32))) ||| ((a2 &&& (255 : Int32)) <<< (x_4 &&& 31)))) (fun S_5 => S_5)) else S)))
set_option maxHeartbeats 4000000 in
set_option maxRecDepth 100000 in
theorem c_B_put (l : Launch) {X : vD} (hJ : sh_J X) (hX : shp X = shX) (kb kp n : Nat) (hB : isB kb kp n) (S : St) (a1 : Int32) (a2 : Int32)  : Con l X yX0_put cX0_put 5 none 0 [.ref (adr X kb), .int a1, .int a2] S (none, f_B_put S kb kp n a1 a2) := by
  refine con_of (ρ := (fun S : St => ((none, S) : Option Value × St))) (K := f_B_put S kb kp n a1 a2) hJ hX (by decide) (Nat.le_of_ble_eq_true rfl) (lv := [(0, .ref (adr X kb)), (1, .int a1), (2, .int a2)]) rfl ?_
  intro p e s m below meth c G
  have G : vG p s m _ meth c X shX "SensorNode$Bytes" cX0_put 5 none := G
  unfold f_B_put
  refine v_iload_n G 1 dX0_put_0 rfl ?_
  refine v_iconst G (v := (2 : Int32)) dX0_put_1 (by decide) ?_
  refine v_ishr G dX0_put_2 ?_
  refine v_namei (fun x_1 ex_1 => ?_)
  refine v_istore_n G [(3, .int x_1), (0, .ref (adr X kb)), (1, .int a1), (2, .int a2)] dX0_put_3 (by decide) rfl ?_
  refine v_iload_n G 0 dX0_put_4 rfl ?_
  refine v_if_lt G (tgt := 55) dX0_put_5 (by decide) (fun c_2 => ?_) (fun c_2 => ?_)
  · exact v_vret G rfl rfl dX0_put_55
  · refine v_iload_n G 0 dX0_put_8 rfl ?_
    refine v_aload_n G 1 dX0_put_9 rfl ?_
    refine v_getr G (ci := 0) (T := TX0) (j := 0) inX0 rfl hB.1 rfl (by decide) w1_32 dX0_put_10 ?_
    refine v_alen G (ty := .int) hB.2.1 rfl dX0_put_13 ?_
    refine v_icmp_ge G (tgt := 55) dX0_put_14 (by decide) (fun c_3 => ?_) (fun c_3 => ?_)
    · exact v_vret G rfl rfl dX0_put_55
    · refine v_bipush G (v := (8 : Int32)) dX0_put_17 (by decide) ?_
      refine v_iload_n G 2 dX0_put_19 rfl ?_
      refine v_iconst G (v := (3 : Int32)) dX0_put_20 (by decide) ?_
      refine v_iand G dX0_put_21 ?_
      refine v_imul G dX0_put_22 ?_
      refine v_namei (fun x_4 ex_4 => ?_)
      refine v_istore G [(4, .int x_4), (3, .int x_1), (0, .ref (adr X kb)), (1, .int a1), (2, .int a2)] dX0_put_23 (by decide) rfl ?_
      refine v_aload_n G 2 dX0_put_25 rfl ?_
      refine v_getr G (ci := 0) (T := TX0) (j := 0) inX0 rfl hB.1 rfl (by decide) w1_32 dX0_put_26 ?_
      refine v_iload_n G 1 dX0_put_29 rfl ?_
      refine v_aload_n G 2 dX0_put_30 rfl ?_
      refine v_getr G (ci := 0) (T := TX0) (j := 0) inX0 rfl hB.1 rfl (by decide) w1_32 dX0_put_31 ?_
      refine v_iload_n G 1 dX0_put_34 rfl ?_
      refine v_iald G hB.2.1 (vi_br (by assumption) (by assumption) hB.2.2) dX0_put_35 ?_
      refine v_sipush G (v := (255 : Int32)) dX0_put_36 (by decide) ?_
      refine v_iload G 0 dX0_put_39 rfl ?_
      refine v_ishl G dX0_put_41 ?_
      refine v_iconst G (v := (-1 : Int32)) dX0_put_42 (by decide) ?_
      refine v_ixor G dX0_put_43 ?_
      refine v_iand G dX0_put_44 ?_
      refine v_iload_n G 4 dX0_put_45 rfl ?_
      refine v_sipush G (v := (255 : Int32)) dX0_put_46 (by decide) ?_
      refine v_iand G dX0_put_49 ?_
      refine v_iload G 0 dX0_put_50 rfl ?_
      refine v_ishl G dX0_put_52 ?_
      refine v_ior G dX0_put_53 ?_
      refine v_iast G hB.2.1 (vi_br (by assumption) (by assumption) hB.2.2) dX0_put_54 (fun S_5 eS_5 => ?_)
      exact v_vret G rfl rfl dX0_put_55
/-! SensorNode$Tray.hasRoom -/
theorem qyX6_hasRoom : yX6_hasRoom.cls ≠ "java/lang/invoke/MethodHandle" ∧ yX6_hasRoom.cls ≠ "java/lang/invoke/VarHandle" ∧ (parseMethodDescriptor yX6_hasRoom.desc).map (fun d => d.parameters.length) = some 0 := by decide +kernel
def f_T_hasRoom (S : St) : Int32 := (if (8200 : Int32) < ((S 1 1) + (20 : Int32)) then (0 : Int32) else (if (65536 : Int32) < ((S 1 2) + (20 : Int32)) then (0 : Int32) else (1 : Int32)))
set_option maxHeartbeats 4000000 in
set_option maxRecDepth 100000 in
theorem c_T_hasRoom (l : Launch) {X : vD} (hJ : sh_J X) (hX : shp X = shX)  (S : St)  : Con l X yX6_hasRoom cX6_hasRoom 1 (some .boolean) 0 [.ref (adr X 1)] S (some (.int (f_T_hasRoom S)), S) := by
  refine con_of (ρ := (fun r : Int32 => ((some (.int r), S) : Option Value × St))) (K := f_T_hasRoom S) hJ hX (by decide) (Nat.le_of_ble_eq_true rfl) (lv := [(0, .ref (adr X 1))]) rfl ?_
  intro p e s m below meth c G
  have G : vG p s m _ meth c X shX "SensorNode$Tray" cX6_hasRoom 1 (some .boolean) := G
  unfold f_T_hasRoom
  refine v_aload_n G 0 dX6_hasRoom_0 rfl ?_
  refine v_geti G (ci := 6) (T := TX6) (j := 1) inX6 rfl rfl rfl (by decide) w1_38 dX6_hasRoom_1 ?_
  refine v_bipush G (v := (20 : Int32)) dX6_hasRoom_4 (by decide) ?_
  refine v_iadd G dX6_hasRoom_6 ?_
  refine v_sipush G (v := (8200 : Int32)) dX6_hasRoom_7 (by decide) ?_
  refine v_icmp_gt G (tgt := 29) dX6_hasRoom_10 (by decide) (fun c_1 => ?_) (fun c_1 => ?_)
  · refine v_iconst G (v := (0 : Int32)) dX6_hasRoom_29 (by decide) ?_
    exact v_zret G rfl rfl rfl dX6_hasRoom_30
  · refine v_aload_n G 0 dX6_hasRoom_13 rfl ?_
    refine v_geti G (ci := 6) (T := TX6) (j := 2) inX6 rfl rfl rfl (by decide) w1_39 dX6_hasRoom_14 ?_
    refine v_bipush G (v := (20 : Int32)) dX6_hasRoom_17 (by decide) ?_
    refine v_iadd G dX6_hasRoom_19 ?_
    refine v_ldc G (v := (65536 : Int32)) dX6_hasRoom_20 w2_15 ?_
    refine v_icmp_gt G (tgt := 29) dX6_hasRoom_22 (by decide) (fun c_2 => ?_) (fun c_2 => ?_)
    · refine v_iconst G (v := (0 : Int32)) dX6_hasRoom_29 (by decide) ?_
      exact v_zret G rfl rfl rfl dX6_hasRoom_30
    · refine v_iconst G (v := (1 : Int32)) dX6_hasRoom_25 (by decide) ?_
      refine v_goto G (tgt := 30) dX6_hasRoom_26 (by decide) ?_
      exact v_zret G rfl rfl rfl dX6_hasRoom_30
/-! SensorNode$Tray.size -/
theorem qyX6_size : yX6_size.cls ≠ "java/lang/invoke/MethodHandle" ∧ yX6_size.cls ≠ "java/lang/invoke/VarHandle" ∧ (parseMethodDescriptor yX6_size.desc).map (fun d => d.parameters.length) = some 0 := by decide +kernel
def f_T_size (S : St) : Int32 := S 1 1
set_option maxHeartbeats 4000000 in
set_option maxRecDepth 100000 in
theorem c_T_size (l : Launch) {X : vD} (hJ : sh_J X) (hX : shp X = shX)  (S : St)  : Con l X yX6_size cX6_size 1 (some .int) 0 [.ref (adr X 1)] S (some (.int (f_T_size S)), S) := by
  refine con_of (ρ := (fun r : Int32 => ((some (.int r), S) : Option Value × St))) (K := f_T_size S) hJ hX (by decide) (Nat.le_of_ble_eq_true rfl) (lv := [(0, .ref (adr X 1))]) rfl ?_
  intro p e s m below meth c G
  have G : vG p s m _ meth c X shX "SensorNode$Tray" cX6_size 1 (some .int) := G
  unfold f_T_size
  refine v_aload_n G 0 dX6_size_0 rfl ?_
  refine v_geti G (ci := 6) (T := TX6) (j := 1) inX6 rfl rfl rfl (by decide) w1_38 dX6_size_1 ?_
  exact v_iret G rfl rfl dX6_size_4
/-! SensorNode$Tray.add -/
theorem qyX6_add : yX6_add.cls ≠ "java/lang/invoke/MethodHandle" ∧ yX6_add.cls ≠ "java/lang/invoke/VarHandle" ∧ (parseMethodDescriptor yX6_add.desc).map (fun d => d.parameters.length) = some 1 := by decide +kernel
def f_T_add (S : St) (a1 : Int32) : St := (if (24 : Int32) < 0 then S else bnv (f_B_put S 2 3 2050 (S 1 1) (ush a1 (24 : Int32))) (fun S_2 => bnv (st_up S_2 1 1 ((S_2 1 1) + (1 : Int32))) (fun S_3 => (if (16 : Int32) < 0 then S_3 else bnv (f_B_put S_3 2 3 2050 (S_3 1 1) (ush a1 (16 : Int32))) (fun S_5 => bnv (st_up S_5 1 1 ((S_5 1 1) + (1 : Int32))) (fun S_6 => (if (8 : Int32) < 0 then S_6 else bnv (f_B_put S_6 2 3 2050 (S_6 1 1) (ush a1 (8 : Int32))) (fun S_8 => bnv (st_up S_8 1 1 ((S_8 1 1) + (1 : Int32))) (fun S_9 => (if (0 : Int32) < 0 then S_9 else bnv (f_B_put S_9 2 3 2050 (S_9 1 1) (ush a1 (0 : Int32))) (fun S_11 => bnv (st_up S_11 1 1 ((S_11 1 1) + (1 : Int32))) (fun S_12 => (if (-8 : Int32) < 0 then bnv (st_up S_12 1 2 ((S_12 1 2) + (4 : Int32))) (fun S_14 => S_14) else S_12)))))))))))))
set_option maxHeartbeats 4000000 in
set_option maxRecDepth 100000 in
theorem c_T_add (l : Launch) {X : vD} (hJ : sh_J X) (hX : shp X = shX)  (S : St) (a1 : Int32)  : Con l X yX6_add cX6_add 3 none 1 [.ref (adr X 1), .int a1] S (none, f_T_add S a1) := by
  refine con_of (ρ := (fun S : St => ((none, S) : Option Value × St))) (K := f_T_add S a1) hJ hX (by decide) (Nat.le_of_ble_eq_true rfl) (lv := [(0, .ref (adr X 1)), (1, .int a1)]) rfl ?_
  intro p e s m below meth c G
  have G : vG p s m _ meth c X shX "SensorNode$Tray" cX6_add 3 none := G
  unfold f_T_add
  refine v_bipush G (v := (24 : Int32)) dX6_add_0 (by decide) ?_
  refine v_istore_n G [(2, .int (24 : Int32)), (0, .ref (adr X 1)), (1, .int a1)] dX6_add_2 (by decide) rfl ?_
  refine v_iload_n G 0 dX6_add_3 rfl ?_
  refine v_if_lt G (tgt := 37) dX6_add_4 (by decide) (fun h => absurd h (by decide)) (fun c_1 => ?_)
  refine v_aload_n G 1 dX6_add_7 rfl ?_
  refine v_getr G (ci := 6) (T := TX6) (j := 0) inX6 rfl rfl rfl (by decide) w1_37 dX6_add_8 ?_
  refine v_aload_n G 1 dX6_add_11 rfl ?_
  refine v_geti G (ci := 6) (T := TX6) (j := 1) inX6 rfl rfl rfl (by decide) w1_38 dX6_add_12 ?_
  refine v_iload_n G 2 dX6_add_15 rfl ?_
  refine v_iload_n G 0 dX6_add_16 rfl ?_
  refine v_iushr G dX6_add_17 ?_
  refine v_callVv G (As := [.int (S 1 1), .int (ush a1 (24 : Int32))]) (st := []) (c_B_put l hJ hX 2 3 2050 ⟨rfl, rfl, by decide⟩ S (S 1 1) (ush a1 (24 : Int32))) (by decide) (by decide) (ci := 0) rfl rfl w2_20 w2_21 w2_22 w1_3 w2_23 qyX0_put rfl (by decide) dX6_add_18 ?_
  refine v_bnv (fun S_2 eS_2 => ?_)
  refine v_aload_n G 1 dX6_add_21 rfl ?_
  refine v_dup G dX6_add_22 rfl ?_
  refine v_geti G (ci := 6) (T := TX6) (j := 1) inX6 rfl rfl rfl (by decide) w1_38 dX6_add_23 ?_
  refine v_iconst G (v := (1 : Int32)) dX6_add_26 (by decide) ?_
  refine v_iadd G dX6_add_27 ?_
  refine v_puti G (ci := 6) (T := TX6) (j := 1) inX6 rfl rfl tyX6_ok nmX6 rfl (by decide) rfl rfl rfl w1_38 dX6_add_28 (fun S_3 eS_3 => ?_)
  refine v_iinc G (v := (16 : Int32)) 0 [(2, .int (16 : Int32)), (0, .ref (adr X 1)), (1, .int a1)] dX6_add_31 rfl (by decide) (by decide) rfl ?_
  refine v_goto G (tgt := 3) dX6_add_34 (by decide) ?_
  refine v_iload_n G 0 dX6_add_3 rfl ?_
  refine v_if_lt G (tgt := 37) dX6_add_4 (by decide) (fun h => absurd h (by decide)) (fun c_4 => ?_)
  refine v_aload_n G 1 dX6_add_7 rfl ?_
  refine v_getr G (ci := 6) (T := TX6) (j := 0) inX6 rfl rfl rfl (by decide) w1_37 dX6_add_8 ?_
  refine v_aload_n G 1 dX6_add_11 rfl ?_
  refine v_geti G (ci := 6) (T := TX6) (j := 1) inX6 rfl rfl rfl (by decide) w1_38 dX6_add_12 ?_
  refine v_iload_n G 2 dX6_add_15 rfl ?_
  refine v_iload_n G 0 dX6_add_16 rfl ?_
  refine v_iushr G dX6_add_17 ?_
  refine v_callVv G (As := [.int (S_3 1 1), .int (ush a1 (16 : Int32))]) (st := []) (c_B_put l hJ hX 2 3 2050 ⟨rfl, rfl, by decide⟩ S_3 (S_3 1 1) (ush a1 (16 : Int32))) (by decide) (by decide) (ci := 0) rfl rfl w2_20 w2_21 w2_22 w1_3 w2_23 qyX0_put rfl (by decide) dX6_add_18 ?_
  refine v_bnv (fun S_5 eS_5 => ?_)
  refine v_aload_n G 1 dX6_add_21 rfl ?_
  refine v_dup G dX6_add_22 rfl ?_
  refine v_geti G (ci := 6) (T := TX6) (j := 1) inX6 rfl rfl rfl (by decide) w1_38 dX6_add_23 ?_
  refine v_iconst G (v := (1 : Int32)) dX6_add_26 (by decide) ?_
  refine v_iadd G dX6_add_27 ?_
  refine v_puti G (ci := 6) (T := TX6) (j := 1) inX6 rfl rfl tyX6_ok nmX6 rfl (by decide) rfl rfl rfl w1_38 dX6_add_28 (fun S_6 eS_6 => ?_)
  refine v_iinc G (v := (8 : Int32)) 0 [(2, .int (8 : Int32)), (0, .ref (adr X 1)), (1, .int a1)] dX6_add_31 rfl (by decide) (by decide) rfl ?_
  refine v_goto G (tgt := 3) dX6_add_34 (by decide) ?_
  refine v_iload_n G 0 dX6_add_3 rfl ?_
  refine v_if_lt G (tgt := 37) dX6_add_4 (by decide) (fun h => absurd h (by decide)) (fun c_7 => ?_)
  refine v_aload_n G 1 dX6_add_7 rfl ?_
  refine v_getr G (ci := 6) (T := TX6) (j := 0) inX6 rfl rfl rfl (by decide) w1_37 dX6_add_8 ?_
  refine v_aload_n G 1 dX6_add_11 rfl ?_
  refine v_geti G (ci := 6) (T := TX6) (j := 1) inX6 rfl rfl rfl (by decide) w1_38 dX6_add_12 ?_
  refine v_iload_n G 2 dX6_add_15 rfl ?_
  refine v_iload_n G 0 dX6_add_16 rfl ?_
  refine v_iushr G dX6_add_17 ?_
  refine v_callVv G (As := [.int (S_6 1 1), .int (ush a1 (8 : Int32))]) (st := []) (c_B_put l hJ hX 2 3 2050 ⟨rfl, rfl, by decide⟩ S_6 (S_6 1 1) (ush a1 (8 : Int32))) (by decide) (by decide) (ci := 0) rfl rfl w2_20 w2_21 w2_22 w1_3 w2_23 qyX0_put rfl (by decide) dX6_add_18 ?_
  refine v_bnv (fun S_8 eS_8 => ?_)
  refine v_aload_n G 1 dX6_add_21 rfl ?_
  refine v_dup G dX6_add_22 rfl ?_
  refine v_geti G (ci := 6) (T := TX6) (j := 1) inX6 rfl rfl rfl (by decide) w1_38 dX6_add_23 ?_
  refine v_iconst G (v := (1 : Int32)) dX6_add_26 (by decide) ?_
  refine v_iadd G dX6_add_27 ?_
  refine v_puti G (ci := 6) (T := TX6) (j := 1) inX6 rfl rfl tyX6_ok nmX6 rfl (by decide) rfl rfl rfl w1_38 dX6_add_28 (fun S_9 eS_9 => ?_)
  refine v_iinc G (v := (0 : Int32)) 0 [(2, .int (0 : Int32)), (0, .ref (adr X 1)), (1, .int a1)] dX6_add_31 rfl (by decide) (by decide) rfl ?_
  refine v_goto G (tgt := 3) dX6_add_34 (by decide) ?_
  refine v_iload_n G 0 dX6_add_3 rfl ?_
  refine v_if_lt G (tgt := 37) dX6_add_4 (by decide) (fun h => absurd h (by decide)) (fun c_10 => ?_)
  refine v_aload_n G 1 dX6_add_7 rfl ?_
  refine v_getr G (ci := 6) (T := TX6) (j := 0) inX6 rfl rfl rfl (by decide) w1_37 dX6_add_8 ?_
  refine v_aload_n G 1 dX6_add_11 rfl ?_
  refine v_geti G (ci := 6) (T := TX6) (j := 1) inX6 rfl rfl rfl (by decide) w1_38 dX6_add_12 ?_
  refine v_iload_n G 2 dX6_add_15 rfl ?_
  refine v_iload_n G 0 dX6_add_16 rfl ?_
  refine v_iushr G dX6_add_17 ?_
  refine v_callVv G (As := [.int (S_9 1 1), .int (ush a1 (0 : Int32))]) (st := []) (c_B_put l hJ hX 2 3 2050 ⟨rfl, rfl, by decide⟩ S_9 (S_9 1 1) (ush a1 (0 : Int32))) (by decide) (by decide) (ci := 0) rfl rfl w2_20 w2_21 w2_22 w1_3 w2_23 qyX0_put rfl (by decide) dX6_add_18 ?_
  refine v_bnv (fun S_11 eS_11 => ?_)
  refine v_aload_n G 1 dX6_add_21 rfl ?_
  refine v_dup G dX6_add_22 rfl ?_
  refine v_geti G (ci := 6) (T := TX6) (j := 1) inX6 rfl rfl rfl (by decide) w1_38 dX6_add_23 ?_
  refine v_iconst G (v := (1 : Int32)) dX6_add_26 (by decide) ?_
  refine v_iadd G dX6_add_27 ?_
  refine v_puti G (ci := 6) (T := TX6) (j := 1) inX6 rfl rfl tyX6_ok nmX6 rfl (by decide) rfl rfl rfl w1_38 dX6_add_28 (fun S_12 eS_12 => ?_)
  refine v_iinc G (v := (-8 : Int32)) 0 [(2, .int (-8 : Int32)), (0, .ref (adr X 1)), (1, .int a1)] dX6_add_31 rfl (by decide) (by decide) rfl ?_
  refine v_goto G (tgt := 3) dX6_add_34 (by decide) ?_
  refine v_iload_n G 0 dX6_add_3 rfl ?_
  refine v_if_lt G (tgt := 37) dX6_add_4 (by decide) (fun c_13 => ?_) (fun h => absurd h (by decide))
  refine v_aload_n G 1 dX6_add_37 rfl ?_
  refine v_dup G dX6_add_38 rfl ?_
  refine v_geti G (ci := 6) (T := TX6) (j := 2) inX6 rfl rfl rfl (by decide) w1_39 dX6_add_39 ?_
  refine v_iconst G (v := (4 : Int32)) dX6_add_42 (by decide) ?_
  refine v_iadd G dX6_add_43 ?_
  refine v_puti G (ci := 6) (T := TX6) (j := 2) inX6 rfl rfl tyX6_ok nmX6 rfl (by decide) rfl rfl rfl w1_39 dX6_add_44 (fun S_14 eS_14 => ?_)
  exact v_vret G rfl rfl dX6_add_47
/-! SensorNode$Tray.shorten -/
theorem qyX6_shorten : yX6_shorten.cls ≠ "java/lang/invoke/MethodHandle" ∧ yX6_shorten.cls ≠ "java/lang/invoke/VarHandle" ∧ (parseMethodDescriptor yX6_shorten.desc).map (fun d => d.parameters.length) = some 1 := by decide +kernel
def f_T_shorten (S : St) (a1 : Int32) : Int32 × St := (if a1 < 0 then ((0 : Int32), S) else (if (S 1 1) < a1 then ((0 : Int32), S) else bnv (st_up S 1 1 a1) (fun S_3 => ((1 : Int32), S_3))))
set_option maxHeartbeats 4000000 in
set_option maxRecDepth 100000 in
theorem c_T_shorten (l : Launch) {X : vD} (hJ : sh_J X) (hX : shp X = shX)  (S : St) (a1 : Int32)  : Con l X yX6_shorten cX6_shorten 2 (some .boolean) 0 [.ref (adr X 1), .int a1] S (some (.int (f_T_shorten S a1).1), (f_T_shorten S a1).2) := by
  refine con_of (ρ := (fun q : Int32 × St => ((some (.int q.1), q.2) : Option Value × St))) (K := f_T_shorten S a1) hJ hX (by decide) (Nat.le_of_ble_eq_true rfl) (lv := [(0, .ref (adr X 1)), (1, .int a1)]) rfl ?_
  intro p e s m below meth c G
  have G : vG p s m _ meth c X shX "SensorNode$Tray" cX6_shorten 2 (some .boolean) := G
  unfold f_T_shorten
  refine v_iload_n G 1 dX6_shorten_0 rfl ?_
  refine v_if_lt G (tgt := 12) dX6_shorten_1 (by decide) (fun c_1 => ?_) (fun c_1 => ?_)
  · refine v_iconst G (v := (0 : Int32)) dX6_shorten_12 (by decide) ?_
    exact v_zret G rfl rfl rfl dX6_shorten_13
  · refine v_iload_n G 1 dX6_shorten_4 rfl ?_
    refine v_aload_n G 0 dX6_shorten_5 rfl ?_
    refine v_geti G (ci := 6) (T := TX6) (j := 1) inX6 rfl rfl rfl (by decide) w1_38 dX6_shorten_6 ?_
    refine v_icmp_le G (tgt := 14) dX6_shorten_9 (by decide) (fun c_2 => ?_) (fun c_2 => ?_)
    · refine v_aload_n G 0 dX6_shorten_14 rfl ?_
      refine v_iload_n G 1 dX6_shorten_15 rfl ?_
      refine v_puti G (ci := 6) (T := TX6) (j := 1) inX6 rfl rfl tyX6_ok nmX6 rfl (by decide) rfl rfl rfl w1_38 dX6_shorten_16 (fun S_3 eS_3 => ?_)
      refine v_iconst G (v := (1 : Int32)) dX6_shorten_19 (by decide) ?_
      exact v_zret G rfl rfl rfl dX6_shorten_20
    · refine v_iconst G (v := (0 : Int32)) dX6_shorten_12 (by decide) ?_
      exact v_zret G rfl rfl rfl dX6_shorten_13
/-! SensorNode$Tray.get -/
theorem qyX6_get : yX6_get.cls ≠ "java/lang/invoke/MethodHandle" ∧ yX6_get.cls ≠ "java/lang/invoke/VarHandle" ∧ (parseMethodDescriptor yX6_get.desc).map (fun d => d.parameters.length) = some 1 := by decide +kernel
def f_T_get (S : St) (a1 : Int32) : Int32 := f_B_get S 2 3 2050 a1
set_option maxHeartbeats 4000000 in
set_option maxRecDepth 100000 in
theorem c_T_get (l : Launch) {X : vD} (hJ : sh_J X) (hX : shp X = shX)  (S : St) (a1 : Int32)  : Con l X yX6_get cX6_get 2 (some .int) 1 [.ref (adr X 1), .int a1] S (some (.int (f_T_get S a1)), S) := by
  refine con_of (ρ := (fun r : Int32 => ((some (.int r), S) : Option Value × St))) (K := f_T_get S a1) hJ hX (by decide) (Nat.le_of_ble_eq_true rfl) (lv := [(0, .ref (adr X 1)), (1, .int a1)]) rfl ?_
  intro p e s m below meth c G
  have G : vG p s m _ meth c X shX "SensorNode$Tray" cX6_get 2 (some .int) := G
  unfold f_T_get
  refine v_aload_n G 0 dX6_get_0 rfl ?_
  refine v_getr G (ci := 6) (T := TX6) (j := 0) inX6 rfl rfl rfl (by decide) w1_37 dX6_get_1 ?_
  refine v_iload_n G 1 dX6_get_4 rfl ?_
  refine v_callVi G (As := [.int a1]) (st := []) (c_B_get l hJ hX 2 3 2050 ⟨rfl, rfl, by decide⟩ S a1) (by decide) (by decide) (ci := 0) rfl rfl w2_56 w2_57 w2_58 w1_3 w2_59 qyX0_get rfl (by decide) dX6_get_5 ?_
  exact v_iret G rfl rfl dX6_get_8
end

section
-- ===== PART A: goes FIRST, ahead of the names: the tables' words, and 'selects' of the private methods out of them =====
/-- a private method of a class that the tables say can be made, by its rows of tables_1 -/
def lw_okq (q : MethodName × Nat) : Prop := (q.1.cls ≠ "java/lang/invoke/MethodHandle" ∧ q.1.cls ≠ "java/lang/invoke/VarHandle") ∧ Cond.instantiable q.1.cls q.2 ∈ tables_1 ∧ Cond.privateMethod q.1 ∈ tables_1 ∧ Cond.instanceMethod q.1 ∈ tables_1
theorem lw_p0 : lw_okq (⟨"LoopDevice", "passTick", "(I)V"⟩, 11) := ⟨⟨by decide +kernel, by decide +kernel⟩, List.mem_of_getElem? (i := 9) (by decide +kernel), List.mem_of_getElem? (i := 195) (by decide +kernel), List.mem_of_getElem? (i := 196) (by decide +kernel)⟩
theorem lw_p1 : lw_okq (⟨"LoopDevice", "burstIsDue", "()Z"⟩, 11) := ⟨⟨by decide +kernel, by decide +kernel⟩, List.mem_of_getElem? (i := 9) (by decide +kernel), List.mem_of_getElem? (i := 199) (by decide +kernel), List.mem_of_getElem? (i := 200) (by decide +kernel)⟩
theorem lw_p2 : lw_okq (⟨"LoopDevice", "beginBurst", "()V"⟩, 11) := ⟨⟨by decide +kernel, by decide +kernel⟩, List.mem_of_getElem? (i := 9) (by decide +kernel), List.mem_of_getElem? (i := 207) (by decide +kernel), List.mem_of_getElem? (i := 208) (by decide +kernel)⟩
theorem lw_p3 : lw_okq (⟨"LoopDevice", "compose", "(IIII)V"⟩, 11) := ⟨⟨by decide +kernel, by decide +kernel⟩, List.mem_of_getElem? (i := 9) (by decide +kernel), List.mem_of_getElem? (i := 211) (by decide +kernel), List.mem_of_getElem? (i := 212) (by decide +kernel)⟩
theorem lw_p4 : lw_okq (⟨"LoopDevice", "addAddress", "(ZI)V"⟩, 11) := ⟨⟨by decide +kernel, by decide +kernel⟩, List.mem_of_getElem? (i := 9) (by decide +kernel), List.mem_of_getElem? (i := 223) (by decide +kernel), List.mem_of_getElem? (i := 224) (by decide +kernel)⟩
theorem lw_p5 : lw_okq (⟨"LoopDevice", "addNumber", "()V"⟩, 11) := ⟨⟨by decide +kernel, by decide +kernel⟩, List.mem_of_getElem? (i := 9) (by decide +kernel), List.mem_of_getElem? (i := 228) (by decide +kernel), List.mem_of_getElem? (i := 229) (by decide +kernel)⟩
theorem lw_p6 : lw_okq (⟨"LoopDevice", "addData", "(I)V"⟩, 11) := ⟨⟨by decide +kernel, by decide +kernel⟩, List.mem_of_getElem? (i := 9) (by decide +kernel), List.mem_of_getElem? (i := 244) (by decide +kernel), List.mem_of_getElem? (i := 245) (by decide +kernel)⟩
theorem lw_p7 : lw_okq (⟨"LoopDevice", "addIdentity", "()V"⟩, 11) := ⟨⟨by decide +kernel, by decide +kernel⟩, List.mem_of_getElem? (i := 9) (by decide +kernel), List.mem_of_getElem? (i := 248) (by decide +kernel), List.mem_of_getElem? (i := 249) (by decide +kernel)⟩
theorem lw_p8 : lw_okq (⟨"LoopDevice", "addEcho", "(I)V"⟩, 11) := ⟨⟨by decide +kernel, by decide +kernel⟩, List.mem_of_getElem? (i := 9) (by decide +kernel), List.mem_of_getElem? (i := 275) (by decide +kernel), List.mem_of_getElem? (i := 276) (by decide +kernel)⟩
theorem lw_p9 : lw_okq (⟨"LoopDevice$FrameReader", "takeAddress", "(I)V"⟩, 10) := ⟨⟨by decide +kernel, by decide +kernel⟩, List.mem_of_getElem? (i := 77) (by decide +kernel), List.mem_of_getElem? (i := 307) (by decide +kernel), List.mem_of_getElem? (i := 308) (by decide +kernel)⟩
theorem lw_p10 : lw_okq (⟨"LoopDevice$FrameReader", "takeCount", "(I)V"⟩, 10) := ⟨⟨by decide +kernel, by decide +kernel⟩, List.mem_of_getElem? (i := 77) (by decide +kernel), List.mem_of_getElem? (i := 311) (by decide +kernel), List.mem_of_getElem? (i := 312) (by decide +kernel)⟩
theorem lw_p11 : lw_okq (⟨"LoopDevice$FrameReader", "takeData", "(I)V"⟩, 10) := ⟨⟨by decide +kernel, by decide +kernel⟩, List.mem_of_getElem? (i := 77) (by decide +kernel), List.mem_of_getElem? (i := 315) (by decide +kernel), List.mem_of_getElem? (i := 316) (by decide +kernel)⟩
theorem lw_p12 : lw_okq (⟨"LoopDevice$FrameReader", "takePreamble", "(I)V"⟩, 10) := ⟨⟨by decide +kernel, by decide +kernel⟩, List.mem_of_getElem? (i := 77) (by decide +kernel), List.mem_of_getElem? (i := 319) (by decide +kernel), List.mem_of_getElem? (i := 320) (by decide +kernel)⟩
theorem lw_p13 : lw_okq (⟨"LoopDevice", "countFrame", "()Z"⟩, 11) := ⟨⟨by decide +kernel, by decide +kernel⟩, List.mem_of_getElem? (i := 9) (by decide +kernel), List.mem_of_getElem? (i := 326) (by decide +kernel), List.mem_of_getElem? (i := 327) (by decide +kernel)⟩
theorem lw_p14 : lw_okq (⟨"LoopDevice", "isForDevice", "()Z"⟩, 11) := ⟨⟨by decide +kernel, by decide +kernel⟩, List.mem_of_getElem? (i := 9) (by decide +kernel), List.mem_of_getElem? (i := 330) (by decide +kernel), List.mem_of_getElem? (i := 331) (by decide +kernel)⟩
theorem lw_p15 : lw_okq (⟨"LoopDevice$FrameReader", "addressAt", "(I)I"⟩, 10) := ⟨⟨by decide +kernel, by decide +kernel⟩, List.mem_of_getElem? (i := 77) (by decide +kernel), List.mem_of_getElem? (i := 338) (by decide +kernel), List.mem_of_getElem? (i := 339) (by decide +kernel)⟩
def lw_privs_1 : List (MethodName × Nat) := [(⟨"LoopDevice", "passTick", "(I)V"⟩, 11), (⟨"LoopDevice", "burstIsDue", "()Z"⟩, 11), (⟨"LoopDevice", "beginBurst", "()V"⟩, 11), (⟨"LoopDevice", "compose", "(IIII)V"⟩, 11), (⟨"LoopDevice", "addAddress", "(ZI)V"⟩, 11), (⟨"LoopDevice", "addNumber", "()V"⟩, 11), (⟨"LoopDevice", "addData", "(I)V"⟩, 11), (⟨"LoopDevice", "addIdentity", "()V"⟩, 11), (⟨"LoopDevice", "addEcho", "(I)V"⟩, 11), (⟨"LoopDevice$FrameReader", "takeAddress", "(I)V"⟩, 10), (⟨"LoopDevice$FrameReader", "takeCount", "(I)V"⟩, 10), (⟨"LoopDevice$FrameReader", "takeData", "(I)V"⟩, 10), (⟨"LoopDevice$FrameReader", "takePreamble", "(I)V"⟩, 10), (⟨"LoopDevice", "countFrame", "()Z"⟩, 11), (⟨"LoopDevice", "isForDevice", "()Z"⟩, 11), (⟨"LoopDevice$FrameReader", "addressAt", "(I)I"⟩, 10)]
theorem lw_r1 : ∀ q ∈ lw_privs_1, lw_okq q := List.forall_mem_cons.mpr ⟨lw_p0, List.forall_mem_cons.mpr ⟨lw_p1, List.forall_mem_cons.mpr ⟨lw_p2, List.forall_mem_cons.mpr ⟨lw_p3, List.forall_mem_cons.mpr ⟨lw_p4, List.forall_mem_cons.mpr ⟨lw_p5, List.forall_mem_cons.mpr ⟨lw_p6, List.forall_mem_cons.mpr ⟨lw_p7, List.forall_mem_cons.mpr ⟨lw_p8, List.forall_mem_cons.mpr ⟨lw_p9, List.forall_mem_cons.mpr ⟨lw_p10, List.forall_mem_cons.mpr ⟨lw_p11, List.forall_mem_cons.mpr ⟨lw_p12, List.forall_mem_cons.mpr ⟨lw_p13, List.forall_mem_cons.mpr ⟨lw_p14, List.forall_mem_cons.mpr ⟨lw_p15, fun _ h => absurd h List.not_mem_nil⟩⟩⟩⟩⟩⟩⟩⟩⟩⟩⟩⟩⟩⟩⟩⟩
theorem lw_p16 : lw_okq (⟨"LoopDevice", "isBroadcast", "()Z"⟩, 11) := ⟨⟨by decide +kernel, by decide +kernel⟩, List.mem_of_getElem? (i := 9) (by decide +kernel), List.mem_of_getElem? (i := 342) (by decide +kernel), List.mem_of_getElem? (i := 343) (by decide +kernel)⟩
theorem lw_p17 : lw_okq (⟨"LoopDevice", "answerFrame", "()V"⟩, 11) := ⟨⟨by decide +kernel, by decide +kernel⟩, List.mem_of_getElem? (i := 9) (by decide +kernel), List.mem_of_getElem? (i := 358) (by decide +kernel), List.mem_of_getElem? (i := 359) (by decide +kernel)⟩
theorem lw_p18 : lw_okq (⟨"LoopDevice", "codeOfFrame", "()I"⟩, 11) := ⟨⟨by decide +kernel, by decide +kernel⟩, List.mem_of_getElem? (i := 9) (by decide +kernel), List.mem_of_getElem? (i := 362) (by decide +kernel), List.mem_of_getElem? (i := 363) (by decide +kernel)⟩
theorem lw_p19 : lw_okq (⟨"LoopDevice", "tagIsInFrame", "()Z"⟩, 11) := ⟨⟨by decide +kernel, by decide +kernel⟩, List.mem_of_getElem? (i := 9) (by decide +kernel), List.mem_of_getElem? (i := 369) (by decide +kernel), List.mem_of_getElem? (i := 370) (by decide +kernel)⟩
theorem lw_p20 : lw_okq (⟨"LoopDevice", "carryOut", "(II)V"⟩, 11) := ⟨⟨by decide +kernel, by decide +kernel⟩, List.mem_of_getElem? (i := 9) (by decide +kernel), List.mem_of_getElem? (i := 385) (by decide +kernel), List.mem_of_getElem? (i := 386) (by decide +kernel)⟩
theorem lw_p21 : lw_okq (⟨"LoopDevice$SentBytes", "placeOf", "(I)I"⟩, 3) := ⟨⟨by decide +kernel, by decide +kernel⟩, List.mem_of_getElem? (i := 140) (by decide +kernel), List.mem_of_getElem? (i := 413) (by decide +kernel), List.mem_of_getElem? (i := 414) (by decide +kernel)⟩
theorem lw_p22 : lw_okq (⟨"LoopDeviceModel", "pass", "(I)V"⟩, 28) := ⟨⟨by decide +kernel, by decide +kernel⟩, List.mem_of_getElem? (i := 453) (by decide +kernel), List.mem_of_getElem? (i := 550) (by decide +kernel), List.mem_of_getElem? (i := 551) (by decide +kernel)⟩
theorem lw_p23 : lw_okq (⟨"LoopDeviceModel", "isBusy", "()Z"⟩, 28) := ⟨⟨by decide +kernel, by decide +kernel⟩, List.mem_of_getElem? (i := 453) (by decide +kernel), List.mem_of_getElem? (i := 554) (by decide +kernel), List.mem_of_getElem? (i := 555) (by decide +kernel)⟩
theorem lw_p24 : lw_okq (⟨"LoopDeviceModel", "quiet", "()J"⟩, 28) := ⟨⟨by decide +kernel, by decide +kernel⟩, List.mem_of_getElem? (i := 453) (by decide +kernel), List.mem_of_getElem? (i := 558) (by decide +kernel), List.mem_of_getElem? (i := 559) (by decide +kernel)⟩
theorem lw_p25 : lw_okq (⟨"LoopDeviceModel", "send", "(IIIIJ)V"⟩, 28) := ⟨⟨by decide +kernel, by decide +kernel⟩, List.mem_of_getElem? (i := 453) (by decide +kernel), List.mem_of_getElem? (i := 563) (by decide +kernel), List.mem_of_getElem? (i := 564) (by decide +kernel)⟩
theorem lw_p26 : lw_okq (⟨"LoopDeviceModel", "put", "(I)V"⟩, 28) := ⟨⟨by decide +kernel, by decide +kernel⟩, List.mem_of_getElem? (i := 453) (by decide +kernel), List.mem_of_getElem? (i := 567) (by decide +kernel), List.mem_of_getElem? (i := 568) (by decide +kernel)⟩
theorem lw_p27 : lw_okq (⟨"LoopDeviceModel", "statusOf", "(I)I"⟩, 28) := ⟨⟨by decide +kernel, by decide +kernel⟩, List.mem_of_getElem? (i := 453) (by decide +kernel), List.mem_of_getElem? (i := 571) (by decide +kernel), List.mem_of_getElem? (i := 572) (by decide +kernel)⟩
theorem lw_p28 : lw_okq (⟨"LoopDeviceModel", "putData", "(I)V"⟩, 28) := ⟨⟨by decide +kernel, by decide +kernel⟩, List.mem_of_getElem? (i := 453) (by decide +kernel), List.mem_of_getElem? (i := 575) (by decide +kernel), List.mem_of_getElem? (i := 576) (by decide +kernel)⟩
theorem lw_p29 : lw_okq (⟨"LoopDeviceModel", "putWord", "(I)V"⟩, 28) := ⟨⟨by decide +kernel, by decide +kernel⟩, List.mem_of_getElem? (i := 453) (by decide +kernel), List.mem_of_getElem? (i := 579) (by decide +kernel), List.mem_of_getElem? (i := 580) (by decide +kernel)⟩
theorem lw_p30 : lw_okq (⟨"LoopDeviceModel", "putLevel", "()V"⟩, 28) := ⟨⟨by decide +kernel, by decide +kernel⟩, List.mem_of_getElem? (i := 453) (by decide +kernel), List.mem_of_getElem? (i := 583) (by decide +kernel), List.mem_of_getElem? (i := 584) (by decide +kernel)⟩
theorem lw_p31 : lw_okq (⟨"LoopDeviceModel", "count", "()I"⟩, 28) := ⟨⟨by decide +kernel, by decide +kernel⟩, List.mem_of_getElem? (i := 453) (by decide +kernel), List.mem_of_getElem? (i := 591) (by decide +kernel), List.mem_of_getElem? (i := 592) (by decide +kernel)⟩
def lw_privs_2 : List (MethodName × Nat) := [(⟨"LoopDevice", "isBroadcast", "()Z"⟩, 11), (⟨"LoopDevice", "answerFrame", "()V"⟩, 11), (⟨"LoopDevice", "codeOfFrame", "()I"⟩, 11), (⟨"LoopDevice", "tagIsInFrame", "()Z"⟩, 11), (⟨"LoopDevice", "carryOut", "(II)V"⟩, 11), (⟨"LoopDevice$SentBytes", "placeOf", "(I)I"⟩, 3), (⟨"LoopDeviceModel", "pass", "(I)V"⟩, 28), (⟨"LoopDeviceModel", "isBusy", "()Z"⟩, 28), (⟨"LoopDeviceModel", "quiet", "()J"⟩, 28), (⟨"LoopDeviceModel", "send", "(IIIIJ)V"⟩, 28), (⟨"LoopDeviceModel", "put", "(I)V"⟩, 28), (⟨"LoopDeviceModel", "statusOf", "(I)I"⟩, 28), (⟨"LoopDeviceModel", "putData", "(I)V"⟩, 28), (⟨"LoopDeviceModel", "putWord", "(I)V"⟩, 28), (⟨"LoopDeviceModel", "putLevel", "()V"⟩, 28), (⟨"LoopDeviceModel", "count", "()I"⟩, 28)]
theorem lw_r2 : ∀ q ∈ lw_privs_2, lw_okq q := List.forall_mem_cons.mpr ⟨lw_p16, List.forall_mem_cons.mpr ⟨lw_p17, List.forall_mem_cons.mpr ⟨lw_p18, List.forall_mem_cons.mpr ⟨lw_p19, List.forall_mem_cons.mpr ⟨lw_p20, List.forall_mem_cons.mpr ⟨lw_p21, List.forall_mem_cons.mpr ⟨lw_p22, List.forall_mem_cons.mpr ⟨lw_p23, List.forall_mem_cons.mpr ⟨lw_p24, List.forall_mem_cons.mpr ⟨lw_p25, List.forall_mem_cons.mpr ⟨lw_p26, List.forall_mem_cons.mpr ⟨lw_p27, List.forall_mem_cons.mpr ⟨lw_p28, List.forall_mem_cons.mpr ⟨lw_p29, List.forall_mem_cons.mpr ⟨lw_p30, List.forall_mem_cons.mpr ⟨lw_p31, fun _ h => absurd h List.not_mem_nil⟩⟩⟩⟩⟩⟩⟩⟩⟩⟩⟩⟩⟩⟩⟩⟩
theorem lw_p32 : lw_okq (⟨"LoopDeviceModel", "addressSize", "()I"⟩, 28) := ⟨⟨by decide +kernel, by decide +kernel⟩, List.mem_of_getElem? (i := 453) (by decide +kernel), List.mem_of_getElem? (i := 595) (by decide +kernel), List.mem_of_getElem? (i := 596) (by decide +kernel)⟩
theorem lw_p33 : lw_okq (⟨"LoopDeviceModel", "data", "(I)I"⟩, 28) := ⟨⟨by decide +kernel, by decide +kernel⟩, List.mem_of_getElem? (i := 453) (by decide +kernel), List.mem_of_getElem? (i := 599) (by decide +kernel), List.mem_of_getElem? (i := 600) (by decide +kernel)⟩
theorem lw_p34 : lw_okq (⟨"LoopDeviceModel", "forget", "()V"⟩, 28) := ⟨⟨by decide +kernel, by decide +kernel⟩, List.mem_of_getElem? (i := 453) (by decide +kernel), List.mem_of_getElem? (i := 603) (by decide +kernel), List.mem_of_getElem? (i := 604) (by decide +kernel)⟩
theorem lw_p35 : lw_okq (⟨"LoopDeviceModel", "keep", "(I)Z"⟩, 28) := ⟨⟨by decide +kernel, by decide +kernel⟩, List.mem_of_getElem? (i := 453) (by decide +kernel), List.mem_of_getElem? (i := 607) (by decide +kernel), List.mem_of_getElem? (i := 608) (by decide +kernel)⟩
theorem lw_p36 : lw_okq (⟨"LoopDeviceModel", "isRight", "()Z"⟩, 28) := ⟨⟨by decide +kernel, by decide +kernel⟩, List.mem_of_getElem? (i := 453) (by decide +kernel), List.mem_of_getElem? (i := 611) (by decide +kernel), List.mem_of_getElem? (i := 612) (by decide +kernel)⟩
theorem lw_p37 : lw_okq (⟨"LoopDeviceModel", "isOwn", "()Z"⟩, 28) := ⟨⟨by decide +kernel, by decide +kernel⟩, List.mem_of_getElem? (i := 453) (by decide +kernel), List.mem_of_getElem? (i := 615) (by decide +kernel), List.mem_of_getElem? (i := 616) (by decide +kernel)⟩
theorem lw_p38 : lw_okq (⟨"LoopDeviceModel", "isBroadcast", "()Z"⟩, 28) := ⟨⟨by decide +kernel, by decide +kernel⟩, List.mem_of_getElem? (i := 453) (by decide +kernel), List.mem_of_getElem? (i := 619) (by decide +kernel), List.mem_of_getElem? (i := 620) (by decide +kernel)⟩
theorem lw_p39 : lw_okq (⟨"LoopDeviceModel", "command", "()I"⟩, 28) := ⟨⟨by decide +kernel, by decide +kernel⟩, List.mem_of_getElem? (i := 453) (by decide +kernel), List.mem_of_getElem? (i := 623) (by decide +kernel), List.mem_of_getElem? (i := 624) (by decide +kernel)⟩
theorem lw_p40 : lw_okq (⟨"LoopDeviceModel", "answer", "()V"⟩, 28) := ⟨⟨by decide +kernel, by decide +kernel⟩, List.mem_of_getElem? (i := 453) (by decide +kernel), List.mem_of_getElem? (i := 627) (by decide +kernel), List.mem_of_getElem? (i := 628) (by decide +kernel)⟩
theorem lw_p41 : lw_okq (⟨"LoopDeviceModel", "codeOf", "()I"⟩, 28) := ⟨⟨by decide +kernel, by decide +kernel⟩, List.mem_of_getElem? (i := 453) (by decide +kernel), List.mem_of_getElem? (i := 631) (by decide +kernel), List.mem_of_getElem? (i := 632) (by decide +kernel)⟩
theorem lw_p42 : lw_okq (⟨"LoopDeviceModel", "hasTag", "()Z"⟩, 28) := ⟨⟨by decide +kernel, by decide +kernel⟩, List.mem_of_getElem? (i := 453) (by decide +kernel), List.mem_of_getElem? (i := 638) (by decide +kernel), List.mem_of_getElem? (i := 639) (by decide +kernel)⟩
theorem lw_p43 : lw_okq (⟨"LoopDeviceModel", "word", "(I)I"⟩, 28) := ⟨⟨by decide +kernel, by decide +kernel⟩, List.mem_of_getElem? (i := 453) (by decide +kernel), List.mem_of_getElem? (i := 642) (by decide +kernel), List.mem_of_getElem? (i := 643) (by decide +kernel)⟩
theorem lw_p44 : lw_okq (⟨"LoopDeviceModel", "obey", "()V"⟩, 28) := ⟨⟨by decide +kernel, by decide +kernel⟩, List.mem_of_getElem? (i := 453) (by decide +kernel), List.mem_of_getElem? (i := 646) (by decide +kernel), List.mem_of_getElem? (i := 647) (by decide +kernel)⟩
theorem lw_p45 : lw_okq (⟨"LoopDeviceModel", "master", "()I"⟩, 28) := ⟨⟨by decide +kernel, by decide +kernel⟩, List.mem_of_getElem? (i := 453) (by decide +kernel), List.mem_of_getElem? (i := 650) (by decide +kernel), List.mem_of_getElem? (i := 651) (by decide +kernel)⟩
theorem lw_p46 : lw_okq (⟨"LoopDeviceModel", "isKept", "(I)Z"⟩, 28) := ⟨⟨by decide +kernel, by decide +kernel⟩, List.mem_of_getElem? (i := 453) (by decide +kernel), List.mem_of_getElem? (i := 667) (by decide +kernel), List.mem_of_getElem? (i := 668) (by decide +kernel)⟩
def lw_privs_3 : List (MethodName × Nat) := [(⟨"LoopDeviceModel", "addressSize", "()I"⟩, 28), (⟨"LoopDeviceModel", "data", "(I)I"⟩, 28), (⟨"LoopDeviceModel", "forget", "()V"⟩, 28), (⟨"LoopDeviceModel", "keep", "(I)Z"⟩, 28), (⟨"LoopDeviceModel", "isRight", "()Z"⟩, 28), (⟨"LoopDeviceModel", "isOwn", "()Z"⟩, 28), (⟨"LoopDeviceModel", "isBroadcast", "()Z"⟩, 28), (⟨"LoopDeviceModel", "command", "()I"⟩, 28), (⟨"LoopDeviceModel", "answer", "()V"⟩, 28), (⟨"LoopDeviceModel", "codeOf", "()I"⟩, 28), (⟨"LoopDeviceModel", "hasTag", "()Z"⟩, 28), (⟨"LoopDeviceModel", "word", "(I)I"⟩, 28), (⟨"LoopDeviceModel", "obey", "()V"⟩, 28), (⟨"LoopDeviceModel", "master", "()I"⟩, 28), (⟨"LoopDeviceModel", "isKept", "(I)Z"⟩, 28)]
theorem lw_r3 : ∀ q ∈ lw_privs_3, lw_okq q := List.forall_mem_cons.mpr ⟨lw_p32, List.forall_mem_cons.mpr ⟨lw_p33, List.forall_mem_cons.mpr ⟨lw_p34, List.forall_mem_cons.mpr ⟨lw_p35, List.forall_mem_cons.mpr ⟨lw_p36, List.forall_mem_cons.mpr ⟨lw_p37, List.forall_mem_cons.mpr ⟨lw_p38, List.forall_mem_cons.mpr ⟨lw_p39, List.forall_mem_cons.mpr ⟨lw_p40, List.forall_mem_cons.mpr ⟨lw_p41, List.forall_mem_cons.mpr ⟨lw_p42, List.forall_mem_cons.mpr ⟨lw_p43, List.forall_mem_cons.mpr ⟨lw_p44, List.forall_mem_cons.mpr ⟨lw_p45, List.forall_mem_cons.mpr ⟨lw_p46, fun _ h => absurd h List.not_mem_nil⟩⟩⟩⟩⟩⟩⟩⟩⟩⟩⟩⟩⟩⟩⟩
def lw_privs : List (MethodName × Nat) := lw_privs_1 ++ (lw_privs_2 ++ (lw_privs_3))
def lw_tbl : List Cond := k2_sels lw_privs ++ tables_1
theorem lw_privs_ok : ∀ q ∈ lw_privs, lw_okq q := by
  show ∀ q ∈ lw_privs_1 ++ (lw_privs_2 ++ (lw_privs_3)), lw_okq q
  exact List.forall_mem_append.mpr ⟨lw_r1, List.forall_mem_append.mpr ⟨lw_r2, lw_r3⟩⟩
end
section
/-! ===== BEGIN words of one list among another's, by their places ===== -/
theorem goodIn_r {big : List Cond} (ws : List Cond) (ps : List Nat) (hp : ws = ps.filterMap (fun i => big[i]?)) (h : ws.all goodWord = true) : GoodIn big ws := by
  intro w hw
  have h1 := List.all_eq_true.mp h w hw
  rw [hp] at hw
  obtain ⟨i, -, hi⟩ := List.mem_filterMap.mp hw
  have hm : w ∈ big := by first | exact List.mem_of_getElem? hi | exact List.getElem?_mem hi
  exact ⟨hm, good_of_word h1⟩
theorem goodIn_app {big a b : List Cond} (ha : GoodIn big a) (hb : GoodIn big b) : GoodIn big (a ++ b) := fun w h => (List.mem_append.mp h).elim (ha w) (hb w)
theorem goodIn_ca {big a b : List Cond} {c : Cond} (ha : GoodIn big (c :: a)) (hb : GoodIn big b) : GoodIn big (c :: (a ++ b)) := fun w h => (List.mem_cons.mp h).elim (fun e => ha w (List.mem_cons.mpr (Or.inl e))) (fun h => (List.mem_append.mp h).elim (fun h => ha w (List.mem_cons.mpr (Or.inr h))) (hb w))
theorem goodIn_sub {big ws : List Cond} (hm : ∀ w ∈ ws, w ∈ big) (h : ws.all goodWord = true) : GoodIn big ws := fun w hw => ⟨hm w hw, good_of_word (List.all_eq_true.mp h w hw)⟩
/-! ===== END ===== -/

/-! ===== BEGIN printed: names, fields, word lists, decode rows ===== -/
def RX0 : String := "LoopDevice$FrameReader"
def TX0 : u_T := fun k => match k with
  | 0 => ("LoopDevice$FrameReader", "isLong", "Z", false)
  | 1 => ("LoopDevice$FrameReader", "command", "I", false)
  | 2 => ("LoopDevice$FrameReader", "count", "I", false)
  | 3 => ("LoopDevice$FrameReader", "sumIsRight", "Z", false)
  | 4 => ("LoopDevice$FrameReader", "address", "[I", true)
  | 5 => ("LoopDevice$FrameReader", "data", "[I", true)
  | 6 => ("LoopDevice$FrameReader", "place", "I", false)
  | 7 => ("LoopDevice$FrameReader", "preamble", "I", false)
  | 8 => ("LoopDevice$FrameReader", "taken", "I", false)
  | _ => ("LoopDevice$FrameReader", "sum", "I", false)
def tyX0 : Nat → FieldType := fun k => match k with
  | 0 => .boolean
  | 1 => .int
  | 2 => .int
  | 3 => .boolean
  | 4 => .array .int
  | 5 => .array .int
  | 6 => .int
  | 7 => .int
  | 8 => .int
  | _ => .int
abbrev wsX00 : List Cond := u_ws RX0 TX0 10
theorem nmX0 : ∀ a, a < 10 → ∀ b, b < 10 → a ≠ b → (TX0 a).2.1 ≠ (TX0 b).2.1 := by decide +kernel
theorem tyX0_ok : ∀ k, k < 10 → parseFieldDescriptor (TX0 k).2.2.1 = some (tyX0 k) := by decide +kernel
abbrev cX0_init : ByteArray := prog_2_method_1_code
def yX0_init : MethodName := ⟨RX0, "<init>", "()V"⟩
abbrev cX0_beginAnew : ByteArray := prog_2_method_2_code
def yX0_beginAnew : MethodName := ⟨RX0, "beginAnew", "()V"⟩
abbrev cX0_take : ByteArray := prog_2_method_3_code
def yX0_take : MethodName := ⟨RX0, "take", "(I)Z"⟩
abbrev cX0_takePreamble : ByteArray := prog_2_method_4_code
def yX0_takePreamble : MethodName := ⟨RX0, "takePreamble", "(I)V"⟩
abbrev cX0_takeAddress : ByteArray := prog_2_method_5_code
def yX0_takeAddress : MethodName := ⟨RX0, "takeAddress", "(I)V"⟩
abbrev cX0_takeCount : ByteArray := prog_2_method_6_code
def yX0_takeCount : MethodName := ⟨RX0, "takeCount", "(I)V"⟩
abbrev cX0_takeData : ByteArray := prog_2_method_7_code
def yX0_takeData : MethodName := ⟨RX0, "takeData", "(I)V"⟩
abbrev cX0_master : ByteArray := prog_2_method_8_code
def yX0_master : MethodName := ⟨RX0, "master", "()I"⟩
abbrev cX0_station : ByteArray := prog_2_method_9_code
def yX0_station : MethodName := ⟨RX0, "station", "()I"⟩
abbrev cX0_kind : ByteArray := prog_2_method_10_code
def yX0_kind : MethodName := ⟨RX0, "kind", "()I"⟩
abbrev cX0_number : ByteArray := prog_2_method_11_code
def yX0_number : MethodName := ⟨RX0, "number", "()I"⟩
abbrev cX0_addressAt : ByteArray := prog_2_method_12_code
def yX0_addressAt : MethodName := ⟨RX0, "addressAt", "(I)I"⟩
abbrev cX0_dataAt : ByteArray := prog_2_method_13_code
def yX0_dataAt : MethodName := ⟨RX0, "dataAt", "(I)I"⟩
abbrev cX0_fourAt : ByteArray := prog_2_method_14_code
def yX0_fourAt : MethodName := ⟨RX0, "fourAt", "(I)I"⟩
def RX1 : String := "LoopDevice$FrameWriter"
def TX1 : u_T := fun k => match k with
  | 0 => ("LoopDevice$FrameWriter", "bytes", "[I", true)
  | 1 => ("LoopDevice$FrameWriter", "length", "I", false)
  | 2 => ("LoopDevice$FrameWriter", "next", "I", false)
  | 3 => ("LoopDevice$FrameWriter", "countPlace", "I", false)
  | _ => ("LoopDevice$FrameWriter", "waits", "Z", false)
def tyX1 : Nat → FieldType := fun k => match k with
  | 0 => .array .int
  | 1 => .int
  | 2 => .int
  | 3 => .int
  | _ => .boolean
abbrev wsX10 : List Cond := u_ws RX1 TX1 5
theorem nmX1 : ∀ a, a < 5 → ∀ b, b < 5 → a ≠ b → (TX1 a).2.1 ≠ (TX1 b).2.1 := by decide +kernel
theorem tyX1_ok : ∀ k, k < 5 → parseFieldDescriptor (TX1 k).2.2.1 = some (tyX1 k) := by decide +kernel
abbrev cX1_init : ByteArray := prog_3_method_1_code
def yX1_init : MethodName := ⟨RX1, "<init>", "()V"⟩
abbrev cX1_isBusy : ByteArray := prog_3_method_2_code
def yX1_isBusy : MethodName := ⟨RX1, "isBusy", "()Z"⟩
abbrev cX1_begin : ByteArray := prog_3_method_3_code
def yX1_begin : MethodName := ⟨RX1, "begin", "(I)V"⟩
abbrev cX1_add : ByteArray := prog_3_method_4_code
def yX1_add : MethodName := ⟨RX1, "add", "(I)V"⟩
abbrev cX1_addFour : ByteArray := prog_3_method_5_code
def yX1_addFour : MethodName := ⟨RX1, "addFour", "(I)V"⟩
abbrev cX1_beginCount : ByteArray := prog_3_method_6_code
def yX1_beginCount : MethodName := ⟨RX1, "beginCount", "()V"⟩
abbrev cX1_end : ByteArray := prog_3_method_7_code
def yX1_end : MethodName := ⟨RX1, "end", "()V"⟩
abbrev cX1_waitOneTick : ByteArray := prog_3_method_8_code
def yX1_waitOneTick : MethodName := ⟨RX1, "waitOneTick", "()V"⟩
abbrev cX1_takeNext : ByteArray := prog_3_method_9_code
def yX1_takeNext : MethodName := ⟨RX1, "takeNext", "()I"⟩
def RX2 : String := "LoopDevice$Holdings"
def TX2 : u_T := fun k => match k with
  | 0 => ("LoopDevice$Holdings", "maker", "I", true)
  | 1 => ("LoopDevice$Holdings", "kind", "I", true)
  | 2 => ("LoopDevice$Holdings", "number", "I", true)
  | 3 => ("LoopDevice$Holdings", "shortAddress", "I", false)
  | 4 => ("LoopDevice$Holdings", "unit", "I", false)
  | 5 => ("LoopDevice$Holdings", "lower", "I", false)
  | 6 => ("LoopDevice$Holdings", "upper", "I", false)
  | 7 => ("LoopDevice$Holdings", "changed", "I", false)
  | 8 => ("LoopDevice$Holdings", "cold", "I", false)
  | 9 => ("LoopDevice$Holdings", "failed", "Z", false)
  | 10 => ("LoopDevice$Holdings", "burstOn", "Z", false)
  | 11 => ("LoopDevice$Holdings", "burstCommand", "I", false)
  | 12 => ("LoopDevice$Holdings", "tagBytes", "[I", true)
  | _ => ("LoopDevice$Holdings", "variables", "[I", true)
def tyX2 : Nat → FieldType := fun k => match k with
  | 0 => .int
  | 1 => .int
  | 2 => .int
  | 3 => .int
  | 4 => .int
  | 5 => .int
  | 6 => .int
  | 7 => .int
  | 8 => .int
  | 9 => .boolean
  | 10 => .boolean
  | 11 => .int
  | 12 => .array .int
  | _ => .array .int
abbrev wsX20 : List Cond := u_ws RX2 TX2 14
theorem nmX2 : ∀ a, a < 14 → ∀ b, b < 14 → a ≠ b → (TX2 a).2.1 ≠ (TX2 b).2.1 := by decide +kernel
theorem tyX2_ok : ∀ k, k < 14 → parseFieldDescriptor (TX2 k).2.2.1 = some (tyX2 k) := by decide +kernel
abbrev cX2_init : ByteArray := prog_4_method_1_code
def yX2_init : MethodName := ⟨RX2, "<init>", "(III)V"⟩
abbrev cX2_hasLongAddress : ByteArray := prog_4_method_2_code
def yX2_hasLongAddress : MethodName := ⟨RX2, "hasLongAddress", "(III)Z"⟩
abbrev cX2_tagByte : ByteArray := prog_4_method_3_code
def yX2_tagByte : MethodName := ⟨RX2, "tagByte", "(I)I"⟩
abbrev cX2_setTagByte : ByteArray := prog_4_method_4_code
def yX2_setTagByte : MethodName := ⟨RX2, "setTagByte", "(II)V"⟩
abbrev cX2_variableAt : ByteArray := prog_4_method_5_code
def yX2_variableAt : MethodName := ⟨RX2, "variableAt", "(I)I"⟩
abbrev cX2_setVariable : ByteArray := prog_4_method_6_code
def yX2_setVariable : MethodName := ⟨RX2, "setVariable", "(II)V"⟩
abbrev cX2_statusFor : ByteArray := prog_4_method_7_code
def yX2_statusFor : MethodName := ⟨RX2, "statusFor", "(I)I"⟩
abbrev cX2_level : ByteArray := prog_4_method_8_code
def yX2_level : MethodName := ⟨RX2, "level", "()I"⟩
def RX3 : String := "LoopDevice$SentBytes"
def TX3 : u_T := fun k => match k with
  | 0 => ("LoopDevice$SentBytes", "total", "I", false)
  | 1 => ("LoopDevice$SentBytes", "bytes", "[I", true)
  | _ => ("LoopDevice$SentBytes", "ticksOfBytes", "[I", true)
def tyX3 : Nat → FieldType := fun k => match k with
  | 0 => .int
  | 1 => .array .int
  | _ => .array .int
abbrev wsX30 : List Cond := u_ws RX3 TX3 3
theorem nmX3 : ∀ a, a < 3 → ∀ b, b < 3 → a ≠ b → (TX3 a).2.1 ≠ (TX3 b).2.1 := by decide +kernel
theorem tyX3_ok : ∀ k, k < 3 → parseFieldDescriptor (TX3 k).2.2.1 = some (tyX3 k) := by decide +kernel
abbrev cX3_init : ByteArray := prog_5_method_1_code
def yX3_init : MethodName := ⟨RX3, "<init>", "()V"⟩
abbrev cX3_add : ByteArray := prog_5_method_2_code
def yX3_add : MethodName := ⟨RX3, "add", "(II)V"⟩
abbrev cX3_byteAt : ByteArray := prog_5_method_3_code
def yX3_byteAt : MethodName := ⟨RX3, "byteAt", "(I)I"⟩
abbrev cX3_tickAt : ByteArray := prog_5_method_4_code
def yX3_tickAt : MethodName := ⟨RX3, "tickAt", "(I)I"⟩
abbrev cX3_placeOf : ByteArray := prog_5_method_5_code
def yX3_placeOf : MethodName := ⟨RX3, "placeOf", "(I)I"⟩
def RX4 : String := "LoopDevice"
def TX4 : u_T := fun k => match k with
  | 0 => ("LoopDevice", "holdings", "LLoopDevice$Holdings;", true)
  | 1 => ("LoopDevice", "reader", "LLoopDevice$FrameReader;", true)
  | 2 => ("LoopDevice", "writer", "LLoopDevice$FrameWriter;", true)
  | 3 => ("LoopDevice", "gone", "LLoopDevice$SentBytes;", true)
  | 4 => ("LoopDevice", "ticks", "I", false)
  | 5 => ("LoopDevice", "quietTicks", "I", false)
  | 6 => ("LoopDevice", "answers", "I", false)
  | 7 => ("LoopDevice", "bursts", "I", false)
  | 8 => ("LoopDevice", "goodFrames", "I", false)
  | 9 => ("LoopDevice", "otherFrames", "I", false)
  | _ => ("LoopDevice", "burstMaster", "I", false)
def tyX4 : Nat → FieldType := fun k => match k with
  | 0 => .object "LoopDevice$Holdings"
  | 1 => .object "LoopDevice$FrameReader"
  | 2 => .object "LoopDevice$FrameWriter"
  | 3 => .object "LoopDevice$SentBytes"
  | 4 => .int
  | 5 => .int
  | 6 => .int
  | 7 => .int
  | 8 => .int
  | 9 => .int
  | _ => .int
abbrev wsX40 : List Cond := u_ws RX4 TX4 11
theorem nmX4 : ∀ a, a < 11 → ∀ b, b < 11 → a ≠ b → (TX4 a).2.1 ≠ (TX4 b).2.1 := by decide +kernel
theorem tyX4_ok : ∀ k, k < 11 → parseFieldDescriptor (TX4 k).2.2.1 = some (tyX4 k) := by decide +kernel
abbrev cX4_init : ByteArray := prog_1_method_1_code
def yX4_init : MethodName := ⟨RX4, "<init>", "(III)V"⟩
abbrev cX4_octet : ByteArray := prog_1_method_2_code
def yX4_octet : MethodName := ⟨RX4, "octet", "(I)I"⟩
abbrev cX4_octets : ByteArray := prog_1_method_3_code
def yX4_octets : MethodName := ⟨RX4, "octets", "(I)I"⟩
abbrev cX4_tick : ByteArray := prog_1_method_4_code
def yX4_tick : MethodName := ⟨RX4, "tick", "(I)I"⟩
abbrev cX4_sent : ByteArray := prog_1_method_5_code
def yX4_sent : MethodName := ⟨RX4, "sent", "(I)I"⟩
abbrev cX4_when : ByteArray := prog_1_method_6_code
def yX4_when : MethodName := ⟨RX4, "when", "(I)I"⟩
abbrev cX4_variable : ByteArray := prog_1_method_7_code
def yX4_variable : MethodName := ⟨RX4, "variable", "(II)J"⟩
abbrev cX4_failure : ByteArray := prog_1_method_8_code
def yX4_failure : MethodName := ⟨RX4, "failure", "(Z)I"⟩
abbrev cX4_has : ByteArray := prog_1_method_9_code
def yX4_has : MethodName := ⟨RX4, "has", "(I)J"⟩
abbrev cX4_tag : ByteArray := prog_1_method_10_code
def yX4_tag : MethodName := ⟨RX4, "tag", "(I)I"⟩
abbrev cX4_now : ByteArray := prog_1_method_11_code
def yX4_now : MethodName := ⟨RX4, "now", "()I"⟩
abbrev cX4_passTick : ByteArray := prog_1_method_12_code
def yX4_passTick : MethodName := ⟨RX4, "passTick", "(I)V"⟩
abbrev cX4_burstIsDue : ByteArray := prog_1_method_13_code
def yX4_burstIsDue : MethodName := ⟨RX4, "burstIsDue", "()Z"⟩
abbrev cX4_beginBurst : ByteArray := prog_1_method_14_code
def yX4_beginBurst : MethodName := ⟨RX4, "beginBurst", "()V"⟩
abbrev cX4_countFrame : ByteArray := prog_1_method_15_code
def yX4_countFrame : MethodName := ⟨RX4, "countFrame", "()Z"⟩
abbrev cX4_isForDevice : ByteArray := prog_1_method_16_code
def yX4_isForDevice : MethodName := ⟨RX4, "isForDevice", "()Z"⟩
abbrev cX4_isBroadcast : ByteArray := prog_1_method_17_code
def yX4_isBroadcast : MethodName := ⟨RX4, "isBroadcast", "()Z"⟩
abbrev cX4_answerFrame : ByteArray := prog_1_method_18_code
def yX4_answerFrame : MethodName := ⟨RX4, "answerFrame", "()V"⟩
abbrev cX4_countOfCommand : ByteArray := prog_1_method_19_code
def yX4_countOfCommand : MethodName := ⟨RX4, "countOfCommand", "(I)I"⟩
abbrev cX4_codeOfFrame : ByteArray := prog_1_method_20_code
def yX4_codeOfFrame : MethodName := ⟨RX4, "codeOfFrame", "()I"⟩
abbrev cX4_codeOfEnds : ByteArray := prog_1_method_21_code
def yX4_codeOfEnds : MethodName := ⟨RX4, "codeOfEnds", "(II)I"⟩
abbrev cX4_tagIsInFrame : ByteArray := prog_1_method_22_code
def yX4_tagIsInFrame : MethodName := ⟨RX4, "tagIsInFrame", "()Z"⟩
abbrev cX4_carryOut : ByteArray := prog_1_method_23_code
def yX4_carryOut : MethodName := ⟨RX4, "carryOut", "(II)V"⟩
abbrev cX4_setsSomething : ByteArray := prog_1_method_24_code
def yX4_setsSomething : MethodName := ⟨RX4, "setsSomething", "(I)Z"⟩
abbrev cX4_compose : ByteArray := prog_1_method_25_code
def yX4_compose : MethodName := ⟨RX4, "compose", "(IIII)V"⟩
abbrev cX4_addAddress : ByteArray := prog_1_method_26_code
def yX4_addAddress : MethodName := ⟨RX4, "addAddress", "(ZI)V"⟩
abbrev cX4_addData : ByteArray := prog_1_method_27_code
def yX4_addData : MethodName := ⟨RX4, "addData", "(I)V"⟩
abbrev cX4_addIdentity : ByteArray := prog_1_method_28_code
def yX4_addIdentity : MethodName := ⟨RX4, "addIdentity", "()V"⟩
abbrev cX4_addNumber : ByteArray := prog_1_method_29_code
def yX4_addNumber : MethodName := ⟨RX4, "addNumber", "()V"⟩
abbrev cX4_addEcho : ByteArray := prog_1_method_30_code
def yX4_addEcho : MethodName := ⟨RX4, "addEcho", "(I)V"⟩
def RX5 : String := "LoopDeviceModel"
def TX5 : u_T := fun k => match k with
  | 0 => ("LoopDeviceModel", "thrown", "I", false)
  | 1 => ("LoopDeviceModel", "own", "[I", true)
  | 2 => ("LoopDeviceModel", "shortAddress", "I", false)
  | 3 => ("LoopDeviceModel", "tags", "[I", true)
  | 4 => ("LoopDeviceModel", "variables", "[I", true)
  | 5 => ("LoopDeviceModel", "unit", "I", false)
  | 6 => ("LoopDeviceModel", "lower", "I", false)
  | 7 => ("LoopDeviceModel", "upper", "I", false)
  | 8 => ("LoopDeviceModel", "isChanged", "[Z", true)
  | 9 => ("LoopDeviceModel", "isCold", "[Z", true)
  | 10 => ("LoopDeviceModel", "hasFailed", "Z", false)
  | 11 => ("LoopDeviceModel", "isBurst", "Z", false)
  | 12 => ("LoopDeviceModel", "burstCommand", "I", false)
  | 13 => ("LoopDeviceModel", "bursts", "I", false)
  | 14 => ("LoopDeviceModel", "preamble", "I", false)
  | 15 => ("LoopDeviceModel", "came", "I", false)
  | 16 => ("LoopDeviceModel", "frame", "[I", true)
  | 17 => ("LoopDeviceModel", "out", "[I", true)
  | 18 => ("LoopDeviceModel", "outSize", "I", false)
  | 19 => ("LoopDeviceModel", "outFrom", "J", false)
  | 20 => ("LoopDeviceModel", "latest", "J", false)
  | 21 => ("LoopDeviceModel", "now", "I", false)
  | 22 => ("LoopDeviceModel", "answers", "I", false)
  | 23 => ("LoopDeviceModel", "good", "I", false)
  | 24 => ("LoopDeviceModel", "bad", "I", false)
  | 25 => ("LoopDeviceModel", "sent", "I", false)
  | 26 => ("LoopDeviceModel", "sentBytes", "[I", true)
  | _ => ("LoopDeviceModel", "sentTicks", "[I", true)
def tyX5 : Nat → FieldType := fun k => match k with
  | 0 => .int
  | 1 => .array .int
  | 2 => .int
  | 3 => .array .int
  | 4 => .array .int
  | 5 => .int
  | 6 => .int
  | 7 => .int
  | 8 => .array .boolean
  | 9 => .array .boolean
  | 10 => .boolean
  | 11 => .boolean
  | 12 => .int
  | 13 => .int
  | 14 => .int
  | 15 => .int
  | 16 => .array .int
  | 17 => .array .int
  | 18 => .int
  | 19 => .long
  | 20 => .long
  | 21 => .int
  | 22 => .int
  | 23 => .int
  | 24 => .int
  | 25 => .int
  | 26 => .array .int
  | _ => .array .int
abbrev wsX50 : List Cond := u_ws RX5 TX5 28
theorem nmX5 : ∀ a, a < 28 → ∀ b, b < 28 → a ≠ b → (TX5 a).2.1 ≠ (TX5 b).2.1 := by decide +kernel
theorem tyX5_ok : ∀ k, k < 28 → parseFieldDescriptor (TX5 k).2.2.1 = some (tyX5 k) := by decide +kernel
abbrev cX5_init : ByteArray := prog_7_method_1_code
def yX5_init : MethodName := ⟨RX5, "<init>", "(III)V"⟩
abbrev cX5_addressSize : ByteArray := prog_7_method_3_code
def yX5_addressSize : MethodName := ⟨RX5, "addressSize", "()I"⟩
abbrev cX5_command : ByteArray := prog_7_method_4_code
def yX5_command : MethodName := ⟨RX5, "command", "()I"⟩
abbrev cX5_count : ByteArray := prog_7_method_5_code
def yX5_count : MethodName := ⟨RX5, "count", "()I"⟩
abbrev cX5_data : ByteArray := prog_7_method_6_code
def yX5_data : MethodName := ⟨RX5, "data", "(I)I"⟩
abbrev cX5_word : ByteArray := prog_7_method_7_code
def yX5_word : MethodName := ⟨RX5, "word", "(I)I"⟩
abbrev cX5_master : ByteArray := prog_7_method_8_code
def yX5_master : MethodName := ⟨RX5, "master", "()I"⟩
abbrev cX5_forget : ByteArray := prog_7_method_9_code
def yX5_forget : MethodName := ⟨RX5, "forget", "()V"⟩
abbrev cX5_keep : ByteArray := prog_7_method_10_code
def yX5_keep : MethodName := ⟨RX5, "keep", "(I)Z"⟩
abbrev cX5_isRight : ByteArray := prog_7_method_11_code
def yX5_isRight : MethodName := ⟨RX5, "isRight", "()Z"⟩
abbrev cX5_isBroadcast : ByteArray := prog_7_method_12_code
def yX5_isBroadcast : MethodName := ⟨RX5, "isBroadcast", "()Z"⟩
abbrev cX5_isOwn : ByteArray := prog_7_method_13_code
def yX5_isOwn : MethodName := ⟨RX5, "isOwn", "()Z"⟩
abbrev cX5_countWanted : ByteArray := prog_7_method_14_code
def yX5_countWanted : MethodName := ⟨RX5, "countWanted", "(I)I"⟩
abbrev cX5_hasTag : ByteArray := prog_7_method_15_code
def yX5_hasTag : MethodName := ⟨RX5, "hasTag", "()Z"⟩
abbrev cX5_codeOf : ByteArray := prog_7_method_16_code
def yX5_codeOf : MethodName := ⟨RX5, "codeOf", "()I"⟩
abbrev cX5_obey : ByteArray := prog_7_method_17_code
def yX5_obey : MethodName := ⟨RX5, "obey", "()V"⟩
abbrev cX5_put : ByteArray := prog_7_method_18_code
def yX5_put : MethodName := ⟨RX5, "put", "(I)V"⟩
abbrev cX5_putWord : ByteArray := prog_7_method_19_code
def yX5_putWord : MethodName := ⟨RX5, "putWord", "(I)V"⟩
abbrev cX5_putLevel : ByteArray := prog_7_method_20_code
def yX5_putLevel : MethodName := ⟨RX5, "putLevel", "()V"⟩
abbrev cX5_putData : ByteArray := prog_7_method_21_code
def yX5_putData : MethodName := ⟨RX5, "putData", "(I)V"⟩
abbrev cX5_statusOf : ByteArray := prog_7_method_22_code
def yX5_statusOf : MethodName := ⟨RX5, "statusOf", "(I)I"⟩
abbrev cX5_send : ByteArray := prog_7_method_23_code
def yX5_send : MethodName := ⟨RX5, "send", "(IIIIJ)V"⟩
abbrev cX5_answer : ByteArray := prog_7_method_24_code
def yX5_answer : MethodName := ⟨RX5, "answer", "()V"⟩
abbrev cX5_isBusy : ByteArray := prog_7_method_25_code
def yX5_isBusy : MethodName := ⟨RX5, "isBusy", "()Z"⟩
abbrev cX5_pass : ByteArray := prog_7_method_26_code
def yX5_pass : MethodName := ⟨RX5, "pass", "(I)V"⟩
abbrev cX5_quiet : ByteArray := prog_7_method_27_code
def yX5_quiet : MethodName := ⟨RX5, "quiet", "()J"⟩
abbrev cX5_octet : ByteArray := prog_7_method_28_code
def yX5_octet : MethodName := ⟨RX5, "octet", "(I)I"⟩
abbrev cX5_octets : ByteArray := prog_7_method_29_code
def yX5_octets : MethodName := ⟨RX5, "octets", "(I)I"⟩
abbrev cX5_tick : ByteArray := prog_7_method_30_code
def yX5_tick : MethodName := ⟨RX5, "tick", "(I)I"⟩
abbrev cX5_isKept : ByteArray := prog_7_method_31_code
def yX5_isKept : MethodName := ⟨RX5, "isKept", "(I)Z"⟩
abbrev cX5_sent : ByteArray := prog_7_method_32_code
def yX5_sent : MethodName := ⟨RX5, "sent", "(I)I"⟩
abbrev cX5_when : ByteArray := prog_7_method_33_code
def yX5_when : MethodName := ⟨RX5, "when", "(I)I"⟩
abbrev cX5_variable : ByteArray := prog_7_method_34_code
def yX5_variable : MethodName := ⟨RX5, "variable", "(II)J"⟩
abbrev cX5_failure : ByteArray := prog_7_method_35_code
def yX5_failure : MethodName := ⟨RX5, "failure", "(Z)I"⟩
abbrev cX5_has : ByteArray := prog_7_method_36_code
def yX5_has : MethodName := ⟨RX5, "has", "(I)J"⟩
abbrev cX5_tag : ByteArray := prog_7_method_37_code
def yX5_tag : MethodName := ⟨RX5, "tag", "(I)I"⟩
abbrev cX5_now : ByteArray := prog_7_method_38_code
def yX5_now : MethodName := ⟨RX5, "now", "()I"⟩
def RJ9 : String := "java/lang/Math"
def TJ9 : u_T := fun k => match k with
  | _ => ("", "", "", false)
def tyJ9 : Nat → FieldType := fun k => match k with
  | _ => .int
abbrev wsJ90 : List Cond := u_ws RJ9 TJ9 0
theorem nmJ9 : ∀ a, a < 0 → ∀ b, b < 0 → a ≠ b → (TJ9 a).2.1 ≠ (TJ9 b).2.1 := by decide +kernel
theorem tyJ9_ok : ∀ k, k < 0 → parseFieldDescriptor (TJ9 k).2.2.1 = some (tyJ9 k) := by decide +kernel
abbrev cJ9_max_f86c9 : ByteArray := prog_8_method_66_code
def yJ9_max_f86c9 : MethodName := ⟨RJ9, "max", "(JJ)J"⟩
abbrev cJ9_min_7cf53 : ByteArray := prog_8_method_69_code
def yJ9_min_7cf53 : MethodName := ⟨RJ9, "min", "(II)I"⟩
abbrev cJ9_min_f86c9 : ByteArray := prog_8_method_70_code
def yJ9_min_f86c9 : MethodName := ⟨RJ9, "min", "(JJ)J"⟩
def RL : String := "LoopDeviceLaw"
abbrev cL_cell : ByteArray := method_2_code
def yL_cell : MethodName := ⟨RL, "cell", "([II)I"⟩
abbrev cL_law : ByteArray := code
def yL_law : MethodName := ⟨RL, "law", "([I)Z"⟩
def wsX0_init : List Cond := .code yX0_init cX0_init 1 none :: ([.methodLink RX0 3 objectInit, .instanceMethod objectInit, .code objectInit ⟨#[0xb1]⟩ 1 none, .arrayClass .int, .fieldLink RX0 11 "LoopDevice$FrameReader" "address" "[I", .fieldLink RX0 15 "LoopDevice$FrameReader" "data" "[I"] ++ wsX00)
def wsX0_beginAnew : List Cond := .code yX0_beginAnew cX0_beginAnew 1 none :: ([.fieldLink RX0 18 "LoopDevice$FrameReader" "place" "I", .fieldLink RX0 22 "LoopDevice$FrameReader" "preamble" "I"] ++ wsX00)
def wsX0_takeAddress : List Cond := .code yX0_takeAddress cX0_takeAddress 2 none :: ([.fieldLink RX0 60 "LoopDevice$FrameReader" "taken" "I", .fieldLink RX0 11 "LoopDevice$FrameReader" "address" "[I", .fieldLink RX0 57 "LoopDevice$FrameReader" "isLong" "Z", .fieldLink RX0 18 "LoopDevice$FrameReader" "place" "I"] ++ wsX00)
def wsX0_takeCount : List Cond := .code yX0_takeCount cX0_takeCount 2 none :: ([.fieldLink RX0 63 "LoopDevice$FrameReader" "count" "I", .fieldLink RX0 60 "LoopDevice$FrameReader" "taken" "I", .fieldLink RX0 18 "LoopDevice$FrameReader" "place" "I", .methodLink RX0 32 yX0_beginAnew, .instanceMethod yX0_beginAnew, .selects RX0 yX0_beginAnew yX0_beginAnew, .initialized RX0, .code yX0_beginAnew cX0_beginAnew 1 none, .fieldLink RX0 22 "LoopDevice$FrameReader" "preamble" "I"] ++ wsX00)
def wsX0_takeData : List Cond := .code yX0_takeData cX0_takeData 2 none :: ([.fieldLink RX0 60 "LoopDevice$FrameReader" "taken" "I", .fieldLink RX0 15 "LoopDevice$FrameReader" "data" "[I", .fieldLink RX0 63 "LoopDevice$FrameReader" "count" "I", .fieldLink RX0 18 "LoopDevice$FrameReader" "place" "I"] ++ wsX00)
def wsX0_takePreamble : List Cond := .code yX0_takePreamble cX0_takePreamble 3 none :: ([.fieldLink RX0 22 "LoopDevice$FrameReader" "preamble" "I", .methodLink RX0 51 Lib.Math.min.name, .static Lib.Math.min.name, .initialized "java/lang/Math", .code Lib.Math.min.name Lib.Math.min.code 2 (some .int), .fieldLink RX0 57 "LoopDevice$FrameReader" "isLong" "Z", .fieldLink RX0 25 "LoopDevice$FrameReader" "sum" "I", .fieldLink RX0 60 "LoopDevice$FrameReader" "taken" "I", .fieldLink RX0 18 "LoopDevice$FrameReader" "place" "I", .methodLink RX0 32 yX0_beginAnew, .instanceMethod yX0_beginAnew, .selects RX0 yX0_beginAnew yX0_beginAnew, .initialized RX0, .code yX0_beginAnew cX0_beginAnew 1 none] ++ wsX00)
def wsX0_take_r1 : List Cond := [Cond.fieldLink RX0 18 "LoopDevice$FrameReader" "place" "I", Cond.fieldLink RX0 25 "LoopDevice$FrameReader" "sum" "I", Cond.fieldLink RX0 28 "LoopDevice$FrameReader" "sumIsRight" "Z", Cond.fieldLink RX0 39 "LoopDevice$FrameReader" "command" "I", Cond.methodLink RX0 32 yX0_beginAnew, Cond.instanceMethod yX0_beginAnew, Cond.selects RX0 yX0_beginAnew yX0_beginAnew, Cond.initialized RX0, Cond.code yX0_beginAnew cX0_beginAnew 1 none, Cond.fieldLink RX0 22 "LoopDevice$FrameReader" "preamble" "I", Cond.methodLink RX0 35 yX0_takeAddress, Cond.instanceMethod yX0_takeAddress, Cond.selects RX0 yX0_takeAddress yX0_takeAddress, Cond.code yX0_takeAddress cX0_takeAddress 2 none, Cond.fieldLink RX0 60 "LoopDevice$FrameReader" "taken" "I", Cond.fieldLink RX0 11 "LoopDevice$FrameReader" "address" "[I", Cond.fieldLink RX0 57 "LoopDevice$FrameReader" "isLong" "Z", Cond.methodLink RX0 42 yX0_takeCount, Cond.instanceMethod yX0_takeCount, Cond.selects RX0 yX0_takeCount yX0_takeCount, Cond.code yX0_takeCount cX0_takeCount 2 none, Cond.fieldLink RX0 63 "LoopDevice$FrameReader" "count" "I", Cond.methodLink RX0 45 yX0_takeData, Cond.instanceMethod yX0_takeData]
def wsX0_take_r2 : List Cond := [Cond.selects RX0 yX0_takeData yX0_takeData, Cond.code yX0_takeData cX0_takeData 2 none, Cond.fieldLink RX0 15 "LoopDevice$FrameReader" "data" "[I", Cond.methodLink RX0 48 yX0_takePreamble, Cond.instanceMethod yX0_takePreamble, Cond.selects RX0 yX0_takePreamble yX0_takePreamble, Cond.code yX0_takePreamble cX0_takePreamble 3 none, Cond.methodLink RX0 51 Lib.Math.min.name, Cond.static Lib.Math.min.name, Cond.initialized "java/lang/Math", Cond.code Lib.Math.min.name Lib.Math.min.code 2 (some .int)]
def wsX0_take : List Cond := .code yX0_take cX0_take 2 (some .boolean) :: ((wsX0_take_r1 ++ wsX0_take_r2) ++ wsX00)
def wsX0_addressAt : List Cond := .code yX0_addressAt cX0_addressAt 2 (some .int) :: ([.fieldLink RX0 11 "LoopDevice$FrameReader" "address" "[I"] ++ wsX00)
def wsX0_master : List Cond := .code yX0_master cX0_master 1 (some .int) :: ([.methodLink RX0 66 yX0_addressAt, .instanceMethod yX0_addressAt, .selects RX0 yX0_addressAt yX0_addressAt, .initialized RX0, .code yX0_addressAt cX0_addressAt 2 (some .int), .fieldLink RX0 11 "LoopDevice$FrameReader" "address" "[I"] ++ wsX00)
def wsX0_station : List Cond := .code yX0_station cX0_station 1 (some .int) :: ([.methodLink RX0 66 yX0_addressAt, .instanceMethod yX0_addressAt, .selects RX0 yX0_addressAt yX0_addressAt, .initialized RX0, .code yX0_addressAt cX0_addressAt 2 (some .int), .fieldLink RX0 11 "LoopDevice$FrameReader" "address" "[I"] ++ wsX00)
def wsX0_kind : List Cond := .code yX0_kind cX0_kind 1 (some .int) :: ([.methodLink RX0 66 yX0_addressAt, .instanceMethod yX0_addressAt, .selects RX0 yX0_addressAt yX0_addressAt, .initialized RX0, .code yX0_addressAt cX0_addressAt 2 (some .int), .fieldLink RX0 11 "LoopDevice$FrameReader" "address" "[I"] ++ wsX00)
def wsX0_number : List Cond := .code yX0_number cX0_number 1 (some .int) :: ([.methodLink RX0 66 yX0_addressAt, .instanceMethod yX0_addressAt, .selects RX0 yX0_addressAt yX0_addressAt, .initialized RX0, .code yX0_addressAt cX0_addressAt 2 (some .int), .fieldLink RX0 11 "LoopDevice$FrameReader" "address" "[I"] ++ wsX00)
def wsX0_dataAt : List Cond := .code yX0_dataAt cX0_dataAt 2 (some .int) :: ([.fieldLink RX0 63 "LoopDevice$FrameReader" "count" "I", .fieldLink RX0 15 "LoopDevice$FrameReader" "data" "[I"] ++ wsX00)
def wsX0_fourAt : List Cond := .code yX0_fourAt cX0_fourAt 2 (some .int) :: ([.methodLink RX0 70 yX0_dataAt, .instanceMethod yX0_dataAt, .selects RX0 yX0_dataAt yX0_dataAt, .initialized RX0, .code yX0_dataAt cX0_dataAt 2 (some .int), .fieldLink RX0 63 "LoopDevice$FrameReader" "count" "I", .fieldLink RX0 15 "LoopDevice$FrameReader" "data" "[I"] ++ wsX00)
def wsX1_init : List Cond := .code yX1_init cX1_init 1 none :: ([.methodLink RX1 3 objectInit, .instanceMethod objectInit, .code objectInit ⟨#[0xb1]⟩ 1 none, .arrayClass .int, .fieldLink RX1 11 "LoopDevice$FrameWriter" "bytes" "[I"] ++ wsX10)
def wsX1_isBusy : List Cond := .code yX1_isBusy cX1_isBusy 1 (some .boolean) :: ([.fieldLink RX1 15 "LoopDevice$FrameWriter" "next" "I", .fieldLink RX1 19 "LoopDevice$FrameWriter" "length" "I"] ++ wsX10)
def wsX1_add : List Cond := .code yX1_add cX1_add 2 none :: ([.fieldLink RX1 19 "LoopDevice$FrameWriter" "length" "I", .fieldLink RX1 11 "LoopDevice$FrameWriter" "bytes" "[I"] ++ wsX10)
def wsX1_begin : List Cond := .code yX1_begin cX1_begin 3 none :: ([.fieldLink RX1 19 "LoopDevice$FrameWriter" "length" "I", .fieldLink RX1 15 "LoopDevice$FrameWriter" "next" "I", .fieldLink RX1 22 "LoopDevice$FrameWriter" "waits" "Z", .methodLink RX1 26 yX1_add, .instanceMethod yX1_add, .selects RX1 yX1_add yX1_add, .initialized RX1, .code yX1_add cX1_add 2 none, .fieldLink RX1 11 "LoopDevice$FrameWriter" "bytes" "[I"] ++ wsX10)
def wsX1_addFour : List Cond := .code yX1_addFour cX1_addFour 2 none :: ([.methodLink RX1 26 yX1_add, .instanceMethod yX1_add, .selects RX1 yX1_add yX1_add, .initialized RX1, .code yX1_add cX1_add 2 none, .fieldLink RX1 19 "LoopDevice$FrameWriter" "length" "I", .fieldLink RX1 11 "LoopDevice$FrameWriter" "bytes" "[I"] ++ wsX10)
def wsX1_beginCount : List Cond := .code yX1_beginCount cX1_beginCount 1 none :: ([.fieldLink RX1 19 "LoopDevice$FrameWriter" "length" "I", .fieldLink RX1 30 "LoopDevice$FrameWriter" "countPlace" "I", .methodLink RX1 26 yX1_add, .instanceMethod yX1_add, .selects RX1 yX1_add yX1_add, .initialized RX1, .code yX1_add cX1_add 2 none, .fieldLink RX1 11 "LoopDevice$FrameWriter" "bytes" "[I"] ++ wsX10)
def wsX1_end : List Cond := .code yX1_end cX1_end 3 none :: ([.fieldLink RX1 30 "LoopDevice$FrameWriter" "countPlace" "I", .fieldLink RX1 11 "LoopDevice$FrameWriter" "bytes" "[I", .fieldLink RX1 19 "LoopDevice$FrameWriter" "length" "I", .methodLink RX1 26 yX1_add, .instanceMethod yX1_add, .selects RX1 yX1_add yX1_add, .initialized RX1, .code yX1_add cX1_add 2 none] ++ wsX10)
def wsX1_waitOneTick : List Cond := .code yX1_waitOneTick cX1_waitOneTick 1 none :: ([.fieldLink RX1 22 "LoopDevice$FrameWriter" "waits" "Z"] ++ wsX10)
def wsX1_takeNext : List Cond := .code yX1_takeNext cX1_takeNext 2 (some .int) :: ([.fieldLink RX1 22 "LoopDevice$FrameWriter" "waits" "Z", .fieldLink RX1 15 "LoopDevice$FrameWriter" "next" "I", .fieldLink RX1 19 "LoopDevice$FrameWriter" "length" "I", .fieldLink RX1 11 "LoopDevice$FrameWriter" "bytes" "[I"] ++ wsX10)
def wsX2_init : List Cond := .code yX2_init cX2_init 5 none :: ([.methodLink RX2 3 objectInit, .instanceMethod objectInit, .code objectInit ⟨#[0xb1]⟩ 1 none, .fieldLink RX2 9 "LoopDevice$Holdings" "maker" "I", .fieldLink RX2 15 "LoopDevice$Holdings" "kind" "I", .fieldLink RX2 18 "LoopDevice$Holdings" "number" "I", .fieldLink RX2 21 "LoopDevice$Holdings" "upper" "I", .fieldLink RX2 24 "LoopDevice$Holdings" "changed" "I", .fieldLink RX2 27 "LoopDevice$Holdings" "cold" "I", .fieldLink RX2 30 "LoopDevice$Holdings" "burstCommand" "I", .arrayClass .int, .fieldLink RX2 33 "LoopDevice$Holdings" "tagBytes" "[I", .fieldLink RX2 37 "LoopDevice$Holdings" "variables" "[I"] ++ wsX20)
def wsX2_hasLongAddress : List Cond := .code yX2_hasLongAddress cX2_hasLongAddress 4 (some .boolean) :: ([.fieldLink RX2 9 "LoopDevice$Holdings" "maker" "I", .fieldLink RX2 15 "LoopDevice$Holdings" "kind" "I", .fieldLink RX2 18 "LoopDevice$Holdings" "number" "I"] ++ wsX20)
def wsX2_tagByte : List Cond := .code yX2_tagByte cX2_tagByte 2 (some .int) :: ([.fieldLink RX2 33 "LoopDevice$Holdings" "tagBytes" "[I"] ++ wsX20)
def wsX2_setTagByte : List Cond := .code yX2_setTagByte cX2_setTagByte 3 none :: ([.fieldLink RX2 33 "LoopDevice$Holdings" "tagBytes" "[I"] ++ wsX20)
def wsX2_variableAt : List Cond := .code yX2_variableAt cX2_variableAt 2 (some .int) :: ([.fieldLink RX2 37 "LoopDevice$Holdings" "variables" "[I"] ++ wsX20)
def wsX2_setVariable : List Cond := .code yX2_setVariable cX2_setVariable 3 none :: ([.fieldLink RX2 37 "LoopDevice$Holdings" "variables" "[I"] ++ wsX20)
def wsX2_statusFor : List Cond := .code yX2_statusFor cX2_statusFor 4 (some .int) :: ([.fieldLink RX2 44 "LoopDevice$Holdings" "failed" "Z", .fieldLink RX2 24 "LoopDevice$Holdings" "changed" "I", .fieldLink RX2 27 "LoopDevice$Holdings" "cold" "I", .fieldLink RX2 48 "LoopDevice$Holdings" "lower" "I", .fieldLink RX2 21 "LoopDevice$Holdings" "upper" "I", .methodLink RX2 40 yX2_variableAt, .instanceMethod yX2_variableAt, .selects RX2 yX2_variableAt yX2_variableAt, .initialized RX2, .code yX2_variableAt cX2_variableAt 2 (some .int), .fieldLink RX2 37 "LoopDevice$Holdings" "variables" "[I"] ++ wsX20)
def wsX2_level : List Cond := .code yX2_level cX2_level 5 (some .int) :: ([.fieldLink RX2 21 "LoopDevice$Holdings" "upper" "I", .fieldLink RX2 48 "LoopDevice$Holdings" "lower" "I", .constantLong RX2 51 (16000), .constantLong RX2 53 (4000), .constantLong RX2 55 (3800), .constantLong RX2 57 (20500), .methodLink RX2 59 Lib.MathLoose.min_long.x, .static Lib.MathLoose.min_long.x, .initialized "java/lang/Math", .code Lib.MathLoose.min_long.x Lib.MathLoose.min_long.code 4 (some .long), .methodLink RX2 65 Lib.MathLoose.max_long.x, .static Lib.MathLoose.max_long.x, .code Lib.MathLoose.max_long.x Lib.MathLoose.max_long.code 4 (some .long), .methodLink RX2 40 yX2_variableAt, .instanceMethod yX2_variableAt, .selects RX2 yX2_variableAt yX2_variableAt, .initialized RX2, .code yX2_variableAt cX2_variableAt 2 (some .int), .fieldLink RX2 37 "LoopDevice$Holdings" "variables" "[I"] ++ wsX20)
def wsX3_init : List Cond := .code yX3_init cX3_init 1 none :: ([.methodLink RX3 3 objectInit, .instanceMethod objectInit, .code objectInit ⟨#[0xb1]⟩ 1 none, .arrayClass .int, .fieldLink RX3 11 "LoopDevice$SentBytes" "bytes" "[I", .fieldLink RX3 15 "LoopDevice$SentBytes" "ticksOfBytes" "[I"] ++ wsX30)
def wsX3_add : List Cond := .code yX3_add cX3_add 4 none :: ([.fieldLink RX3 18 "LoopDevice$SentBytes" "total" "I", .fieldLink RX3 11 "LoopDevice$SentBytes" "bytes" "[I", .fieldLink RX3 15 "LoopDevice$SentBytes" "ticksOfBytes" "[I"] ++ wsX30)
def wsX3_placeOf : List Cond := .code yX3_placeOf cX3_placeOf 2 (some .int) :: ([.fieldLink RX3 18 "LoopDevice$SentBytes" "total" "I"] ++ wsX30)
def wsX3_byteAt : List Cond := .code yX3_byteAt cX3_byteAt 3 (some .int) :: ([.fieldLink RX3 11 "LoopDevice$SentBytes" "bytes" "[I", .methodLink RX3 22 yX3_placeOf, .instanceMethod yX3_placeOf, .selects RX3 yX3_placeOf yX3_placeOf, .initialized RX3, .code yX3_placeOf cX3_placeOf 2 (some .int), .fieldLink RX3 18 "LoopDevice$SentBytes" "total" "I"] ++ wsX30)
def wsX3_tickAt : List Cond := .code yX3_tickAt cX3_tickAt 3 (some .int) :: ([.fieldLink RX3 15 "LoopDevice$SentBytes" "ticksOfBytes" "[I", .methodLink RX3 22 yX3_placeOf, .instanceMethod yX3_placeOf, .selects RX3 yX3_placeOf yX3_placeOf, .initialized RX3, .code yX3_placeOf cX3_placeOf 2 (some .int), .fieldLink RX3 18 "LoopDevice$SentBytes" "total" "I"] ++ wsX30)
def wsX4_init_r1 : List Cond := [Cond.methodLink RX4 1 objectInit, Cond.instanceMethod objectInit, Cond.code objectInit ⟨#[0xb1]⟩ 1 none, Cond.classLink RX4 7 RX2, Cond.instantiable RX2 14, Cond.initialized RX2, Cond.constant RX4 11 (16777215), Cond.fieldLink RX4 15 "LoopDevice" "holdings" "LLoopDevice$Holdings;", Cond.classLink RX4 19 RX0, Cond.instantiable RX0 10, Cond.initialized RX0, Cond.fieldLink RX4 22 "LoopDevice" "reader" "LLoopDevice$FrameReader;", Cond.classLink RX4 26 RX1, Cond.instantiable RX1 5, Cond.initialized RX1, Cond.fieldLink RX4 29 "LoopDevice" "writer" "LLoopDevice$FrameWriter;", Cond.classLink RX4 33 RX3, Cond.instantiable RX3 3, Cond.initialized RX3, Cond.fieldLink RX4 36 "LoopDevice" "gone" "LLoopDevice$SentBytes;", Cond.methodLink RX4 12 yX2_init, Cond.instanceMethod yX2_init, Cond.code yX2_init cX2_init 5 none, Cond.methodLink RX2 3 objectInit]
def wsX4_init_r2 : List Cond := [Cond.fieldLink RX2 9 "LoopDevice$Holdings" "maker" "I", Cond.fieldLink RX2 15 "LoopDevice$Holdings" "kind" "I", Cond.fieldLink RX2 18 "LoopDevice$Holdings" "number" "I", Cond.fieldLink RX2 21 "LoopDevice$Holdings" "upper" "I", Cond.fieldLink RX2 24 "LoopDevice$Holdings" "changed" "I", Cond.fieldLink RX2 27 "LoopDevice$Holdings" "cold" "I", Cond.fieldLink RX2 30 "LoopDevice$Holdings" "burstCommand" "I", Cond.arrayClass .int, Cond.fieldLink RX2 33 "LoopDevice$Holdings" "tagBytes" "[I", Cond.fieldLink RX2 37 "LoopDevice$Holdings" "variables" "[I", Cond.methodLink RX4 21 yX0_init, Cond.instanceMethod yX0_init, Cond.code yX0_init cX0_init 1 none, Cond.methodLink RX0 3 objectInit, Cond.fieldLink RX0 11 "LoopDevice$FrameReader" "address" "[I", Cond.fieldLink RX0 15 "LoopDevice$FrameReader" "data" "[I", Cond.methodLink RX4 28 yX1_init, Cond.instanceMethod yX1_init, Cond.code yX1_init cX1_init 1 none, Cond.methodLink RX1 3 objectInit, Cond.fieldLink RX1 11 "LoopDevice$FrameWriter" "bytes" "[I", Cond.methodLink RX4 35 yX3_init, Cond.instanceMethod yX3_init, Cond.code yX3_init cX3_init 1 none]
def wsX4_init_r3 : List Cond := [Cond.methodLink RX3 3 objectInit, Cond.fieldLink RX3 11 "LoopDevice$SentBytes" "bytes" "[I", Cond.fieldLink RX3 15 "LoopDevice$SentBytes" "ticksOfBytes" "[I"]
def wsX4_init : List Cond := .code yX4_init cX4_init 4 none :: ((wsX4_init_r1 ++ (wsX4_init_r2 ++ wsX4_init_r3)) ++ wsX20 ++ wsX40 ++ wsX00 ++ wsX10 ++ wsX30)
def wsX4_burstIsDue : List Cond := .code yX4_burstIsDue cX4_burstIsDue 1 (some .boolean) :: ([.fieldLink RX4 15 "LoopDevice" "holdings" "LLoopDevice$Holdings;", .fieldLink RX4 80 "LoopDevice$Holdings" "burstOn" "Z", .fieldLink RX4 134 "LoopDevice" "quietTicks" "I", .fieldLink RX4 29 "LoopDevice" "writer" "LLoopDevice$FrameWriter;", .methodLink RX4 111 yX1_isBusy, .instanceMethod yX1_isBusy, .selects RX1 yX1_isBusy yX1_isBusy, .initialized RX1, .code yX1_isBusy cX1_isBusy 1 (some .boolean), .fieldLink RX1 15 "LoopDevice$FrameWriter" "next" "I", .fieldLink RX1 19 "LoopDevice$FrameWriter" "length" "I"] ++ wsX40 ++ wsX20 ++ wsX10)
def wsX4_addNumber : List Cond := .code yX4_addNumber cX4_addNumber 1 none :: ([.fieldLink RX4 29 "LoopDevice" "writer" "LLoopDevice$FrameWriter;", .fieldLink RX4 15 "LoopDevice" "holdings" "LLoopDevice$Holdings;", .fieldLink RX4 256 "LoopDevice$Holdings" "number" "I", .methodLink RX4 222 yX1_add, .instanceMethod yX1_add, .selects RX1 yX1_add yX1_add, .initialized RX1, .code yX1_add cX1_add 2 none, .fieldLink RX1 19 "LoopDevice$FrameWriter" "length" "I", .fieldLink RX1 11 "LoopDevice$FrameWriter" "bytes" "[I"] ++ wsX40 ++ wsX20 ++ wsX10)
def wsX4_addAddress : List Cond := .code yX4_addAddress cX4_addAddress 4 none :: ([.fieldLink RX4 15 "LoopDevice" "holdings" "LLoopDevice$Holdings;", .fieldLink RX4 80 "LoopDevice$Holdings" "burstOn" "Z", .fieldLink RX4 29 "LoopDevice" "writer" "LLoopDevice$FrameWriter;", .fieldLink RX4 236 "LoopDevice$Holdings" "maker" "I", .fieldLink RX4 239 "LoopDevice$Holdings" "kind" "I", .fieldLink RX4 68 "LoopDevice$Holdings" "shortAddress" "I", .methodLink RX4 222 yX1_add, .instanceMethod yX1_add, .selects RX1 yX1_add yX1_add, .initialized RX1, .code yX1_add cX1_add 2 none, .fieldLink RX1 19 "LoopDevice$FrameWriter" "length" "I", .fieldLink RX1 11 "LoopDevice$FrameWriter" "bytes" "[I", .methodLink RX4 241 yX4_addNumber, .instanceMethod yX4_addNumber, .selects RX4 yX4_addNumber yX4_addNumber, .initialized RX4, .code yX4_addNumber cX4_addNumber 1 none, .fieldLink RX4 256 "LoopDevice$Holdings" "number" "I"] ++ wsX40 ++ wsX20 ++ wsX10)
def wsX4_addIdentity : List Cond := .code yX4_addIdentity cX4_addIdentity 1 none :: ([.fieldLink RX4 29 "LoopDevice" "writer" "LLoopDevice$FrameWriter;", .fieldLink RX4 15 "LoopDevice" "holdings" "LLoopDevice$Holdings;", .fieldLink RX4 236 "LoopDevice$Holdings" "maker" "I", .fieldLink RX4 239 "LoopDevice$Holdings" "kind" "I", .methodLink RX4 222 yX1_add, .instanceMethod yX1_add, .selects RX1 yX1_add yX1_add, .initialized RX1, .code yX1_add cX1_add 2 none, .fieldLink RX1 19 "LoopDevice$FrameWriter" "length" "I", .fieldLink RX1 11 "LoopDevice$FrameWriter" "bytes" "[I", .methodLink RX4 241 yX4_addNumber, .instanceMethod yX4_addNumber, .selects RX4 yX4_addNumber yX4_addNumber, .initialized RX4, .code yX4_addNumber cX4_addNumber 1 none, .fieldLink RX4 256 "LoopDevice$Holdings" "number" "I"] ++ wsX40 ++ wsX20 ++ wsX10)
def wsX4_setsSomething : List Cond := .code yX4_setsSomething cX4_setsSomething 1 (some .boolean) :: ([])
def wsX4_addEcho : List Cond := .code yX4_addEcho cX4_addEcho 3 none :: ([.fieldLink RX4 22 "LoopDevice" "reader" "LLoopDevice$FrameReader;", .fieldLink RX4 190 "LoopDevice$FrameReader" "count" "I", .fieldLink RX4 29 "LoopDevice" "writer" "LLoopDevice$FrameWriter;", .methodLink RX4 212 yX4_setsSomething, .static yX4_setsSomething, .initialized RX4, .code yX4_setsSomething cX4_setsSomething 1 (some .boolean), .methodLink RX4 193 yX0_dataAt, .instanceMethod yX0_dataAt, .selects RX0 yX0_dataAt yX0_dataAt, .initialized RX0, .code yX0_dataAt cX0_dataAt 2 (some .int), .fieldLink RX0 63 "LoopDevice$FrameReader" "count" "I", .fieldLink RX0 15 "LoopDevice$FrameReader" "data" "[I", .methodLink RX4 222 yX1_add, .instanceMethod yX1_add, .selects RX1 yX1_add yX1_add, .initialized RX1, .code yX1_add cX1_add 2 none, .fieldLink RX1 19 "LoopDevice$FrameWriter" "length" "I", .fieldLink RX1 11 "LoopDevice$FrameWriter" "bytes" "[I"] ++ wsX40 ++ wsX00 ++ wsX10)
def wsX4_addData_r1 : List Cond := [Cond.fieldLink RX4 29 "LoopDevice" "writer" "LLoopDevice$FrameWriter;", Cond.fieldLink RX4 15 "LoopDevice" "holdings" "LLoopDevice$Holdings;", Cond.fieldLink RX4 71 "LoopDevice$Holdings" "unit" "I", Cond.fieldLink RX4 64 "LoopDevice$Holdings" "failed" "Z", Cond.fieldLink RX4 86 "LoopDevice" "answers" "I", Cond.methodLink RX4 244 yX4_addIdentity, Cond.instanceMethod yX4_addIdentity, Cond.selects RX4 yX4_addIdentity yX4_addIdentity, Cond.initialized RX4, Cond.code yX4_addIdentity cX4_addIdentity 1 none, Cond.fieldLink RX4 236 "LoopDevice$Holdings" "maker" "I", Cond.fieldLink RX4 239 "LoopDevice$Holdings" "kind" "I", Cond.methodLink RX4 222 yX1_add, Cond.instanceMethod yX1_add, Cond.selects RX1 yX1_add yX1_add, Cond.initialized RX1, Cond.code yX1_add cX1_add 2 none, Cond.fieldLink RX1 19 "LoopDevice$FrameWriter" "length" "I", Cond.fieldLink RX1 11 "LoopDevice$FrameWriter" "bytes" "[I", Cond.methodLink RX4 241 yX4_addNumber, Cond.instanceMethod yX4_addNumber, Cond.selects RX4 yX4_addNumber yX4_addNumber, Cond.code yX4_addNumber cX4_addNumber 1 none, Cond.fieldLink RX4 256 "LoopDevice$Holdings" "number" "I"]
def wsX4_addData_r2 : List Cond := [Cond.methodLink RX4 57 yX2_variableAt, Cond.instanceMethod yX2_variableAt, Cond.selects RX2 yX2_variableAt yX2_variableAt, Cond.initialized RX2, Cond.code yX2_variableAt cX2_variableAt 2 (some .int), Cond.fieldLink RX2 37 "LoopDevice$Holdings" "variables" "[I", Cond.methodLink RX4 247 yX1_addFour, Cond.instanceMethod yX1_addFour, Cond.selects RX1 yX1_addFour yX1_addFour, Cond.code yX1_addFour cX1_addFour 2 none, Cond.methodLink RX1 26 yX1_add, Cond.methodLink RX4 250 yX2_level, Cond.instanceMethod yX2_level, Cond.selects RX2 yX2_level yX2_level, Cond.code yX2_level cX2_level 5 (some .int), Cond.fieldLink RX2 21 "LoopDevice$Holdings" "upper" "I", Cond.fieldLink RX2 48 "LoopDevice$Holdings" "lower" "I", Cond.constantLong RX2 51 (16000), Cond.constantLong RX2 53 (4000), Cond.constantLong RX2 55 (3800), Cond.constantLong RX2 57 (20500), Cond.methodLink RX2 59 Lib.MathLoose.min_long.x, Cond.static Lib.MathLoose.min_long.x, Cond.initialized "java/lang/Math"]
def wsX4_addData_r3 : List Cond := [Cond.code Lib.MathLoose.min_long.x Lib.MathLoose.min_long.code 4 (some .long), Cond.methodLink RX2 65 Lib.MathLoose.max_long.x, Cond.static Lib.MathLoose.max_long.x, Cond.code Lib.MathLoose.max_long.x Lib.MathLoose.max_long.code 4 (some .long), Cond.methodLink RX2 40 yX2_variableAt, Cond.methodLink RX4 98 yX2_tagByte, Cond.instanceMethod yX2_tagByte, Cond.selects RX2 yX2_tagByte yX2_tagByte, Cond.code yX2_tagByte cX2_tagByte 2 (some .int), Cond.fieldLink RX2 33 "LoopDevice$Holdings" "tagBytes" "[I", Cond.methodLink RX4 253 yX4_addEcho, Cond.instanceMethod yX4_addEcho, Cond.selects RX4 yX4_addEcho yX4_addEcho, Cond.code yX4_addEcho cX4_addEcho 3 none, Cond.fieldLink RX4 22 "LoopDevice" "reader" "LLoopDevice$FrameReader;", Cond.fieldLink RX4 190 "LoopDevice$FrameReader" "count" "I", Cond.methodLink RX4 212 yX4_setsSomething, Cond.static yX4_setsSomething, Cond.code yX4_setsSomething cX4_setsSomething 1 (some .boolean), Cond.methodLink RX4 193 yX0_dataAt, Cond.instanceMethod yX0_dataAt, Cond.selects RX0 yX0_dataAt yX0_dataAt, Cond.initialized RX0, Cond.code yX0_dataAt cX0_dataAt 2 (some .int)]
def wsX4_addData_r4 : List Cond := [Cond.fieldLink RX0 63 "LoopDevice$FrameReader" "count" "I", Cond.fieldLink RX0 15 "LoopDevice$FrameReader" "data" "[I"]
def wsX4_addData : List Cond := .code yX4_addData cX4_addData 3 none :: ((wsX4_addData_r1 ++ (wsX4_addData_r2 ++ (wsX4_addData_r3 ++ wsX4_addData_r4))) ++ wsX40 ++ wsX20 ++ wsX10 ++ wsX00)
def wsX4_compose_r1 : List Cond := [Cond.fieldLink RX4 29 "LoopDevice" "writer" "LLoopDevice$FrameWriter;", Cond.fieldLink RX4 15 "LoopDevice" "holdings" "LLoopDevice$Holdings;", Cond.methodLink RX4 215 yX1_begin, Cond.instanceMethod yX1_begin, Cond.selects RX1 yX1_begin yX1_begin, Cond.initialized RX1, Cond.code yX1_begin cX1_begin 3 none, Cond.fieldLink RX1 19 "LoopDevice$FrameWriter" "length" "I", Cond.fieldLink RX1 15 "LoopDevice$FrameWriter" "next" "I", Cond.fieldLink RX1 22 "LoopDevice$FrameWriter" "waits" "Z", Cond.methodLink RX1 26 yX1_add, Cond.instanceMethod yX1_add, Cond.selects RX1 yX1_add yX1_add, Cond.code yX1_add cX1_add 2 none, Cond.fieldLink RX1 11 "LoopDevice$FrameWriter" "bytes" "[I", Cond.methodLink RX4 218 yX4_addAddress, Cond.instanceMethod yX4_addAddress, Cond.selects RX4 yX4_addAddress yX4_addAddress, Cond.initialized RX4, Cond.code yX4_addAddress cX4_addAddress 4 none, Cond.fieldLink RX4 80 "LoopDevice$Holdings" "burstOn" "Z", Cond.fieldLink RX4 236 "LoopDevice$Holdings" "maker" "I", Cond.fieldLink RX4 239 "LoopDevice$Holdings" "kind" "I", Cond.fieldLink RX4 68 "LoopDevice$Holdings" "shortAddress" "I"]
def wsX4_compose_r2 : List Cond := [Cond.methodLink RX4 222 yX1_add, Cond.methodLink RX4 241 yX4_addNumber, Cond.instanceMethod yX4_addNumber, Cond.selects RX4 yX4_addNumber yX4_addNumber, Cond.code yX4_addNumber cX4_addNumber 1 none, Cond.fieldLink RX4 256 "LoopDevice$Holdings" "number" "I", Cond.methodLink RX4 224 yX1_beginCount, Cond.instanceMethod yX1_beginCount, Cond.selects RX1 yX1_beginCount yX1_beginCount, Cond.code yX1_beginCount cX1_beginCount 1 none, Cond.fieldLink RX1 30 "LoopDevice$FrameWriter" "countPlace" "I", Cond.methodLink RX4 227 yX2_statusFor, Cond.instanceMethod yX2_statusFor, Cond.selects RX2 yX2_statusFor yX2_statusFor, Cond.initialized RX2, Cond.code yX2_statusFor cX2_statusFor 4 (some .int), Cond.fieldLink RX2 44 "LoopDevice$Holdings" "failed" "Z", Cond.fieldLink RX2 24 "LoopDevice$Holdings" "changed" "I", Cond.fieldLink RX2 27 "LoopDevice$Holdings" "cold" "I", Cond.fieldLink RX2 48 "LoopDevice$Holdings" "lower" "I", Cond.fieldLink RX2 21 "LoopDevice$Holdings" "upper" "I", Cond.methodLink RX2 40 yX2_variableAt, Cond.instanceMethod yX2_variableAt, Cond.selects RX2 yX2_variableAt yX2_variableAt]
def wsX4_compose_r3 : List Cond := [Cond.code yX2_variableAt cX2_variableAt 2 (some .int), Cond.fieldLink RX2 37 "LoopDevice$Holdings" "variables" "[I", Cond.methodLink RX4 230 yX4_addData, Cond.instanceMethod yX4_addData, Cond.selects RX4 yX4_addData yX4_addData, Cond.code yX4_addData cX4_addData 3 none, Cond.fieldLink RX4 71 "LoopDevice$Holdings" "unit" "I", Cond.fieldLink RX4 64 "LoopDevice$Holdings" "failed" "Z", Cond.fieldLink RX4 86 "LoopDevice" "answers" "I", Cond.methodLink RX4 244 yX4_addIdentity, Cond.instanceMethod yX4_addIdentity, Cond.selects RX4 yX4_addIdentity yX4_addIdentity, Cond.code yX4_addIdentity cX4_addIdentity 1 none, Cond.methodLink RX4 57 yX2_variableAt, Cond.methodLink RX4 247 yX1_addFour, Cond.instanceMethod yX1_addFour, Cond.selects RX1 yX1_addFour yX1_addFour, Cond.code yX1_addFour cX1_addFour 2 none, Cond.methodLink RX4 250 yX2_level, Cond.instanceMethod yX2_level, Cond.selects RX2 yX2_level yX2_level, Cond.code yX2_level cX2_level 5 (some .int), Cond.constantLong RX2 51 (16000), Cond.constantLong RX2 53 (4000)]
def wsX4_compose_r4 : List Cond := [Cond.constantLong RX2 55 (3800), Cond.constantLong RX2 57 (20500), Cond.methodLink RX2 59 Lib.MathLoose.min_long.x, Cond.static Lib.MathLoose.min_long.x, Cond.initialized "java/lang/Math", Cond.code Lib.MathLoose.min_long.x Lib.MathLoose.min_long.code 4 (some .long), Cond.methodLink RX2 65 Lib.MathLoose.max_long.x, Cond.static Lib.MathLoose.max_long.x, Cond.code Lib.MathLoose.max_long.x Lib.MathLoose.max_long.code 4 (some .long), Cond.methodLink RX4 98 yX2_tagByte, Cond.instanceMethod yX2_tagByte, Cond.selects RX2 yX2_tagByte yX2_tagByte, Cond.code yX2_tagByte cX2_tagByte 2 (some .int), Cond.fieldLink RX2 33 "LoopDevice$Holdings" "tagBytes" "[I", Cond.methodLink RX4 253 yX4_addEcho, Cond.instanceMethod yX4_addEcho, Cond.selects RX4 yX4_addEcho yX4_addEcho, Cond.code yX4_addEcho cX4_addEcho 3 none, Cond.fieldLink RX4 22 "LoopDevice" "reader" "LLoopDevice$FrameReader;", Cond.fieldLink RX4 190 "LoopDevice$FrameReader" "count" "I", Cond.methodLink RX4 212 yX4_setsSomething, Cond.static yX4_setsSomething, Cond.code yX4_setsSomething cX4_setsSomething 1 (some .boolean), Cond.methodLink RX4 193 yX0_dataAt]
def wsX4_compose_r5 : List Cond := [Cond.instanceMethod yX0_dataAt, Cond.selects RX0 yX0_dataAt yX0_dataAt, Cond.initialized RX0, Cond.code yX0_dataAt cX0_dataAt 2 (some .int), Cond.fieldLink RX0 63 "LoopDevice$FrameReader" "count" "I", Cond.fieldLink RX0 15 "LoopDevice$FrameReader" "data" "[I", Cond.methodLink RX4 233 yX1_end, Cond.instanceMethod yX1_end, Cond.selects RX1 yX1_end yX1_end, Cond.code yX1_end cX1_end 3 none]
def wsX4_compose : List Cond := .code yX4_compose cX4_compose 5 none :: ((wsX4_compose_r1 ++ (wsX4_compose_r2 ++ (wsX4_compose_r3 ++ (wsX4_compose_r4 ++ wsX4_compose_r5)))) ++ wsX40 ++ wsX10 ++ wsX20 ++ wsX00)
def wsX4_beginBurst_r1 : List Cond := [Cond.fieldLink RX4 89 "LoopDevice" "bursts" "I", Cond.fieldLink RX4 137 "LoopDevice" "burstMaster" "I", Cond.fieldLink RX4 15 "LoopDevice" "holdings" "LLoopDevice$Holdings;", Cond.fieldLink RX4 83 "LoopDevice$Holdings" "burstCommand" "I", Cond.methodLink RX4 140 yX4_compose, Cond.instanceMethod yX4_compose, Cond.selects RX4 yX4_compose yX4_compose, Cond.initialized RX4, Cond.code yX4_compose cX4_compose 5 none, Cond.fieldLink RX4 29 "LoopDevice" "writer" "LLoopDevice$FrameWriter;", Cond.methodLink RX4 215 yX1_begin, Cond.instanceMethod yX1_begin, Cond.selects RX1 yX1_begin yX1_begin, Cond.initialized RX1, Cond.code yX1_begin cX1_begin 3 none, Cond.fieldLink RX1 19 "LoopDevice$FrameWriter" "length" "I", Cond.fieldLink RX1 15 "LoopDevice$FrameWriter" "next" "I", Cond.fieldLink RX1 22 "LoopDevice$FrameWriter" "waits" "Z", Cond.methodLink RX1 26 yX1_add, Cond.instanceMethod yX1_add, Cond.selects RX1 yX1_add yX1_add, Cond.code yX1_add cX1_add 2 none, Cond.fieldLink RX1 11 "LoopDevice$FrameWriter" "bytes" "[I", Cond.methodLink RX4 218 yX4_addAddress]
def wsX4_beginBurst_r2 : List Cond := [Cond.instanceMethod yX4_addAddress, Cond.selects RX4 yX4_addAddress yX4_addAddress, Cond.code yX4_addAddress cX4_addAddress 4 none, Cond.fieldLink RX4 80 "LoopDevice$Holdings" "burstOn" "Z", Cond.fieldLink RX4 236 "LoopDevice$Holdings" "maker" "I", Cond.fieldLink RX4 239 "LoopDevice$Holdings" "kind" "I", Cond.fieldLink RX4 68 "LoopDevice$Holdings" "shortAddress" "I", Cond.methodLink RX4 222 yX1_add, Cond.methodLink RX4 241 yX4_addNumber, Cond.instanceMethod yX4_addNumber, Cond.selects RX4 yX4_addNumber yX4_addNumber, Cond.code yX4_addNumber cX4_addNumber 1 none, Cond.fieldLink RX4 256 "LoopDevice$Holdings" "number" "I", Cond.methodLink RX4 224 yX1_beginCount, Cond.instanceMethod yX1_beginCount, Cond.selects RX1 yX1_beginCount yX1_beginCount, Cond.code yX1_beginCount cX1_beginCount 1 none, Cond.fieldLink RX1 30 "LoopDevice$FrameWriter" "countPlace" "I", Cond.methodLink RX4 227 yX2_statusFor, Cond.instanceMethod yX2_statusFor, Cond.selects RX2 yX2_statusFor yX2_statusFor, Cond.initialized RX2, Cond.code yX2_statusFor cX2_statusFor 4 (some .int), Cond.fieldLink RX2 44 "LoopDevice$Holdings" "failed" "Z"]
def wsX4_beginBurst_r3 : List Cond := [Cond.fieldLink RX2 24 "LoopDevice$Holdings" "changed" "I", Cond.fieldLink RX2 27 "LoopDevice$Holdings" "cold" "I", Cond.fieldLink RX2 48 "LoopDevice$Holdings" "lower" "I", Cond.fieldLink RX2 21 "LoopDevice$Holdings" "upper" "I", Cond.methodLink RX2 40 yX2_variableAt, Cond.instanceMethod yX2_variableAt, Cond.selects RX2 yX2_variableAt yX2_variableAt, Cond.code yX2_variableAt cX2_variableAt 2 (some .int), Cond.fieldLink RX2 37 "LoopDevice$Holdings" "variables" "[I", Cond.methodLink RX4 230 yX4_addData, Cond.instanceMethod yX4_addData, Cond.selects RX4 yX4_addData yX4_addData, Cond.code yX4_addData cX4_addData 3 none, Cond.fieldLink RX4 71 "LoopDevice$Holdings" "unit" "I", Cond.fieldLink RX4 64 "LoopDevice$Holdings" "failed" "Z", Cond.fieldLink RX4 86 "LoopDevice" "answers" "I", Cond.methodLink RX4 244 yX4_addIdentity, Cond.instanceMethod yX4_addIdentity, Cond.selects RX4 yX4_addIdentity yX4_addIdentity, Cond.code yX4_addIdentity cX4_addIdentity 1 none, Cond.methodLink RX4 57 yX2_variableAt, Cond.methodLink RX4 247 yX1_addFour, Cond.instanceMethod yX1_addFour, Cond.selects RX1 yX1_addFour yX1_addFour]
def wsX4_beginBurst_r4 : List Cond := [Cond.code yX1_addFour cX1_addFour 2 none, Cond.methodLink RX4 250 yX2_level, Cond.instanceMethod yX2_level, Cond.selects RX2 yX2_level yX2_level, Cond.code yX2_level cX2_level 5 (some .int), Cond.constantLong RX2 51 (16000), Cond.constantLong RX2 53 (4000), Cond.constantLong RX2 55 (3800), Cond.constantLong RX2 57 (20500), Cond.methodLink RX2 59 Lib.MathLoose.min_long.x, Cond.static Lib.MathLoose.min_long.x, Cond.initialized "java/lang/Math", Cond.code Lib.MathLoose.min_long.x Lib.MathLoose.min_long.code 4 (some .long), Cond.methodLink RX2 65 Lib.MathLoose.max_long.x, Cond.static Lib.MathLoose.max_long.x, Cond.code Lib.MathLoose.max_long.x Lib.MathLoose.max_long.code 4 (some .long), Cond.methodLink RX4 98 yX2_tagByte, Cond.instanceMethod yX2_tagByte, Cond.selects RX2 yX2_tagByte yX2_tagByte, Cond.code yX2_tagByte cX2_tagByte 2 (some .int), Cond.fieldLink RX2 33 "LoopDevice$Holdings" "tagBytes" "[I", Cond.methodLink RX4 253 yX4_addEcho, Cond.instanceMethod yX4_addEcho, Cond.selects RX4 yX4_addEcho yX4_addEcho]
def wsX4_beginBurst_r5 : List Cond := [Cond.code yX4_addEcho cX4_addEcho 3 none, Cond.fieldLink RX4 22 "LoopDevice" "reader" "LLoopDevice$FrameReader;", Cond.fieldLink RX4 190 "LoopDevice$FrameReader" "count" "I", Cond.methodLink RX4 212 yX4_setsSomething, Cond.static yX4_setsSomething, Cond.code yX4_setsSomething cX4_setsSomething 1 (some .boolean), Cond.methodLink RX4 193 yX0_dataAt, Cond.instanceMethod yX0_dataAt, Cond.selects RX0 yX0_dataAt yX0_dataAt, Cond.initialized RX0, Cond.code yX0_dataAt cX0_dataAt 2 (some .int), Cond.fieldLink RX0 63 "LoopDevice$FrameReader" "count" "I", Cond.fieldLink RX0 15 "LoopDevice$FrameReader" "data" "[I", Cond.methodLink RX4 233 yX1_end, Cond.instanceMethod yX1_end, Cond.selects RX1 yX1_end yX1_end, Cond.code yX1_end cX1_end 3 none]
def wsX4_beginBurst : List Cond := .code yX4_beginBurst cX4_beginBurst 1 none :: ((wsX4_beginBurst_r1 ++ (wsX4_beginBurst_r2 ++ (wsX4_beginBurst_r3 ++ (wsX4_beginBurst_r4 ++ wsX4_beginBurst_r5)))) ++ wsX40 ++ wsX20 ++ wsX10 ++ wsX00)
def wsX4_isBroadcast : List Cond := .code yX4_isBroadcast cX4_isBroadcast 1 (some .boolean) :: ([.fieldLink RX4 22 "LoopDevice" "reader" "LLoopDevice$FrameReader;", .fieldLink RX4 150 "LoopDevice$FrameReader" "isLong" "Z", .fieldLink RX4 169 "LoopDevice$FrameReader" "command" "I", .methodLink RX4 153 yX0_station, .instanceMethod yX0_station, .selects RX0 yX0_station yX0_station, .initialized RX0, .code yX0_station cX0_station 1 (some .int), .methodLink RX0 66 yX0_addressAt, .instanceMethod yX0_addressAt, .selects RX0 yX0_addressAt yX0_addressAt, .code yX0_addressAt cX0_addressAt 2 (some .int), .fieldLink RX0 11 "LoopDevice$FrameReader" "address" "[I", .methodLink RX4 159 yX0_kind, .instanceMethod yX0_kind, .selects RX0 yX0_kind yX0_kind, .code yX0_kind cX0_kind 1 (some .int), .methodLink RX4 162 yX0_number, .instanceMethod yX0_number, .selects RX0 yX0_number yX0_number, .code yX0_number cX0_number 1 (some .int)] ++ wsX40 ++ wsX00)
def wsX4_isForDevice_r1 : List Cond := [Cond.fieldLink RX4 22 "LoopDevice" "reader" "LLoopDevice$FrameReader;", Cond.fieldLink RX4 150 "LoopDevice$FrameReader" "isLong" "Z", Cond.fieldLink RX4 15 "LoopDevice" "holdings" "LLoopDevice$Holdings;", Cond.fieldLink RX4 68 "LoopDevice$Holdings" "shortAddress" "I", Cond.methodLink RX4 153 yX0_station, Cond.instanceMethod yX0_station, Cond.selects RX0 yX0_station yX0_station, Cond.initialized RX0, Cond.code yX0_station cX0_station 1 (some .int), Cond.methodLink RX0 66 yX0_addressAt, Cond.instanceMethod yX0_addressAt, Cond.selects RX0 yX0_addressAt yX0_addressAt, Cond.code yX0_addressAt cX0_addressAt 2 (some .int), Cond.fieldLink RX0 11 "LoopDevice$FrameReader" "address" "[I", Cond.methodLink RX4 156 yX4_isBroadcast, Cond.instanceMethod yX4_isBroadcast, Cond.selects RX4 yX4_isBroadcast yX4_isBroadcast, Cond.initialized RX4, Cond.code yX4_isBroadcast cX4_isBroadcast 1 (some .boolean), Cond.fieldLink RX4 169 "LoopDevice$FrameReader" "command" "I", Cond.methodLink RX4 159 yX0_kind, Cond.instanceMethod yX0_kind, Cond.selects RX0 yX0_kind yX0_kind, Cond.code yX0_kind cX0_kind 1 (some .int)]
def wsX4_isForDevice_r2 : List Cond := [Cond.methodLink RX4 162 yX0_number, Cond.instanceMethod yX0_number, Cond.selects RX0 yX0_number yX0_number, Cond.code yX0_number cX0_number 1 (some .int), Cond.methodLink RX4 165 yX2_hasLongAddress, Cond.instanceMethod yX2_hasLongAddress, Cond.selects RX2 yX2_hasLongAddress yX2_hasLongAddress, Cond.initialized RX2, Cond.code yX2_hasLongAddress cX2_hasLongAddress 4 (some .boolean), Cond.fieldLink RX2 9 "LoopDevice$Holdings" "maker" "I", Cond.fieldLink RX2 15 "LoopDevice$Holdings" "kind" "I", Cond.fieldLink RX2 18 "LoopDevice$Holdings" "number" "I"]
def wsX4_isForDevice : List Cond := .code yX4_isForDevice cX4_isForDevice 1 (some .boolean) :: ((wsX4_isForDevice_r1 ++ wsX4_isForDevice_r2) ++ wsX40 ++ wsX00 ++ wsX20)
def wsX4_countFrame_r1 : List Cond := [Cond.fieldLink RX4 22 "LoopDevice" "reader" "LLoopDevice$FrameReader;", Cond.fieldLink RX4 144 "LoopDevice$FrameReader" "sumIsRight" "Z", Cond.fieldLink RX4 92 "LoopDevice" "goodFrames" "I", Cond.fieldLink RX4 95 "LoopDevice" "otherFrames" "I", Cond.methodLink RX4 147 yX4_isForDevice, Cond.instanceMethod yX4_isForDevice, Cond.selects RX4 yX4_isForDevice yX4_isForDevice, Cond.initialized RX4, Cond.code yX4_isForDevice cX4_isForDevice 1 (some .boolean), Cond.fieldLink RX4 150 "LoopDevice$FrameReader" "isLong" "Z", Cond.fieldLink RX4 15 "LoopDevice" "holdings" "LLoopDevice$Holdings;", Cond.fieldLink RX4 68 "LoopDevice$Holdings" "shortAddress" "I", Cond.methodLink RX4 153 yX0_station, Cond.instanceMethod yX0_station, Cond.selects RX0 yX0_station yX0_station, Cond.initialized RX0, Cond.code yX0_station cX0_station 1 (some .int), Cond.methodLink RX0 66 yX0_addressAt, Cond.instanceMethod yX0_addressAt, Cond.selects RX0 yX0_addressAt yX0_addressAt, Cond.code yX0_addressAt cX0_addressAt 2 (some .int), Cond.fieldLink RX0 11 "LoopDevice$FrameReader" "address" "[I", Cond.methodLink RX4 156 yX4_isBroadcast, Cond.instanceMethod yX4_isBroadcast]
def wsX4_countFrame_r2 : List Cond := [Cond.selects RX4 yX4_isBroadcast yX4_isBroadcast, Cond.code yX4_isBroadcast cX4_isBroadcast 1 (some .boolean), Cond.fieldLink RX4 169 "LoopDevice$FrameReader" "command" "I", Cond.methodLink RX4 159 yX0_kind, Cond.instanceMethod yX0_kind, Cond.selects RX0 yX0_kind yX0_kind, Cond.code yX0_kind cX0_kind 1 (some .int), Cond.methodLink RX4 162 yX0_number, Cond.instanceMethod yX0_number, Cond.selects RX0 yX0_number yX0_number, Cond.code yX0_number cX0_number 1 (some .int), Cond.methodLink RX4 165 yX2_hasLongAddress, Cond.instanceMethod yX2_hasLongAddress, Cond.selects RX2 yX2_hasLongAddress yX2_hasLongAddress, Cond.initialized RX2, Cond.code yX2_hasLongAddress cX2_hasLongAddress 4 (some .boolean), Cond.fieldLink RX2 9 "LoopDevice$Holdings" "maker" "I", Cond.fieldLink RX2 15 "LoopDevice$Holdings" "kind" "I", Cond.fieldLink RX2 18 "LoopDevice$Holdings" "number" "I"]
def wsX4_countFrame : List Cond := .code yX4_countFrame cX4_countFrame 2 (some .boolean) :: ((wsX4_countFrame_r1 ++ wsX4_countFrame_r2) ++ wsX40 ++ wsX00 ++ wsX20)
def wsX4_countOfCommand : List Cond := .code yX4_countOfCommand cX4_countOfCommand 1 (some .int) :: ([])
def wsX4_tagIsInFrame : List Cond := .code yX4_tagIsInFrame cX4_tagIsInFrame 2 (some .boolean) :: ([.fieldLink RX4 22 "LoopDevice" "reader" "LLoopDevice$FrameReader;", .fieldLink RX4 15 "LoopDevice" "holdings" "LLoopDevice$Holdings;", .methodLink RX4 193 yX0_dataAt, .instanceMethod yX0_dataAt, .selects RX0 yX0_dataAt yX0_dataAt, .initialized RX0, .code yX0_dataAt cX0_dataAt 2 (some .int), .fieldLink RX0 63 "LoopDevice$FrameReader" "count" "I", .fieldLink RX0 15 "LoopDevice$FrameReader" "data" "[I", .methodLink RX4 98 yX2_tagByte, .instanceMethod yX2_tagByte, .selects RX2 yX2_tagByte yX2_tagByte, .initialized RX2, .code yX2_tagByte cX2_tagByte 2 (some .int), .fieldLink RX2 33 "LoopDevice$Holdings" "tagBytes" "[I"] ++ wsX40 ++ wsX00 ++ wsX20)
def wsX4_codeOfEnds : List Cond := .code yX4_codeOfEnds cX4_codeOfEnds 2 (some .int) :: ([])
def wsX4_codeOfFrame_r1 : List Cond := [Cond.fieldLink RX4 22 "LoopDevice" "reader" "LLoopDevice$FrameReader;", Cond.fieldLink RX4 169 "LoopDevice$FrameReader" "command" "I", Cond.fieldLink RX4 190 "LoopDevice$FrameReader" "count" "I", Cond.methodLink RX4 187 yX4_countOfCommand, Cond.static yX4_countOfCommand, Cond.initialized RX4, Cond.code yX4_countOfCommand cX4_countOfCommand 1 (some .int), Cond.methodLink RX4 193 yX0_dataAt, Cond.instanceMethod yX0_dataAt, Cond.selects RX0 yX0_dataAt yX0_dataAt, Cond.initialized RX0, Cond.code yX0_dataAt cX0_dataAt 2 (some .int), Cond.fieldLink RX0 63 "LoopDevice$FrameReader" "count" "I", Cond.fieldLink RX0 15 "LoopDevice$FrameReader" "data" "[I", Cond.methodLink RX4 196 yX4_tagIsInFrame, Cond.instanceMethod yX4_tagIsInFrame, Cond.selects RX4 yX4_tagIsInFrame yX4_tagIsInFrame, Cond.code yX4_tagIsInFrame cX4_tagIsInFrame 2 (some .boolean), Cond.fieldLink RX4 15 "LoopDevice" "holdings" "LLoopDevice$Holdings;", Cond.methodLink RX4 98 yX2_tagByte, Cond.instanceMethod yX2_tagByte, Cond.selects RX2 yX2_tagByte yX2_tagByte, Cond.initialized RX2, Cond.code yX2_tagByte cX2_tagByte 2 (some .int)]
def wsX4_codeOfFrame_r2 : List Cond := [Cond.fieldLink RX2 33 "LoopDevice$Holdings" "tagBytes" "[I", Cond.methodLink RX4 199 yX0_fourAt, Cond.instanceMethod yX0_fourAt, Cond.selects RX0 yX0_fourAt yX0_fourAt, Cond.code yX0_fourAt cX0_fourAt 2 (some .int), Cond.methodLink RX0 70 yX0_dataAt, Cond.methodLink RX4 202 yX4_codeOfEnds, Cond.static yX4_codeOfEnds, Cond.code yX4_codeOfEnds cX4_codeOfEnds 2 (some .int)]
def wsX4_codeOfFrame : List Cond := .code yX4_codeOfFrame cX4_codeOfFrame 3 (some .int) :: ((wsX4_codeOfFrame_r1 ++ wsX4_codeOfFrame_r2) ++ wsX40 ++ wsX00 ++ wsX20)
def wsX4_carryOut_r1 : List Cond := [Cond.fieldLink RX4 15 "LoopDevice" "holdings" "LLoopDevice$Holdings;", Cond.fieldLink RX4 22 "LoopDevice" "reader" "LLoopDevice$FrameReader;", Cond.fieldLink RX4 68 "LoopDevice$Holdings" "shortAddress" "I", Cond.fieldLink RX4 71 "LoopDevice$Holdings" "unit" "I", Cond.fieldLink RX4 77 "LoopDevice$Holdings" "upper" "I", Cond.fieldLink RX4 74 "LoopDevice$Holdings" "lower" "I", Cond.fieldLink RX4 83 "LoopDevice$Holdings" "burstCommand" "I", Cond.fieldLink RX4 80 "LoopDevice$Holdings" "burstOn" "Z", Cond.fieldLink RX4 209 "LoopDevice$Holdings" "changed" "I", Cond.methodLink RX4 193 yX0_dataAt, Cond.instanceMethod yX0_dataAt, Cond.selects RX0 yX0_dataAt yX0_dataAt, Cond.initialized RX0, Cond.code yX0_dataAt cX0_dataAt 2 (some .int), Cond.fieldLink RX0 63 "LoopDevice$FrameReader" "count" "I", Cond.fieldLink RX0 15 "LoopDevice$FrameReader" "data" "[I", Cond.methodLink RX4 206 yX2_setTagByte, Cond.instanceMethod yX2_setTagByte, Cond.selects RX2 yX2_setTagByte yX2_setTagByte, Cond.initialized RX2, Cond.code yX2_setTagByte cX2_setTagByte 3 none, Cond.fieldLink RX2 33 "LoopDevice$Holdings" "tagBytes" "[I", Cond.methodLink RX4 199 yX0_fourAt, Cond.instanceMethod yX0_fourAt]
def wsX4_carryOut_r2 : List Cond := [Cond.selects RX0 yX0_fourAt yX0_fourAt, Cond.code yX0_fourAt cX0_fourAt 2 (some .int), Cond.methodLink RX0 70 yX0_dataAt, Cond.methodLink RX4 212 yX4_setsSomething, Cond.static yX4_setsSomething, Cond.initialized RX4, Cond.code yX4_setsSomething cX4_setsSomething 1 (some .boolean)]
def wsX4_carryOut : List Cond := .code yX4_carryOut cX4_carryOut 4 none :: ((wsX4_carryOut_r1 ++ wsX4_carryOut_r2) ++ wsX40 ++ wsX20 ++ wsX00)
def wsX4_answerFrame_r1 : List Cond := [Cond.fieldLink RX4 86 "LoopDevice" "answers" "I", Cond.fieldLink RX4 22 "LoopDevice" "reader" "LLoopDevice$FrameReader;", Cond.fieldLink RX4 169 "LoopDevice$FrameReader" "command" "I", Cond.fieldLink RX4 150 "LoopDevice$FrameReader" "isLong" "Z", Cond.fieldLink RX4 29 "LoopDevice" "writer" "LLoopDevice$FrameWriter;", Cond.fieldLink RX4 15 "LoopDevice" "holdings" "LLoopDevice$Holdings;", Cond.fieldLink RX4 184 "LoopDevice$Holdings" "cold" "I", Cond.methodLink RX4 172 yX4_codeOfFrame, Cond.instanceMethod yX4_codeOfFrame, Cond.selects RX4 yX4_codeOfFrame yX4_codeOfFrame, Cond.initialized RX4, Cond.code yX4_codeOfFrame cX4_codeOfFrame 3 (some .int), Cond.fieldLink RX4 190 "LoopDevice$FrameReader" "count" "I", Cond.methodLink RX4 187 yX4_countOfCommand, Cond.static yX4_countOfCommand, Cond.code yX4_countOfCommand cX4_countOfCommand 1 (some .int), Cond.methodLink RX4 193 yX0_dataAt, Cond.instanceMethod yX0_dataAt, Cond.selects RX0 yX0_dataAt yX0_dataAt, Cond.initialized RX0, Cond.code yX0_dataAt cX0_dataAt 2 (some .int), Cond.fieldLink RX0 63 "LoopDevice$FrameReader" "count" "I", Cond.fieldLink RX0 15 "LoopDevice$FrameReader" "data" "[I", Cond.methodLink RX4 196 yX4_tagIsInFrame]
def wsX4_answerFrame_r2 : List Cond := [Cond.instanceMethod yX4_tagIsInFrame, Cond.selects RX4 yX4_tagIsInFrame yX4_tagIsInFrame, Cond.code yX4_tagIsInFrame cX4_tagIsInFrame 2 (some .boolean), Cond.methodLink RX4 98 yX2_tagByte, Cond.instanceMethod yX2_tagByte, Cond.selects RX2 yX2_tagByte yX2_tagByte, Cond.initialized RX2, Cond.code yX2_tagByte cX2_tagByte 2 (some .int), Cond.fieldLink RX2 33 "LoopDevice$Holdings" "tagBytes" "[I", Cond.methodLink RX4 199 yX0_fourAt, Cond.instanceMethod yX0_fourAt, Cond.selects RX0 yX0_fourAt yX0_fourAt, Cond.code yX0_fourAt cX0_fourAt 2 (some .int), Cond.methodLink RX0 70 yX0_dataAt, Cond.methodLink RX4 202 yX4_codeOfEnds, Cond.static yX4_codeOfEnds, Cond.code yX4_codeOfEnds cX4_codeOfEnds 2 (some .int), Cond.methodLink RX4 156 yX4_isBroadcast, Cond.instanceMethod yX4_isBroadcast, Cond.selects RX4 yX4_isBroadcast yX4_isBroadcast, Cond.code yX4_isBroadcast cX4_isBroadcast 1 (some .boolean), Cond.methodLink RX4 153 yX0_station, Cond.instanceMethod yX0_station, Cond.selects RX0 yX0_station yX0_station]
def wsX4_answerFrame_r3 : List Cond := [Cond.code yX0_station cX0_station 1 (some .int), Cond.methodLink RX0 66 yX0_addressAt, Cond.instanceMethod yX0_addressAt, Cond.selects RX0 yX0_addressAt yX0_addressAt, Cond.code yX0_addressAt cX0_addressAt 2 (some .int), Cond.fieldLink RX0 11 "LoopDevice$FrameReader" "address" "[I", Cond.methodLink RX4 159 yX0_kind, Cond.instanceMethod yX0_kind, Cond.selects RX0 yX0_kind yX0_kind, Cond.code yX0_kind cX0_kind 1 (some .int), Cond.methodLink RX4 162 yX0_number, Cond.instanceMethod yX0_number, Cond.selects RX0 yX0_number yX0_number, Cond.code yX0_number cX0_number 1 (some .int), Cond.methodLink RX4 175 yX0_master, Cond.instanceMethod yX0_master, Cond.selects RX0 yX0_master yX0_master, Cond.code yX0_master cX0_master 1 (some .int), Cond.methodLink RX4 178 yX4_carryOut, Cond.instanceMethod yX4_carryOut, Cond.selects RX4 yX4_carryOut yX4_carryOut, Cond.code yX4_carryOut cX4_carryOut 4 none, Cond.fieldLink RX4 68 "LoopDevice$Holdings" "shortAddress" "I", Cond.fieldLink RX4 71 "LoopDevice$Holdings" "unit" "I"]
def wsX4_answerFrame_r4 : List Cond := [Cond.fieldLink RX4 77 "LoopDevice$Holdings" "upper" "I", Cond.fieldLink RX4 74 "LoopDevice$Holdings" "lower" "I", Cond.fieldLink RX4 83 "LoopDevice$Holdings" "burstCommand" "I", Cond.fieldLink RX4 80 "LoopDevice$Holdings" "burstOn" "Z", Cond.fieldLink RX4 209 "LoopDevice$Holdings" "changed" "I", Cond.methodLink RX4 206 yX2_setTagByte, Cond.instanceMethod yX2_setTagByte, Cond.selects RX2 yX2_setTagByte yX2_setTagByte, Cond.code yX2_setTagByte cX2_setTagByte 3 none, Cond.methodLink RX4 212 yX4_setsSomething, Cond.static yX4_setsSomething, Cond.code yX4_setsSomething cX4_setsSomething 1 (some .boolean), Cond.methodLink RX4 140 yX4_compose, Cond.instanceMethod yX4_compose, Cond.selects RX4 yX4_compose yX4_compose, Cond.code yX4_compose cX4_compose 5 none, Cond.methodLink RX4 215 yX1_begin, Cond.instanceMethod yX1_begin, Cond.selects RX1 yX1_begin yX1_begin, Cond.initialized RX1, Cond.code yX1_begin cX1_begin 3 none, Cond.fieldLink RX1 19 "LoopDevice$FrameWriter" "length" "I", Cond.fieldLink RX1 15 "LoopDevice$FrameWriter" "next" "I", Cond.fieldLink RX1 22 "LoopDevice$FrameWriter" "waits" "Z"]
def wsX4_answerFrame_r5 : List Cond := [Cond.methodLink RX1 26 yX1_add, Cond.instanceMethod yX1_add, Cond.selects RX1 yX1_add yX1_add, Cond.code yX1_add cX1_add 2 none, Cond.fieldLink RX1 11 "LoopDevice$FrameWriter" "bytes" "[I", Cond.methodLink RX4 218 yX4_addAddress, Cond.instanceMethod yX4_addAddress, Cond.selects RX4 yX4_addAddress yX4_addAddress, Cond.code yX4_addAddress cX4_addAddress 4 none, Cond.fieldLink RX4 236 "LoopDevice$Holdings" "maker" "I", Cond.fieldLink RX4 239 "LoopDevice$Holdings" "kind" "I", Cond.methodLink RX4 222 yX1_add, Cond.methodLink RX4 241 yX4_addNumber, Cond.instanceMethod yX4_addNumber, Cond.selects RX4 yX4_addNumber yX4_addNumber, Cond.code yX4_addNumber cX4_addNumber 1 none, Cond.fieldLink RX4 256 "LoopDevice$Holdings" "number" "I", Cond.methodLink RX4 224 yX1_beginCount, Cond.instanceMethod yX1_beginCount, Cond.selects RX1 yX1_beginCount yX1_beginCount, Cond.code yX1_beginCount cX1_beginCount 1 none, Cond.fieldLink RX1 30 "LoopDevice$FrameWriter" "countPlace" "I", Cond.methodLink RX4 227 yX2_statusFor, Cond.instanceMethod yX2_statusFor]
def wsX4_answerFrame_r6 : List Cond := [Cond.selects RX2 yX2_statusFor yX2_statusFor, Cond.code yX2_statusFor cX2_statusFor 4 (some .int), Cond.fieldLink RX2 44 "LoopDevice$Holdings" "failed" "Z", Cond.fieldLink RX2 24 "LoopDevice$Holdings" "changed" "I", Cond.fieldLink RX2 27 "LoopDevice$Holdings" "cold" "I", Cond.fieldLink RX2 48 "LoopDevice$Holdings" "lower" "I", Cond.fieldLink RX2 21 "LoopDevice$Holdings" "upper" "I", Cond.methodLink RX2 40 yX2_variableAt, Cond.instanceMethod yX2_variableAt, Cond.selects RX2 yX2_variableAt yX2_variableAt, Cond.code yX2_variableAt cX2_variableAt 2 (some .int), Cond.fieldLink RX2 37 "LoopDevice$Holdings" "variables" "[I", Cond.methodLink RX4 230 yX4_addData, Cond.instanceMethod yX4_addData, Cond.selects RX4 yX4_addData yX4_addData, Cond.code yX4_addData cX4_addData 3 none, Cond.fieldLink RX4 64 "LoopDevice$Holdings" "failed" "Z", Cond.methodLink RX4 244 yX4_addIdentity, Cond.instanceMethod yX4_addIdentity, Cond.selects RX4 yX4_addIdentity yX4_addIdentity, Cond.code yX4_addIdentity cX4_addIdentity 1 none, Cond.methodLink RX4 57 yX2_variableAt, Cond.methodLink RX4 247 yX1_addFour, Cond.instanceMethod yX1_addFour]
def wsX4_answerFrame_r7 : List Cond := [Cond.selects RX1 yX1_addFour yX1_addFour, Cond.code yX1_addFour cX1_addFour 2 none, Cond.methodLink RX4 250 yX2_level, Cond.instanceMethod yX2_level, Cond.selects RX2 yX2_level yX2_level, Cond.code yX2_level cX2_level 5 (some .int), Cond.constantLong RX2 51 (16000), Cond.constantLong RX2 53 (4000), Cond.constantLong RX2 55 (3800), Cond.constantLong RX2 57 (20500), Cond.methodLink RX2 59 Lib.MathLoose.min_long.x, Cond.static Lib.MathLoose.min_long.x, Cond.initialized "java/lang/Math", Cond.code Lib.MathLoose.min_long.x Lib.MathLoose.min_long.code 4 (some .long), Cond.methodLink RX2 65 Lib.MathLoose.max_long.x, Cond.static Lib.MathLoose.max_long.x, Cond.code Lib.MathLoose.max_long.x Lib.MathLoose.max_long.code 4 (some .long), Cond.methodLink RX4 253 yX4_addEcho, Cond.instanceMethod yX4_addEcho, Cond.selects RX4 yX4_addEcho yX4_addEcho, Cond.code yX4_addEcho cX4_addEcho 3 none, Cond.methodLink RX4 233 yX1_end, Cond.instanceMethod yX1_end, Cond.selects RX1 yX1_end yX1_end]
def wsX4_answerFrame_r8 : List Cond := [Cond.code yX1_end cX1_end 3 none, Cond.methodLink RX4 181 yX1_waitOneTick, Cond.instanceMethod yX1_waitOneTick, Cond.selects RX1 yX1_waitOneTick yX1_waitOneTick, Cond.code yX1_waitOneTick cX1_waitOneTick 1 none]
def wsX4_answerFrame : List Cond := .code yX4_answerFrame cX4_answerFrame 3 none :: ((wsX4_answerFrame_r1 ++ (wsX4_answerFrame_r2 ++ (wsX4_answerFrame_r3 ++ (wsX4_answerFrame_r4 ++ (wsX4_answerFrame_r5 ++ (wsX4_answerFrame_r6 ++ (wsX4_answerFrame_r7 ++ wsX4_answerFrame_r8))))))) ++ wsX40 ++ wsX00 ++ wsX20 ++ wsX10)
def wsX4_passTick_r1 : List Cond := [Cond.fieldLink RX4 29 "LoopDevice" "writer" "LLoopDevice$FrameWriter;", Cond.fieldLink RX4 36 "LoopDevice" "gone" "LLoopDevice$SentBytes;", Cond.fieldLink RX4 101 "LoopDevice" "ticks" "I", Cond.fieldLink RX4 22 "LoopDevice" "reader" "LLoopDevice$FrameReader;", Cond.fieldLink RX4 134 "LoopDevice" "quietTicks" "I", Cond.methodLink RX4 104 yX4_burstIsDue, Cond.instanceMethod yX4_burstIsDue, Cond.selects RX4 yX4_burstIsDue yX4_burstIsDue, Cond.initialized RX4, Cond.code yX4_burstIsDue cX4_burstIsDue 1 (some .boolean), Cond.fieldLink RX4 15 "LoopDevice" "holdings" "LLoopDevice$Holdings;", Cond.fieldLink RX4 80 "LoopDevice$Holdings" "burstOn" "Z", Cond.methodLink RX4 111 yX1_isBusy, Cond.instanceMethod yX1_isBusy, Cond.selects RX1 yX1_isBusy yX1_isBusy, Cond.initialized RX1, Cond.code yX1_isBusy cX1_isBusy 1 (some .boolean), Cond.fieldLink RX1 15 "LoopDevice$FrameWriter" "next" "I", Cond.fieldLink RX1 19 "LoopDevice$FrameWriter" "length" "I", Cond.methodLink RX4 108 yX4_beginBurst, Cond.instanceMethod yX4_beginBurst, Cond.selects RX4 yX4_beginBurst yX4_beginBurst, Cond.code yX4_beginBurst cX4_beginBurst 1 none, Cond.fieldLink RX4 89 "LoopDevice" "bursts" "I"]
def wsX4_passTick_r2 : List Cond := [Cond.fieldLink RX4 137 "LoopDevice" "burstMaster" "I", Cond.fieldLink RX4 83 "LoopDevice$Holdings" "burstCommand" "I", Cond.methodLink RX4 140 yX4_compose, Cond.instanceMethod yX4_compose, Cond.selects RX4 yX4_compose yX4_compose, Cond.code yX4_compose cX4_compose 5 none, Cond.methodLink RX4 215 yX1_begin, Cond.instanceMethod yX1_begin, Cond.selects RX1 yX1_begin yX1_begin, Cond.code yX1_begin cX1_begin 3 none, Cond.fieldLink RX1 22 "LoopDevice$FrameWriter" "waits" "Z", Cond.methodLink RX1 26 yX1_add, Cond.instanceMethod yX1_add, Cond.selects RX1 yX1_add yX1_add, Cond.code yX1_add cX1_add 2 none, Cond.fieldLink RX1 11 "LoopDevice$FrameWriter" "bytes" "[I", Cond.methodLink RX4 218 yX4_addAddress, Cond.instanceMethod yX4_addAddress, Cond.selects RX4 yX4_addAddress yX4_addAddress, Cond.code yX4_addAddress cX4_addAddress 4 none, Cond.fieldLink RX4 236 "LoopDevice$Holdings" "maker" "I", Cond.fieldLink RX4 239 "LoopDevice$Holdings" "kind" "I", Cond.fieldLink RX4 68 "LoopDevice$Holdings" "shortAddress" "I", Cond.methodLink RX4 222 yX1_add]
def wsX4_passTick_r3 : List Cond := [Cond.methodLink RX4 241 yX4_addNumber, Cond.instanceMethod yX4_addNumber, Cond.selects RX4 yX4_addNumber yX4_addNumber, Cond.code yX4_addNumber cX4_addNumber 1 none, Cond.fieldLink RX4 256 "LoopDevice$Holdings" "number" "I", Cond.methodLink RX4 224 yX1_beginCount, Cond.instanceMethod yX1_beginCount, Cond.selects RX1 yX1_beginCount yX1_beginCount, Cond.code yX1_beginCount cX1_beginCount 1 none, Cond.fieldLink RX1 30 "LoopDevice$FrameWriter" "countPlace" "I", Cond.methodLink RX4 227 yX2_statusFor, Cond.instanceMethod yX2_statusFor, Cond.selects RX2 yX2_statusFor yX2_statusFor, Cond.initialized RX2, Cond.code yX2_statusFor cX2_statusFor 4 (some .int), Cond.fieldLink RX2 44 "LoopDevice$Holdings" "failed" "Z", Cond.fieldLink RX2 24 "LoopDevice$Holdings" "changed" "I", Cond.fieldLink RX2 27 "LoopDevice$Holdings" "cold" "I", Cond.fieldLink RX2 48 "LoopDevice$Holdings" "lower" "I", Cond.fieldLink RX2 21 "LoopDevice$Holdings" "upper" "I", Cond.methodLink RX2 40 yX2_variableAt, Cond.instanceMethod yX2_variableAt, Cond.selects RX2 yX2_variableAt yX2_variableAt, Cond.code yX2_variableAt cX2_variableAt 2 (some .int)]
def wsX4_passTick_r4 : List Cond := [Cond.fieldLink RX2 37 "LoopDevice$Holdings" "variables" "[I", Cond.methodLink RX4 230 yX4_addData, Cond.instanceMethod yX4_addData, Cond.selects RX4 yX4_addData yX4_addData, Cond.code yX4_addData cX4_addData 3 none, Cond.fieldLink RX4 71 "LoopDevice$Holdings" "unit" "I", Cond.fieldLink RX4 64 "LoopDevice$Holdings" "failed" "Z", Cond.fieldLink RX4 86 "LoopDevice" "answers" "I", Cond.methodLink RX4 244 yX4_addIdentity, Cond.instanceMethod yX4_addIdentity, Cond.selects RX4 yX4_addIdentity yX4_addIdentity, Cond.code yX4_addIdentity cX4_addIdentity 1 none, Cond.methodLink RX4 57 yX2_variableAt, Cond.methodLink RX4 247 yX1_addFour, Cond.instanceMethod yX1_addFour, Cond.selects RX1 yX1_addFour yX1_addFour, Cond.code yX1_addFour cX1_addFour 2 none, Cond.methodLink RX4 250 yX2_level, Cond.instanceMethod yX2_level, Cond.selects RX2 yX2_level yX2_level, Cond.code yX2_level cX2_level 5 (some .int), Cond.constantLong RX2 51 (16000), Cond.constantLong RX2 53 (4000), Cond.constantLong RX2 55 (3800)]
def wsX4_passTick_r5 : List Cond := [Cond.constantLong RX2 57 (20500), Cond.methodLink RX2 59 Lib.MathLoose.min_long.x, Cond.static Lib.MathLoose.min_long.x, Cond.initialized "java/lang/Math", Cond.code Lib.MathLoose.min_long.x Lib.MathLoose.min_long.code 4 (some .long), Cond.methodLink RX2 65 Lib.MathLoose.max_long.x, Cond.static Lib.MathLoose.max_long.x, Cond.code Lib.MathLoose.max_long.x Lib.MathLoose.max_long.code 4 (some .long), Cond.methodLink RX4 98 yX2_tagByte, Cond.instanceMethod yX2_tagByte, Cond.selects RX2 yX2_tagByte yX2_tagByte, Cond.code yX2_tagByte cX2_tagByte 2 (some .int), Cond.fieldLink RX2 33 "LoopDevice$Holdings" "tagBytes" "[I", Cond.methodLink RX4 253 yX4_addEcho, Cond.instanceMethod yX4_addEcho, Cond.selects RX4 yX4_addEcho yX4_addEcho, Cond.code yX4_addEcho cX4_addEcho 3 none, Cond.fieldLink RX4 190 "LoopDevice$FrameReader" "count" "I", Cond.methodLink RX4 212 yX4_setsSomething, Cond.static yX4_setsSomething, Cond.code yX4_setsSomething cX4_setsSomething 1 (some .boolean), Cond.methodLink RX4 193 yX0_dataAt, Cond.instanceMethod yX0_dataAt, Cond.selects RX0 yX0_dataAt yX0_dataAt]
def wsX4_passTick_r6 : List Cond := [Cond.initialized RX0, Cond.code yX0_dataAt cX0_dataAt 2 (some .int), Cond.fieldLink RX0 63 "LoopDevice$FrameReader" "count" "I", Cond.fieldLink RX0 15 "LoopDevice$FrameReader" "data" "[I", Cond.methodLink RX4 233 yX1_end, Cond.instanceMethod yX1_end, Cond.selects RX1 yX1_end yX1_end, Cond.code yX1_end cX1_end 3 none, Cond.methodLink RX4 114 yX1_takeNext, Cond.instanceMethod yX1_takeNext, Cond.selects RX1 yX1_takeNext yX1_takeNext, Cond.code yX1_takeNext cX1_takeNext 2 (some .int), Cond.methodLink RX4 118 yX3_add, Cond.instanceMethod yX3_add, Cond.selects RX3 yX3_add yX3_add, Cond.initialized RX3, Cond.code yX3_add cX3_add 4 none, Cond.fieldLink RX3 18 "LoopDevice$SentBytes" "total" "I", Cond.fieldLink RX3 11 "LoopDevice$SentBytes" "bytes" "[I", Cond.fieldLink RX3 15 "LoopDevice$SentBytes" "ticksOfBytes" "[I", Cond.methodLink RX4 121 yX0_beginAnew, Cond.instanceMethod yX0_beginAnew, Cond.selects RX0 yX0_beginAnew yX0_beginAnew, Cond.code yX0_beginAnew cX0_beginAnew 1 none]
def wsX4_passTick_r7 : List Cond := [Cond.fieldLink RX0 18 "LoopDevice$FrameReader" "place" "I", Cond.fieldLink RX0 22 "LoopDevice$FrameReader" "preamble" "I", Cond.methodLink RX4 124 yX0_take, Cond.instanceMethod yX0_take, Cond.selects RX0 yX0_take yX0_take, Cond.code yX0_take cX0_take 2 (some .boolean), Cond.fieldLink RX0 25 "LoopDevice$FrameReader" "sum" "I", Cond.fieldLink RX0 28 "LoopDevice$FrameReader" "sumIsRight" "Z", Cond.fieldLink RX0 39 "LoopDevice$FrameReader" "command" "I", Cond.methodLink RX0 32 yX0_beginAnew, Cond.methodLink RX0 35 yX0_takeAddress, Cond.instanceMethod yX0_takeAddress, Cond.selects RX0 yX0_takeAddress yX0_takeAddress, Cond.code yX0_takeAddress cX0_takeAddress 2 none, Cond.fieldLink RX0 60 "LoopDevice$FrameReader" "taken" "I", Cond.fieldLink RX0 11 "LoopDevice$FrameReader" "address" "[I", Cond.fieldLink RX0 57 "LoopDevice$FrameReader" "isLong" "Z", Cond.methodLink RX0 42 yX0_takeCount, Cond.instanceMethod yX0_takeCount, Cond.selects RX0 yX0_takeCount yX0_takeCount, Cond.code yX0_takeCount cX0_takeCount 2 none, Cond.methodLink RX0 45 yX0_takeData, Cond.instanceMethod yX0_takeData, Cond.selects RX0 yX0_takeData yX0_takeData]
def wsX4_passTick_r8 : List Cond := [Cond.code yX0_takeData cX0_takeData 2 none, Cond.methodLink RX0 48 yX0_takePreamble, Cond.instanceMethod yX0_takePreamble, Cond.selects RX0 yX0_takePreamble yX0_takePreamble, Cond.code yX0_takePreamble cX0_takePreamble 3 none, Cond.methodLink RX0 51 Lib.Math.min.name, Cond.static Lib.Math.min.name, Cond.code Lib.Math.min.name Lib.Math.min.code 2 (some .int), Cond.methodLink RX4 128 yX4_countFrame, Cond.instanceMethod yX4_countFrame, Cond.selects RX4 yX4_countFrame yX4_countFrame, Cond.code yX4_countFrame cX4_countFrame 2 (some .boolean), Cond.fieldLink RX4 144 "LoopDevice$FrameReader" "sumIsRight" "Z", Cond.fieldLink RX4 92 "LoopDevice" "goodFrames" "I", Cond.fieldLink RX4 95 "LoopDevice" "otherFrames" "I", Cond.methodLink RX4 147 yX4_isForDevice, Cond.instanceMethod yX4_isForDevice, Cond.selects RX4 yX4_isForDevice yX4_isForDevice, Cond.code yX4_isForDevice cX4_isForDevice 1 (some .boolean), Cond.fieldLink RX4 150 "LoopDevice$FrameReader" "isLong" "Z", Cond.methodLink RX4 153 yX0_station, Cond.instanceMethod yX0_station, Cond.selects RX0 yX0_station yX0_station, Cond.code yX0_station cX0_station 1 (some .int)]
def wsX4_passTick_r9 : List Cond := [Cond.methodLink RX0 66 yX0_addressAt, Cond.instanceMethod yX0_addressAt, Cond.selects RX0 yX0_addressAt yX0_addressAt, Cond.code yX0_addressAt cX0_addressAt 2 (some .int), Cond.methodLink RX4 156 yX4_isBroadcast, Cond.instanceMethod yX4_isBroadcast, Cond.selects RX4 yX4_isBroadcast yX4_isBroadcast, Cond.code yX4_isBroadcast cX4_isBroadcast 1 (some .boolean), Cond.fieldLink RX4 169 "LoopDevice$FrameReader" "command" "I", Cond.methodLink RX4 159 yX0_kind, Cond.instanceMethod yX0_kind, Cond.selects RX0 yX0_kind yX0_kind, Cond.code yX0_kind cX0_kind 1 (some .int), Cond.methodLink RX4 162 yX0_number, Cond.instanceMethod yX0_number, Cond.selects RX0 yX0_number yX0_number, Cond.code yX0_number cX0_number 1 (some .int), Cond.methodLink RX4 165 yX2_hasLongAddress, Cond.instanceMethod yX2_hasLongAddress, Cond.selects RX2 yX2_hasLongAddress yX2_hasLongAddress, Cond.code yX2_hasLongAddress cX2_hasLongAddress 4 (some .boolean), Cond.fieldLink RX2 9 "LoopDevice$Holdings" "maker" "I", Cond.fieldLink RX2 15 "LoopDevice$Holdings" "kind" "I", Cond.fieldLink RX2 18 "LoopDevice$Holdings" "number" "I"]
def wsX4_passTick_r10 : List Cond := [Cond.methodLink RX4 131 yX4_answerFrame, Cond.instanceMethod yX4_answerFrame, Cond.selects RX4 yX4_answerFrame yX4_answerFrame, Cond.code yX4_answerFrame cX4_answerFrame 3 none, Cond.fieldLink RX4 184 "LoopDevice$Holdings" "cold" "I", Cond.methodLink RX4 172 yX4_codeOfFrame, Cond.instanceMethod yX4_codeOfFrame, Cond.selects RX4 yX4_codeOfFrame yX4_codeOfFrame, Cond.code yX4_codeOfFrame cX4_codeOfFrame 3 (some .int), Cond.methodLink RX4 187 yX4_countOfCommand, Cond.static yX4_countOfCommand, Cond.code yX4_countOfCommand cX4_countOfCommand 1 (some .int), Cond.methodLink RX4 196 yX4_tagIsInFrame, Cond.instanceMethod yX4_tagIsInFrame, Cond.selects RX4 yX4_tagIsInFrame yX4_tagIsInFrame, Cond.code yX4_tagIsInFrame cX4_tagIsInFrame 2 (some .boolean), Cond.methodLink RX4 199 yX0_fourAt, Cond.instanceMethod yX0_fourAt, Cond.selects RX0 yX0_fourAt yX0_fourAt, Cond.code yX0_fourAt cX0_fourAt 2 (some .int), Cond.methodLink RX0 70 yX0_dataAt, Cond.methodLink RX4 202 yX4_codeOfEnds, Cond.static yX4_codeOfEnds, Cond.code yX4_codeOfEnds cX4_codeOfEnds 2 (some .int)]
def wsX4_passTick_r11 : List Cond := [Cond.methodLink RX4 175 yX0_master, Cond.instanceMethod yX0_master, Cond.selects RX0 yX0_master yX0_master, Cond.code yX0_master cX0_master 1 (some .int), Cond.methodLink RX4 178 yX4_carryOut, Cond.instanceMethod yX4_carryOut, Cond.selects RX4 yX4_carryOut yX4_carryOut, Cond.code yX4_carryOut cX4_carryOut 4 none, Cond.fieldLink RX4 77 "LoopDevice$Holdings" "upper" "I", Cond.fieldLink RX4 74 "LoopDevice$Holdings" "lower" "I", Cond.fieldLink RX4 209 "LoopDevice$Holdings" "changed" "I", Cond.methodLink RX4 206 yX2_setTagByte, Cond.instanceMethod yX2_setTagByte, Cond.selects RX2 yX2_setTagByte yX2_setTagByte, Cond.code yX2_setTagByte cX2_setTagByte 3 none, Cond.methodLink RX4 181 yX1_waitOneTick, Cond.instanceMethod yX1_waitOneTick, Cond.selects RX1 yX1_waitOneTick yX1_waitOneTick, Cond.code yX1_waitOneTick cX1_waitOneTick 1 none]
def wsX4_passTick : List Cond := .code yX4_passTick cX4_passTick 4 none :: ((wsX4_passTick_r1 ++ (wsX4_passTick_r2 ++ (wsX4_passTick_r3 ++ (wsX4_passTick_r4 ++ (wsX4_passTick_r5 ++ (wsX4_passTick_r6 ++ (wsX4_passTick_r7 ++ (wsX4_passTick_r8 ++ (wsX4_passTick_r9 ++ (wsX4_passTick_r10 ++ wsX4_passTick_r11)))))))))) ++ wsX40 ++ wsX20 ++ wsX10 ++ wsX00 ++ wsX30)
def wsX4_octet_r1 : List Cond := [Cond.fieldLink RX4 36 "LoopDevice" "gone" "LLoopDevice$SentBytes;", Cond.fieldLink RX4 44 "LoopDevice$SentBytes" "total" "I", Cond.methodLink RX4 40 yX4_passTick, Cond.instanceMethod yX4_passTick, Cond.selects RX4 yX4_passTick yX4_passTick, Cond.initialized RX4, Cond.code yX4_passTick cX4_passTick 4 none, Cond.fieldLink RX4 29 "LoopDevice" "writer" "LLoopDevice$FrameWriter;", Cond.fieldLink RX4 101 "LoopDevice" "ticks" "I", Cond.fieldLink RX4 22 "LoopDevice" "reader" "LLoopDevice$FrameReader;", Cond.fieldLink RX4 134 "LoopDevice" "quietTicks" "I", Cond.methodLink RX4 104 yX4_burstIsDue, Cond.instanceMethod yX4_burstIsDue, Cond.selects RX4 yX4_burstIsDue yX4_burstIsDue, Cond.code yX4_burstIsDue cX4_burstIsDue 1 (some .boolean), Cond.fieldLink RX4 15 "LoopDevice" "holdings" "LLoopDevice$Holdings;", Cond.fieldLink RX4 80 "LoopDevice$Holdings" "burstOn" "Z", Cond.methodLink RX4 111 yX1_isBusy, Cond.instanceMethod yX1_isBusy, Cond.selects RX1 yX1_isBusy yX1_isBusy, Cond.initialized RX1, Cond.code yX1_isBusy cX1_isBusy 1 (some .boolean), Cond.fieldLink RX1 15 "LoopDevice$FrameWriter" "next" "I", Cond.fieldLink RX1 19 "LoopDevice$FrameWriter" "length" "I"]
def wsX4_octet_r2 : List Cond := [Cond.methodLink RX4 108 yX4_beginBurst, Cond.instanceMethod yX4_beginBurst, Cond.selects RX4 yX4_beginBurst yX4_beginBurst, Cond.code yX4_beginBurst cX4_beginBurst 1 none, Cond.fieldLink RX4 89 "LoopDevice" "bursts" "I", Cond.fieldLink RX4 137 "LoopDevice" "burstMaster" "I", Cond.fieldLink RX4 83 "LoopDevice$Holdings" "burstCommand" "I", Cond.methodLink RX4 140 yX4_compose, Cond.instanceMethod yX4_compose, Cond.selects RX4 yX4_compose yX4_compose, Cond.code yX4_compose cX4_compose 5 none, Cond.methodLink RX4 215 yX1_begin, Cond.instanceMethod yX1_begin, Cond.selects RX1 yX1_begin yX1_begin, Cond.code yX1_begin cX1_begin 3 none, Cond.fieldLink RX1 22 "LoopDevice$FrameWriter" "waits" "Z", Cond.methodLink RX1 26 yX1_add, Cond.instanceMethod yX1_add, Cond.selects RX1 yX1_add yX1_add, Cond.code yX1_add cX1_add 2 none, Cond.fieldLink RX1 11 "LoopDevice$FrameWriter" "bytes" "[I", Cond.methodLink RX4 218 yX4_addAddress, Cond.instanceMethod yX4_addAddress, Cond.selects RX4 yX4_addAddress yX4_addAddress]
def wsX4_octet_r3 : List Cond := [Cond.code yX4_addAddress cX4_addAddress 4 none, Cond.fieldLink RX4 236 "LoopDevice$Holdings" "maker" "I", Cond.fieldLink RX4 239 "LoopDevice$Holdings" "kind" "I", Cond.fieldLink RX4 68 "LoopDevice$Holdings" "shortAddress" "I", Cond.methodLink RX4 222 yX1_add, Cond.methodLink RX4 241 yX4_addNumber, Cond.instanceMethod yX4_addNumber, Cond.selects RX4 yX4_addNumber yX4_addNumber, Cond.code yX4_addNumber cX4_addNumber 1 none, Cond.fieldLink RX4 256 "LoopDevice$Holdings" "number" "I", Cond.methodLink RX4 224 yX1_beginCount, Cond.instanceMethod yX1_beginCount, Cond.selects RX1 yX1_beginCount yX1_beginCount, Cond.code yX1_beginCount cX1_beginCount 1 none, Cond.fieldLink RX1 30 "LoopDevice$FrameWriter" "countPlace" "I", Cond.methodLink RX4 227 yX2_statusFor, Cond.instanceMethod yX2_statusFor, Cond.selects RX2 yX2_statusFor yX2_statusFor, Cond.initialized RX2, Cond.code yX2_statusFor cX2_statusFor 4 (some .int), Cond.fieldLink RX2 44 "LoopDevice$Holdings" "failed" "Z", Cond.fieldLink RX2 24 "LoopDevice$Holdings" "changed" "I", Cond.fieldLink RX2 27 "LoopDevice$Holdings" "cold" "I", Cond.fieldLink RX2 48 "LoopDevice$Holdings" "lower" "I"]
def wsX4_octet_r4 : List Cond := [Cond.fieldLink RX2 21 "LoopDevice$Holdings" "upper" "I", Cond.methodLink RX2 40 yX2_variableAt, Cond.instanceMethod yX2_variableAt, Cond.selects RX2 yX2_variableAt yX2_variableAt, Cond.code yX2_variableAt cX2_variableAt 2 (some .int), Cond.fieldLink RX2 37 "LoopDevice$Holdings" "variables" "[I", Cond.methodLink RX4 230 yX4_addData, Cond.instanceMethod yX4_addData, Cond.selects RX4 yX4_addData yX4_addData, Cond.code yX4_addData cX4_addData 3 none, Cond.fieldLink RX4 71 "LoopDevice$Holdings" "unit" "I", Cond.fieldLink RX4 64 "LoopDevice$Holdings" "failed" "Z", Cond.fieldLink RX4 86 "LoopDevice" "answers" "I", Cond.methodLink RX4 244 yX4_addIdentity, Cond.instanceMethod yX4_addIdentity, Cond.selects RX4 yX4_addIdentity yX4_addIdentity, Cond.code yX4_addIdentity cX4_addIdentity 1 none, Cond.methodLink RX4 57 yX2_variableAt, Cond.methodLink RX4 247 yX1_addFour, Cond.instanceMethod yX1_addFour, Cond.selects RX1 yX1_addFour yX1_addFour, Cond.code yX1_addFour cX1_addFour 2 none, Cond.methodLink RX4 250 yX2_level, Cond.instanceMethod yX2_level]
def wsX4_octet_r5 : List Cond := [Cond.selects RX2 yX2_level yX2_level, Cond.code yX2_level cX2_level 5 (some .int), Cond.constantLong RX2 51 (16000), Cond.constantLong RX2 53 (4000), Cond.constantLong RX2 55 (3800), Cond.constantLong RX2 57 (20500), Cond.methodLink RX2 59 Lib.MathLoose.min_long.x, Cond.static Lib.MathLoose.min_long.x, Cond.initialized "java/lang/Math", Cond.code Lib.MathLoose.min_long.x Lib.MathLoose.min_long.code 4 (some .long), Cond.methodLink RX2 65 Lib.MathLoose.max_long.x, Cond.static Lib.MathLoose.max_long.x, Cond.code Lib.MathLoose.max_long.x Lib.MathLoose.max_long.code 4 (some .long), Cond.methodLink RX4 98 yX2_tagByte, Cond.instanceMethod yX2_tagByte, Cond.selects RX2 yX2_tagByte yX2_tagByte, Cond.code yX2_tagByte cX2_tagByte 2 (some .int), Cond.fieldLink RX2 33 "LoopDevice$Holdings" "tagBytes" "[I", Cond.methodLink RX4 253 yX4_addEcho, Cond.instanceMethod yX4_addEcho, Cond.selects RX4 yX4_addEcho yX4_addEcho, Cond.code yX4_addEcho cX4_addEcho 3 none, Cond.fieldLink RX4 190 "LoopDevice$FrameReader" "count" "I", Cond.methodLink RX4 212 yX4_setsSomething]
def wsX4_octet_r6 : List Cond := [Cond.static yX4_setsSomething, Cond.code yX4_setsSomething cX4_setsSomething 1 (some .boolean), Cond.methodLink RX4 193 yX0_dataAt, Cond.instanceMethod yX0_dataAt, Cond.selects RX0 yX0_dataAt yX0_dataAt, Cond.initialized RX0, Cond.code yX0_dataAt cX0_dataAt 2 (some .int), Cond.fieldLink RX0 63 "LoopDevice$FrameReader" "count" "I", Cond.fieldLink RX0 15 "LoopDevice$FrameReader" "data" "[I", Cond.methodLink RX4 233 yX1_end, Cond.instanceMethod yX1_end, Cond.selects RX1 yX1_end yX1_end, Cond.code yX1_end cX1_end 3 none, Cond.methodLink RX4 114 yX1_takeNext, Cond.instanceMethod yX1_takeNext, Cond.selects RX1 yX1_takeNext yX1_takeNext, Cond.code yX1_takeNext cX1_takeNext 2 (some .int), Cond.methodLink RX4 118 yX3_add, Cond.instanceMethod yX3_add, Cond.selects RX3 yX3_add yX3_add, Cond.initialized RX3, Cond.code yX3_add cX3_add 4 none, Cond.fieldLink RX3 18 "LoopDevice$SentBytes" "total" "I", Cond.fieldLink RX3 11 "LoopDevice$SentBytes" "bytes" "[I"]
def wsX4_octet_r7 : List Cond := [Cond.fieldLink RX3 15 "LoopDevice$SentBytes" "ticksOfBytes" "[I", Cond.methodLink RX4 121 yX0_beginAnew, Cond.instanceMethod yX0_beginAnew, Cond.selects RX0 yX0_beginAnew yX0_beginAnew, Cond.code yX0_beginAnew cX0_beginAnew 1 none, Cond.fieldLink RX0 18 "LoopDevice$FrameReader" "place" "I", Cond.fieldLink RX0 22 "LoopDevice$FrameReader" "preamble" "I", Cond.methodLink RX4 124 yX0_take, Cond.instanceMethod yX0_take, Cond.selects RX0 yX0_take yX0_take, Cond.code yX0_take cX0_take 2 (some .boolean), Cond.fieldLink RX0 25 "LoopDevice$FrameReader" "sum" "I", Cond.fieldLink RX0 28 "LoopDevice$FrameReader" "sumIsRight" "Z", Cond.fieldLink RX0 39 "LoopDevice$FrameReader" "command" "I", Cond.methodLink RX0 32 yX0_beginAnew, Cond.methodLink RX0 35 yX0_takeAddress, Cond.instanceMethod yX0_takeAddress, Cond.selects RX0 yX0_takeAddress yX0_takeAddress, Cond.code yX0_takeAddress cX0_takeAddress 2 none, Cond.fieldLink RX0 60 "LoopDevice$FrameReader" "taken" "I", Cond.fieldLink RX0 11 "LoopDevice$FrameReader" "address" "[I", Cond.fieldLink RX0 57 "LoopDevice$FrameReader" "isLong" "Z", Cond.methodLink RX0 42 yX0_takeCount, Cond.instanceMethod yX0_takeCount]
def wsX4_octet_r8 : List Cond := [Cond.selects RX0 yX0_takeCount yX0_takeCount, Cond.code yX0_takeCount cX0_takeCount 2 none, Cond.methodLink RX0 45 yX0_takeData, Cond.instanceMethod yX0_takeData, Cond.selects RX0 yX0_takeData yX0_takeData, Cond.code yX0_takeData cX0_takeData 2 none, Cond.methodLink RX0 48 yX0_takePreamble, Cond.instanceMethod yX0_takePreamble, Cond.selects RX0 yX0_takePreamble yX0_takePreamble, Cond.code yX0_takePreamble cX0_takePreamble 3 none, Cond.methodLink RX0 51 Lib.Math.min.name, Cond.static Lib.Math.min.name, Cond.code Lib.Math.min.name Lib.Math.min.code 2 (some .int), Cond.methodLink RX4 128 yX4_countFrame, Cond.instanceMethod yX4_countFrame, Cond.selects RX4 yX4_countFrame yX4_countFrame, Cond.code yX4_countFrame cX4_countFrame 2 (some .boolean), Cond.fieldLink RX4 144 "LoopDevice$FrameReader" "sumIsRight" "Z", Cond.fieldLink RX4 92 "LoopDevice" "goodFrames" "I", Cond.fieldLink RX4 95 "LoopDevice" "otherFrames" "I", Cond.methodLink RX4 147 yX4_isForDevice, Cond.instanceMethod yX4_isForDevice, Cond.selects RX4 yX4_isForDevice yX4_isForDevice, Cond.code yX4_isForDevice cX4_isForDevice 1 (some .boolean)]
def wsX4_octet_r9 : List Cond := [Cond.fieldLink RX4 150 "LoopDevice$FrameReader" "isLong" "Z", Cond.methodLink RX4 153 yX0_station, Cond.instanceMethod yX0_station, Cond.selects RX0 yX0_station yX0_station, Cond.code yX0_station cX0_station 1 (some .int), Cond.methodLink RX0 66 yX0_addressAt, Cond.instanceMethod yX0_addressAt, Cond.selects RX0 yX0_addressAt yX0_addressAt, Cond.code yX0_addressAt cX0_addressAt 2 (some .int), Cond.methodLink RX4 156 yX4_isBroadcast, Cond.instanceMethod yX4_isBroadcast, Cond.selects RX4 yX4_isBroadcast yX4_isBroadcast, Cond.code yX4_isBroadcast cX4_isBroadcast 1 (some .boolean), Cond.fieldLink RX4 169 "LoopDevice$FrameReader" "command" "I", Cond.methodLink RX4 159 yX0_kind, Cond.instanceMethod yX0_kind, Cond.selects RX0 yX0_kind yX0_kind, Cond.code yX0_kind cX0_kind 1 (some .int), Cond.methodLink RX4 162 yX0_number, Cond.instanceMethod yX0_number, Cond.selects RX0 yX0_number yX0_number, Cond.code yX0_number cX0_number 1 (some .int), Cond.methodLink RX4 165 yX2_hasLongAddress, Cond.instanceMethod yX2_hasLongAddress]
def wsX4_octet_r10 : List Cond := [Cond.selects RX2 yX2_hasLongAddress yX2_hasLongAddress, Cond.code yX2_hasLongAddress cX2_hasLongAddress 4 (some .boolean), Cond.fieldLink RX2 9 "LoopDevice$Holdings" "maker" "I", Cond.fieldLink RX2 15 "LoopDevice$Holdings" "kind" "I", Cond.fieldLink RX2 18 "LoopDevice$Holdings" "number" "I", Cond.methodLink RX4 131 yX4_answerFrame, Cond.instanceMethod yX4_answerFrame, Cond.selects RX4 yX4_answerFrame yX4_answerFrame, Cond.code yX4_answerFrame cX4_answerFrame 3 none, Cond.fieldLink RX4 184 "LoopDevice$Holdings" "cold" "I", Cond.methodLink RX4 172 yX4_codeOfFrame, Cond.instanceMethod yX4_codeOfFrame, Cond.selects RX4 yX4_codeOfFrame yX4_codeOfFrame, Cond.code yX4_codeOfFrame cX4_codeOfFrame 3 (some .int), Cond.methodLink RX4 187 yX4_countOfCommand, Cond.static yX4_countOfCommand, Cond.code yX4_countOfCommand cX4_countOfCommand 1 (some .int), Cond.methodLink RX4 196 yX4_tagIsInFrame, Cond.instanceMethod yX4_tagIsInFrame, Cond.selects RX4 yX4_tagIsInFrame yX4_tagIsInFrame, Cond.code yX4_tagIsInFrame cX4_tagIsInFrame 2 (some .boolean), Cond.methodLink RX4 199 yX0_fourAt, Cond.instanceMethod yX0_fourAt, Cond.selects RX0 yX0_fourAt yX0_fourAt]
def wsX4_octet_r11 : List Cond := [Cond.code yX0_fourAt cX0_fourAt 2 (some .int), Cond.methodLink RX0 70 yX0_dataAt, Cond.methodLink RX4 202 yX4_codeOfEnds, Cond.static yX4_codeOfEnds, Cond.code yX4_codeOfEnds cX4_codeOfEnds 2 (some .int), Cond.methodLink RX4 175 yX0_master, Cond.instanceMethod yX0_master, Cond.selects RX0 yX0_master yX0_master, Cond.code yX0_master cX0_master 1 (some .int), Cond.methodLink RX4 178 yX4_carryOut, Cond.instanceMethod yX4_carryOut, Cond.selects RX4 yX4_carryOut yX4_carryOut, Cond.code yX4_carryOut cX4_carryOut 4 none, Cond.fieldLink RX4 77 "LoopDevice$Holdings" "upper" "I", Cond.fieldLink RX4 74 "LoopDevice$Holdings" "lower" "I", Cond.fieldLink RX4 209 "LoopDevice$Holdings" "changed" "I", Cond.methodLink RX4 206 yX2_setTagByte, Cond.instanceMethod yX2_setTagByte, Cond.selects RX2 yX2_setTagByte yX2_setTagByte, Cond.code yX2_setTagByte cX2_setTagByte 3 none, Cond.methodLink RX4 181 yX1_waitOneTick, Cond.instanceMethod yX1_waitOneTick, Cond.selects RX1 yX1_waitOneTick yX1_waitOneTick, Cond.code yX1_waitOneTick cX1_waitOneTick 1 none]
def wsX4_octet : List Cond := .code yX4_octet cX4_octet 2 (some .int) :: ((wsX4_octet_r1 ++ (wsX4_octet_r2 ++ (wsX4_octet_r3 ++ (wsX4_octet_r4 ++ (wsX4_octet_r5 ++ (wsX4_octet_r6 ++ (wsX4_octet_r7 ++ (wsX4_octet_r8 ++ (wsX4_octet_r9 ++ (wsX4_octet_r10 ++ wsX4_octet_r11)))))))))) ++ wsX40 ++ wsX30 ++ wsX20 ++ wsX10 ++ wsX00)
def wsX4_octets_r1 : List Cond := [Cond.fieldLink RX4 36 "LoopDevice" "gone" "LLoopDevice$SentBytes;", Cond.fieldLink RX4 44 "LoopDevice$SentBytes" "total" "I", Cond.methodLink RX4 40 yX4_passTick, Cond.instanceMethod yX4_passTick, Cond.selects RX4 yX4_passTick yX4_passTick, Cond.initialized RX4, Cond.code yX4_passTick cX4_passTick 4 none, Cond.fieldLink RX4 29 "LoopDevice" "writer" "LLoopDevice$FrameWriter;", Cond.fieldLink RX4 101 "LoopDevice" "ticks" "I", Cond.fieldLink RX4 22 "LoopDevice" "reader" "LLoopDevice$FrameReader;", Cond.fieldLink RX4 134 "LoopDevice" "quietTicks" "I", Cond.methodLink RX4 104 yX4_burstIsDue, Cond.instanceMethod yX4_burstIsDue, Cond.selects RX4 yX4_burstIsDue yX4_burstIsDue, Cond.code yX4_burstIsDue cX4_burstIsDue 1 (some .boolean), Cond.fieldLink RX4 15 "LoopDevice" "holdings" "LLoopDevice$Holdings;", Cond.fieldLink RX4 80 "LoopDevice$Holdings" "burstOn" "Z", Cond.methodLink RX4 111 yX1_isBusy, Cond.instanceMethod yX1_isBusy, Cond.selects RX1 yX1_isBusy yX1_isBusy, Cond.initialized RX1, Cond.code yX1_isBusy cX1_isBusy 1 (some .boolean), Cond.fieldLink RX1 15 "LoopDevice$FrameWriter" "next" "I", Cond.fieldLink RX1 19 "LoopDevice$FrameWriter" "length" "I"]
def wsX4_octets_r2 : List Cond := [Cond.methodLink RX4 108 yX4_beginBurst, Cond.instanceMethod yX4_beginBurst, Cond.selects RX4 yX4_beginBurst yX4_beginBurst, Cond.code yX4_beginBurst cX4_beginBurst 1 none, Cond.fieldLink RX4 89 "LoopDevice" "bursts" "I", Cond.fieldLink RX4 137 "LoopDevice" "burstMaster" "I", Cond.fieldLink RX4 83 "LoopDevice$Holdings" "burstCommand" "I", Cond.methodLink RX4 140 yX4_compose, Cond.instanceMethod yX4_compose, Cond.selects RX4 yX4_compose yX4_compose, Cond.code yX4_compose cX4_compose 5 none, Cond.methodLink RX4 215 yX1_begin, Cond.instanceMethod yX1_begin, Cond.selects RX1 yX1_begin yX1_begin, Cond.code yX1_begin cX1_begin 3 none, Cond.fieldLink RX1 22 "LoopDevice$FrameWriter" "waits" "Z", Cond.methodLink RX1 26 yX1_add, Cond.instanceMethod yX1_add, Cond.selects RX1 yX1_add yX1_add, Cond.code yX1_add cX1_add 2 none, Cond.fieldLink RX1 11 "LoopDevice$FrameWriter" "bytes" "[I", Cond.methodLink RX4 218 yX4_addAddress, Cond.instanceMethod yX4_addAddress, Cond.selects RX4 yX4_addAddress yX4_addAddress]
def wsX4_octets_r3 : List Cond := [Cond.code yX4_addAddress cX4_addAddress 4 none, Cond.fieldLink RX4 236 "LoopDevice$Holdings" "maker" "I", Cond.fieldLink RX4 239 "LoopDevice$Holdings" "kind" "I", Cond.fieldLink RX4 68 "LoopDevice$Holdings" "shortAddress" "I", Cond.methodLink RX4 222 yX1_add, Cond.methodLink RX4 241 yX4_addNumber, Cond.instanceMethod yX4_addNumber, Cond.selects RX4 yX4_addNumber yX4_addNumber, Cond.code yX4_addNumber cX4_addNumber 1 none, Cond.fieldLink RX4 256 "LoopDevice$Holdings" "number" "I", Cond.methodLink RX4 224 yX1_beginCount, Cond.instanceMethod yX1_beginCount, Cond.selects RX1 yX1_beginCount yX1_beginCount, Cond.code yX1_beginCount cX1_beginCount 1 none, Cond.fieldLink RX1 30 "LoopDevice$FrameWriter" "countPlace" "I", Cond.methodLink RX4 227 yX2_statusFor, Cond.instanceMethod yX2_statusFor, Cond.selects RX2 yX2_statusFor yX2_statusFor, Cond.initialized RX2, Cond.code yX2_statusFor cX2_statusFor 4 (some .int), Cond.fieldLink RX2 44 "LoopDevice$Holdings" "failed" "Z", Cond.fieldLink RX2 24 "LoopDevice$Holdings" "changed" "I", Cond.fieldLink RX2 27 "LoopDevice$Holdings" "cold" "I", Cond.fieldLink RX2 48 "LoopDevice$Holdings" "lower" "I"]
def wsX4_octets_r4 : List Cond := [Cond.fieldLink RX2 21 "LoopDevice$Holdings" "upper" "I", Cond.methodLink RX2 40 yX2_variableAt, Cond.instanceMethod yX2_variableAt, Cond.selects RX2 yX2_variableAt yX2_variableAt, Cond.code yX2_variableAt cX2_variableAt 2 (some .int), Cond.fieldLink RX2 37 "LoopDevice$Holdings" "variables" "[I", Cond.methodLink RX4 230 yX4_addData, Cond.instanceMethod yX4_addData, Cond.selects RX4 yX4_addData yX4_addData, Cond.code yX4_addData cX4_addData 3 none, Cond.fieldLink RX4 71 "LoopDevice$Holdings" "unit" "I", Cond.fieldLink RX4 64 "LoopDevice$Holdings" "failed" "Z", Cond.fieldLink RX4 86 "LoopDevice" "answers" "I", Cond.methodLink RX4 244 yX4_addIdentity, Cond.instanceMethod yX4_addIdentity, Cond.selects RX4 yX4_addIdentity yX4_addIdentity, Cond.code yX4_addIdentity cX4_addIdentity 1 none, Cond.methodLink RX4 57 yX2_variableAt, Cond.methodLink RX4 247 yX1_addFour, Cond.instanceMethod yX1_addFour, Cond.selects RX1 yX1_addFour yX1_addFour, Cond.code yX1_addFour cX1_addFour 2 none, Cond.methodLink RX4 250 yX2_level, Cond.instanceMethod yX2_level]
def wsX4_octets_r5 : List Cond := [Cond.selects RX2 yX2_level yX2_level, Cond.code yX2_level cX2_level 5 (some .int), Cond.constantLong RX2 51 (16000), Cond.constantLong RX2 53 (4000), Cond.constantLong RX2 55 (3800), Cond.constantLong RX2 57 (20500), Cond.methodLink RX2 59 Lib.MathLoose.min_long.x, Cond.static Lib.MathLoose.min_long.x, Cond.initialized "java/lang/Math", Cond.code Lib.MathLoose.min_long.x Lib.MathLoose.min_long.code 4 (some .long), Cond.methodLink RX2 65 Lib.MathLoose.max_long.x, Cond.static Lib.MathLoose.max_long.x, Cond.code Lib.MathLoose.max_long.x Lib.MathLoose.max_long.code 4 (some .long), Cond.methodLink RX4 98 yX2_tagByte, Cond.instanceMethod yX2_tagByte, Cond.selects RX2 yX2_tagByte yX2_tagByte, Cond.code yX2_tagByte cX2_tagByte 2 (some .int), Cond.fieldLink RX2 33 "LoopDevice$Holdings" "tagBytes" "[I", Cond.methodLink RX4 253 yX4_addEcho, Cond.instanceMethod yX4_addEcho, Cond.selects RX4 yX4_addEcho yX4_addEcho, Cond.code yX4_addEcho cX4_addEcho 3 none, Cond.fieldLink RX4 190 "LoopDevice$FrameReader" "count" "I", Cond.methodLink RX4 212 yX4_setsSomething]
def wsX4_octets_r6 : List Cond := [Cond.static yX4_setsSomething, Cond.code yX4_setsSomething cX4_setsSomething 1 (some .boolean), Cond.methodLink RX4 193 yX0_dataAt, Cond.instanceMethod yX0_dataAt, Cond.selects RX0 yX0_dataAt yX0_dataAt, Cond.initialized RX0, Cond.code yX0_dataAt cX0_dataAt 2 (some .int), Cond.fieldLink RX0 63 "LoopDevice$FrameReader" "count" "I", Cond.fieldLink RX0 15 "LoopDevice$FrameReader" "data" "[I", Cond.methodLink RX4 233 yX1_end, Cond.instanceMethod yX1_end, Cond.selects RX1 yX1_end yX1_end, Cond.code yX1_end cX1_end 3 none, Cond.methodLink RX4 114 yX1_takeNext, Cond.instanceMethod yX1_takeNext, Cond.selects RX1 yX1_takeNext yX1_takeNext, Cond.code yX1_takeNext cX1_takeNext 2 (some .int), Cond.methodLink RX4 118 yX3_add, Cond.instanceMethod yX3_add, Cond.selects RX3 yX3_add yX3_add, Cond.initialized RX3, Cond.code yX3_add cX3_add 4 none, Cond.fieldLink RX3 18 "LoopDevice$SentBytes" "total" "I", Cond.fieldLink RX3 11 "LoopDevice$SentBytes" "bytes" "[I"]
def wsX4_octets_r7 : List Cond := [Cond.fieldLink RX3 15 "LoopDevice$SentBytes" "ticksOfBytes" "[I", Cond.methodLink RX4 121 yX0_beginAnew, Cond.instanceMethod yX0_beginAnew, Cond.selects RX0 yX0_beginAnew yX0_beginAnew, Cond.code yX0_beginAnew cX0_beginAnew 1 none, Cond.fieldLink RX0 18 "LoopDevice$FrameReader" "place" "I", Cond.fieldLink RX0 22 "LoopDevice$FrameReader" "preamble" "I", Cond.methodLink RX4 124 yX0_take, Cond.instanceMethod yX0_take, Cond.selects RX0 yX0_take yX0_take, Cond.code yX0_take cX0_take 2 (some .boolean), Cond.fieldLink RX0 25 "LoopDevice$FrameReader" "sum" "I", Cond.fieldLink RX0 28 "LoopDevice$FrameReader" "sumIsRight" "Z", Cond.fieldLink RX0 39 "LoopDevice$FrameReader" "command" "I", Cond.methodLink RX0 32 yX0_beginAnew, Cond.methodLink RX0 35 yX0_takeAddress, Cond.instanceMethod yX0_takeAddress, Cond.selects RX0 yX0_takeAddress yX0_takeAddress, Cond.code yX0_takeAddress cX0_takeAddress 2 none, Cond.fieldLink RX0 60 "LoopDevice$FrameReader" "taken" "I", Cond.fieldLink RX0 11 "LoopDevice$FrameReader" "address" "[I", Cond.fieldLink RX0 57 "LoopDevice$FrameReader" "isLong" "Z", Cond.methodLink RX0 42 yX0_takeCount, Cond.instanceMethod yX0_takeCount]
def wsX4_octets_r8 : List Cond := [Cond.selects RX0 yX0_takeCount yX0_takeCount, Cond.code yX0_takeCount cX0_takeCount 2 none, Cond.methodLink RX0 45 yX0_takeData, Cond.instanceMethod yX0_takeData, Cond.selects RX0 yX0_takeData yX0_takeData, Cond.code yX0_takeData cX0_takeData 2 none, Cond.methodLink RX0 48 yX0_takePreamble, Cond.instanceMethod yX0_takePreamble, Cond.selects RX0 yX0_takePreamble yX0_takePreamble, Cond.code yX0_takePreamble cX0_takePreamble 3 none, Cond.methodLink RX0 51 Lib.Math.min.name, Cond.static Lib.Math.min.name, Cond.code Lib.Math.min.name Lib.Math.min.code 2 (some .int), Cond.methodLink RX4 128 yX4_countFrame, Cond.instanceMethod yX4_countFrame, Cond.selects RX4 yX4_countFrame yX4_countFrame, Cond.code yX4_countFrame cX4_countFrame 2 (some .boolean), Cond.fieldLink RX4 144 "LoopDevice$FrameReader" "sumIsRight" "Z", Cond.fieldLink RX4 92 "LoopDevice" "goodFrames" "I", Cond.fieldLink RX4 95 "LoopDevice" "otherFrames" "I", Cond.methodLink RX4 147 yX4_isForDevice, Cond.instanceMethod yX4_isForDevice, Cond.selects RX4 yX4_isForDevice yX4_isForDevice, Cond.code yX4_isForDevice cX4_isForDevice 1 (some .boolean)]
def wsX4_octets_r9 : List Cond := [Cond.fieldLink RX4 150 "LoopDevice$FrameReader" "isLong" "Z", Cond.methodLink RX4 153 yX0_station, Cond.instanceMethod yX0_station, Cond.selects RX0 yX0_station yX0_station, Cond.code yX0_station cX0_station 1 (some .int), Cond.methodLink RX0 66 yX0_addressAt, Cond.instanceMethod yX0_addressAt, Cond.selects RX0 yX0_addressAt yX0_addressAt, Cond.code yX0_addressAt cX0_addressAt 2 (some .int), Cond.methodLink RX4 156 yX4_isBroadcast, Cond.instanceMethod yX4_isBroadcast, Cond.selects RX4 yX4_isBroadcast yX4_isBroadcast, Cond.code yX4_isBroadcast cX4_isBroadcast 1 (some .boolean), Cond.fieldLink RX4 169 "LoopDevice$FrameReader" "command" "I", Cond.methodLink RX4 159 yX0_kind, Cond.instanceMethod yX0_kind, Cond.selects RX0 yX0_kind yX0_kind, Cond.code yX0_kind cX0_kind 1 (some .int), Cond.methodLink RX4 162 yX0_number, Cond.instanceMethod yX0_number, Cond.selects RX0 yX0_number yX0_number, Cond.code yX0_number cX0_number 1 (some .int), Cond.methodLink RX4 165 yX2_hasLongAddress, Cond.instanceMethod yX2_hasLongAddress]
def wsX4_octets_r10 : List Cond := [Cond.selects RX2 yX2_hasLongAddress yX2_hasLongAddress, Cond.code yX2_hasLongAddress cX2_hasLongAddress 4 (some .boolean), Cond.fieldLink RX2 9 "LoopDevice$Holdings" "maker" "I", Cond.fieldLink RX2 15 "LoopDevice$Holdings" "kind" "I", Cond.fieldLink RX2 18 "LoopDevice$Holdings" "number" "I", Cond.methodLink RX4 131 yX4_answerFrame, Cond.instanceMethod yX4_answerFrame, Cond.selects RX4 yX4_answerFrame yX4_answerFrame, Cond.code yX4_answerFrame cX4_answerFrame 3 none, Cond.fieldLink RX4 184 "LoopDevice$Holdings" "cold" "I", Cond.methodLink RX4 172 yX4_codeOfFrame, Cond.instanceMethod yX4_codeOfFrame, Cond.selects RX4 yX4_codeOfFrame yX4_codeOfFrame, Cond.code yX4_codeOfFrame cX4_codeOfFrame 3 (some .int), Cond.methodLink RX4 187 yX4_countOfCommand, Cond.static yX4_countOfCommand, Cond.code yX4_countOfCommand cX4_countOfCommand 1 (some .int), Cond.methodLink RX4 196 yX4_tagIsInFrame, Cond.instanceMethod yX4_tagIsInFrame, Cond.selects RX4 yX4_tagIsInFrame yX4_tagIsInFrame, Cond.code yX4_tagIsInFrame cX4_tagIsInFrame 2 (some .boolean), Cond.methodLink RX4 199 yX0_fourAt, Cond.instanceMethod yX0_fourAt, Cond.selects RX0 yX0_fourAt yX0_fourAt]
def wsX4_octets_r11 : List Cond := [Cond.code yX0_fourAt cX0_fourAt 2 (some .int), Cond.methodLink RX0 70 yX0_dataAt, Cond.methodLink RX4 202 yX4_codeOfEnds, Cond.static yX4_codeOfEnds, Cond.code yX4_codeOfEnds cX4_codeOfEnds 2 (some .int), Cond.methodLink RX4 175 yX0_master, Cond.instanceMethod yX0_master, Cond.selects RX0 yX0_master yX0_master, Cond.code yX0_master cX0_master 1 (some .int), Cond.methodLink RX4 178 yX4_carryOut, Cond.instanceMethod yX4_carryOut, Cond.selects RX4 yX4_carryOut yX4_carryOut, Cond.code yX4_carryOut cX4_carryOut 4 none, Cond.fieldLink RX4 77 "LoopDevice$Holdings" "upper" "I", Cond.fieldLink RX4 74 "LoopDevice$Holdings" "lower" "I", Cond.fieldLink RX4 209 "LoopDevice$Holdings" "changed" "I", Cond.methodLink RX4 206 yX2_setTagByte, Cond.instanceMethod yX2_setTagByte, Cond.selects RX2 yX2_setTagByte yX2_setTagByte, Cond.code yX2_setTagByte cX2_setTagByte 3 none, Cond.methodLink RX4 181 yX1_waitOneTick, Cond.instanceMethod yX1_waitOneTick, Cond.selects RX1 yX1_waitOneTick yX1_waitOneTick, Cond.code yX1_waitOneTick cX1_waitOneTick 1 none]
def wsX4_octets : List Cond := .code yX4_octets cX4_octets 3 (some .int) :: ((wsX4_octets_r1 ++ (wsX4_octets_r2 ++ (wsX4_octets_r3 ++ (wsX4_octets_r4 ++ (wsX4_octets_r5 ++ (wsX4_octets_r6 ++ (wsX4_octets_r7 ++ (wsX4_octets_r8 ++ (wsX4_octets_r9 ++ (wsX4_octets_r10 ++ wsX4_octets_r11)))))))))) ++ wsX40 ++ wsX30 ++ wsX20 ++ wsX10 ++ wsX00)
def wsX4_tick_r1 : List Cond := [Cond.fieldLink RX4 36 "LoopDevice" "gone" "LLoopDevice$SentBytes;", Cond.fieldLink RX4 44 "LoopDevice$SentBytes" "total" "I", Cond.methodLink RX4 40 yX4_passTick, Cond.instanceMethod yX4_passTick, Cond.selects RX4 yX4_passTick yX4_passTick, Cond.initialized RX4, Cond.code yX4_passTick cX4_passTick 4 none, Cond.fieldLink RX4 29 "LoopDevice" "writer" "LLoopDevice$FrameWriter;", Cond.fieldLink RX4 101 "LoopDevice" "ticks" "I", Cond.fieldLink RX4 22 "LoopDevice" "reader" "LLoopDevice$FrameReader;", Cond.fieldLink RX4 134 "LoopDevice" "quietTicks" "I", Cond.methodLink RX4 104 yX4_burstIsDue, Cond.instanceMethod yX4_burstIsDue, Cond.selects RX4 yX4_burstIsDue yX4_burstIsDue, Cond.code yX4_burstIsDue cX4_burstIsDue 1 (some .boolean), Cond.fieldLink RX4 15 "LoopDevice" "holdings" "LLoopDevice$Holdings;", Cond.fieldLink RX4 80 "LoopDevice$Holdings" "burstOn" "Z", Cond.methodLink RX4 111 yX1_isBusy, Cond.instanceMethod yX1_isBusy, Cond.selects RX1 yX1_isBusy yX1_isBusy, Cond.initialized RX1, Cond.code yX1_isBusy cX1_isBusy 1 (some .boolean), Cond.fieldLink RX1 15 "LoopDevice$FrameWriter" "next" "I", Cond.fieldLink RX1 19 "LoopDevice$FrameWriter" "length" "I"]
def wsX4_tick_r2 : List Cond := [Cond.methodLink RX4 108 yX4_beginBurst, Cond.instanceMethod yX4_beginBurst, Cond.selects RX4 yX4_beginBurst yX4_beginBurst, Cond.code yX4_beginBurst cX4_beginBurst 1 none, Cond.fieldLink RX4 89 "LoopDevice" "bursts" "I", Cond.fieldLink RX4 137 "LoopDevice" "burstMaster" "I", Cond.fieldLink RX4 83 "LoopDevice$Holdings" "burstCommand" "I", Cond.methodLink RX4 140 yX4_compose, Cond.instanceMethod yX4_compose, Cond.selects RX4 yX4_compose yX4_compose, Cond.code yX4_compose cX4_compose 5 none, Cond.methodLink RX4 215 yX1_begin, Cond.instanceMethod yX1_begin, Cond.selects RX1 yX1_begin yX1_begin, Cond.code yX1_begin cX1_begin 3 none, Cond.fieldLink RX1 22 "LoopDevice$FrameWriter" "waits" "Z", Cond.methodLink RX1 26 yX1_add, Cond.instanceMethod yX1_add, Cond.selects RX1 yX1_add yX1_add, Cond.code yX1_add cX1_add 2 none, Cond.fieldLink RX1 11 "LoopDevice$FrameWriter" "bytes" "[I", Cond.methodLink RX4 218 yX4_addAddress, Cond.instanceMethod yX4_addAddress, Cond.selects RX4 yX4_addAddress yX4_addAddress]
def wsX4_tick_r3 : List Cond := [Cond.code yX4_addAddress cX4_addAddress 4 none, Cond.fieldLink RX4 236 "LoopDevice$Holdings" "maker" "I", Cond.fieldLink RX4 239 "LoopDevice$Holdings" "kind" "I", Cond.fieldLink RX4 68 "LoopDevice$Holdings" "shortAddress" "I", Cond.methodLink RX4 222 yX1_add, Cond.methodLink RX4 241 yX4_addNumber, Cond.instanceMethod yX4_addNumber, Cond.selects RX4 yX4_addNumber yX4_addNumber, Cond.code yX4_addNumber cX4_addNumber 1 none, Cond.fieldLink RX4 256 "LoopDevice$Holdings" "number" "I", Cond.methodLink RX4 224 yX1_beginCount, Cond.instanceMethod yX1_beginCount, Cond.selects RX1 yX1_beginCount yX1_beginCount, Cond.code yX1_beginCount cX1_beginCount 1 none, Cond.fieldLink RX1 30 "LoopDevice$FrameWriter" "countPlace" "I", Cond.methodLink RX4 227 yX2_statusFor, Cond.instanceMethod yX2_statusFor, Cond.selects RX2 yX2_statusFor yX2_statusFor, Cond.initialized RX2, Cond.code yX2_statusFor cX2_statusFor 4 (some .int), Cond.fieldLink RX2 44 "LoopDevice$Holdings" "failed" "Z", Cond.fieldLink RX2 24 "LoopDevice$Holdings" "changed" "I", Cond.fieldLink RX2 27 "LoopDevice$Holdings" "cold" "I", Cond.fieldLink RX2 48 "LoopDevice$Holdings" "lower" "I"]
def wsX4_tick_r4 : List Cond := [Cond.fieldLink RX2 21 "LoopDevice$Holdings" "upper" "I", Cond.methodLink RX2 40 yX2_variableAt, Cond.instanceMethod yX2_variableAt, Cond.selects RX2 yX2_variableAt yX2_variableAt, Cond.code yX2_variableAt cX2_variableAt 2 (some .int), Cond.fieldLink RX2 37 "LoopDevice$Holdings" "variables" "[I", Cond.methodLink RX4 230 yX4_addData, Cond.instanceMethod yX4_addData, Cond.selects RX4 yX4_addData yX4_addData, Cond.code yX4_addData cX4_addData 3 none, Cond.fieldLink RX4 71 "LoopDevice$Holdings" "unit" "I", Cond.fieldLink RX4 64 "LoopDevice$Holdings" "failed" "Z", Cond.fieldLink RX4 86 "LoopDevice" "answers" "I", Cond.methodLink RX4 244 yX4_addIdentity, Cond.instanceMethod yX4_addIdentity, Cond.selects RX4 yX4_addIdentity yX4_addIdentity, Cond.code yX4_addIdentity cX4_addIdentity 1 none, Cond.methodLink RX4 57 yX2_variableAt, Cond.methodLink RX4 247 yX1_addFour, Cond.instanceMethod yX1_addFour, Cond.selects RX1 yX1_addFour yX1_addFour, Cond.code yX1_addFour cX1_addFour 2 none, Cond.methodLink RX4 250 yX2_level, Cond.instanceMethod yX2_level]
def wsX4_tick_r5 : List Cond := [Cond.selects RX2 yX2_level yX2_level, Cond.code yX2_level cX2_level 5 (some .int), Cond.constantLong RX2 51 (16000), Cond.constantLong RX2 53 (4000), Cond.constantLong RX2 55 (3800), Cond.constantLong RX2 57 (20500), Cond.methodLink RX2 59 Lib.MathLoose.min_long.x, Cond.static Lib.MathLoose.min_long.x, Cond.initialized "java/lang/Math", Cond.code Lib.MathLoose.min_long.x Lib.MathLoose.min_long.code 4 (some .long), Cond.methodLink RX2 65 Lib.MathLoose.max_long.x, Cond.static Lib.MathLoose.max_long.x, Cond.code Lib.MathLoose.max_long.x Lib.MathLoose.max_long.code 4 (some .long), Cond.methodLink RX4 98 yX2_tagByte, Cond.instanceMethod yX2_tagByte, Cond.selects RX2 yX2_tagByte yX2_tagByte, Cond.code yX2_tagByte cX2_tagByte 2 (some .int), Cond.fieldLink RX2 33 "LoopDevice$Holdings" "tagBytes" "[I", Cond.methodLink RX4 253 yX4_addEcho, Cond.instanceMethod yX4_addEcho, Cond.selects RX4 yX4_addEcho yX4_addEcho, Cond.code yX4_addEcho cX4_addEcho 3 none, Cond.fieldLink RX4 190 "LoopDevice$FrameReader" "count" "I", Cond.methodLink RX4 212 yX4_setsSomething]
def wsX4_tick_r6 : List Cond := [Cond.static yX4_setsSomething, Cond.code yX4_setsSomething cX4_setsSomething 1 (some .boolean), Cond.methodLink RX4 193 yX0_dataAt, Cond.instanceMethod yX0_dataAt, Cond.selects RX0 yX0_dataAt yX0_dataAt, Cond.initialized RX0, Cond.code yX0_dataAt cX0_dataAt 2 (some .int), Cond.fieldLink RX0 63 "LoopDevice$FrameReader" "count" "I", Cond.fieldLink RX0 15 "LoopDevice$FrameReader" "data" "[I", Cond.methodLink RX4 233 yX1_end, Cond.instanceMethod yX1_end, Cond.selects RX1 yX1_end yX1_end, Cond.code yX1_end cX1_end 3 none, Cond.methodLink RX4 114 yX1_takeNext, Cond.instanceMethod yX1_takeNext, Cond.selects RX1 yX1_takeNext yX1_takeNext, Cond.code yX1_takeNext cX1_takeNext 2 (some .int), Cond.methodLink RX4 118 yX3_add, Cond.instanceMethod yX3_add, Cond.selects RX3 yX3_add yX3_add, Cond.initialized RX3, Cond.code yX3_add cX3_add 4 none, Cond.fieldLink RX3 18 "LoopDevice$SentBytes" "total" "I", Cond.fieldLink RX3 11 "LoopDevice$SentBytes" "bytes" "[I"]
def wsX4_tick_r7 : List Cond := [Cond.fieldLink RX3 15 "LoopDevice$SentBytes" "ticksOfBytes" "[I", Cond.methodLink RX4 121 yX0_beginAnew, Cond.instanceMethod yX0_beginAnew, Cond.selects RX0 yX0_beginAnew yX0_beginAnew, Cond.code yX0_beginAnew cX0_beginAnew 1 none, Cond.fieldLink RX0 18 "LoopDevice$FrameReader" "place" "I", Cond.fieldLink RX0 22 "LoopDevice$FrameReader" "preamble" "I", Cond.methodLink RX4 124 yX0_take, Cond.instanceMethod yX0_take, Cond.selects RX0 yX0_take yX0_take, Cond.code yX0_take cX0_take 2 (some .boolean), Cond.fieldLink RX0 25 "LoopDevice$FrameReader" "sum" "I", Cond.fieldLink RX0 28 "LoopDevice$FrameReader" "sumIsRight" "Z", Cond.fieldLink RX0 39 "LoopDevice$FrameReader" "command" "I", Cond.methodLink RX0 32 yX0_beginAnew, Cond.methodLink RX0 35 yX0_takeAddress, Cond.instanceMethod yX0_takeAddress, Cond.selects RX0 yX0_takeAddress yX0_takeAddress, Cond.code yX0_takeAddress cX0_takeAddress 2 none, Cond.fieldLink RX0 60 "LoopDevice$FrameReader" "taken" "I", Cond.fieldLink RX0 11 "LoopDevice$FrameReader" "address" "[I", Cond.fieldLink RX0 57 "LoopDevice$FrameReader" "isLong" "Z", Cond.methodLink RX0 42 yX0_takeCount, Cond.instanceMethod yX0_takeCount]
def wsX4_tick_r8 : List Cond := [Cond.selects RX0 yX0_takeCount yX0_takeCount, Cond.code yX0_takeCount cX0_takeCount 2 none, Cond.methodLink RX0 45 yX0_takeData, Cond.instanceMethod yX0_takeData, Cond.selects RX0 yX0_takeData yX0_takeData, Cond.code yX0_takeData cX0_takeData 2 none, Cond.methodLink RX0 48 yX0_takePreamble, Cond.instanceMethod yX0_takePreamble, Cond.selects RX0 yX0_takePreamble yX0_takePreamble, Cond.code yX0_takePreamble cX0_takePreamble 3 none, Cond.methodLink RX0 51 Lib.Math.min.name, Cond.static Lib.Math.min.name, Cond.code Lib.Math.min.name Lib.Math.min.code 2 (some .int), Cond.methodLink RX4 128 yX4_countFrame, Cond.instanceMethod yX4_countFrame, Cond.selects RX4 yX4_countFrame yX4_countFrame, Cond.code yX4_countFrame cX4_countFrame 2 (some .boolean), Cond.fieldLink RX4 144 "LoopDevice$FrameReader" "sumIsRight" "Z", Cond.fieldLink RX4 92 "LoopDevice" "goodFrames" "I", Cond.fieldLink RX4 95 "LoopDevice" "otherFrames" "I", Cond.methodLink RX4 147 yX4_isForDevice, Cond.instanceMethod yX4_isForDevice, Cond.selects RX4 yX4_isForDevice yX4_isForDevice, Cond.code yX4_isForDevice cX4_isForDevice 1 (some .boolean)]
def wsX4_tick_r9 : List Cond := [Cond.fieldLink RX4 150 "LoopDevice$FrameReader" "isLong" "Z", Cond.methodLink RX4 153 yX0_station, Cond.instanceMethod yX0_station, Cond.selects RX0 yX0_station yX0_station, Cond.code yX0_station cX0_station 1 (some .int), Cond.methodLink RX0 66 yX0_addressAt, Cond.instanceMethod yX0_addressAt, Cond.selects RX0 yX0_addressAt yX0_addressAt, Cond.code yX0_addressAt cX0_addressAt 2 (some .int), Cond.methodLink RX4 156 yX4_isBroadcast, Cond.instanceMethod yX4_isBroadcast, Cond.selects RX4 yX4_isBroadcast yX4_isBroadcast, Cond.code yX4_isBroadcast cX4_isBroadcast 1 (some .boolean), Cond.fieldLink RX4 169 "LoopDevice$FrameReader" "command" "I", Cond.methodLink RX4 159 yX0_kind, Cond.instanceMethod yX0_kind, Cond.selects RX0 yX0_kind yX0_kind, Cond.code yX0_kind cX0_kind 1 (some .int), Cond.methodLink RX4 162 yX0_number, Cond.instanceMethod yX0_number, Cond.selects RX0 yX0_number yX0_number, Cond.code yX0_number cX0_number 1 (some .int), Cond.methodLink RX4 165 yX2_hasLongAddress, Cond.instanceMethod yX2_hasLongAddress]
def wsX4_tick_r10 : List Cond := [Cond.selects RX2 yX2_hasLongAddress yX2_hasLongAddress, Cond.code yX2_hasLongAddress cX2_hasLongAddress 4 (some .boolean), Cond.fieldLink RX2 9 "LoopDevice$Holdings" "maker" "I", Cond.fieldLink RX2 15 "LoopDevice$Holdings" "kind" "I", Cond.fieldLink RX2 18 "LoopDevice$Holdings" "number" "I", Cond.methodLink RX4 131 yX4_answerFrame, Cond.instanceMethod yX4_answerFrame, Cond.selects RX4 yX4_answerFrame yX4_answerFrame, Cond.code yX4_answerFrame cX4_answerFrame 3 none, Cond.fieldLink RX4 184 "LoopDevice$Holdings" "cold" "I", Cond.methodLink RX4 172 yX4_codeOfFrame, Cond.instanceMethod yX4_codeOfFrame, Cond.selects RX4 yX4_codeOfFrame yX4_codeOfFrame, Cond.code yX4_codeOfFrame cX4_codeOfFrame 3 (some .int), Cond.methodLink RX4 187 yX4_countOfCommand, Cond.static yX4_countOfCommand, Cond.code yX4_countOfCommand cX4_countOfCommand 1 (some .int), Cond.methodLink RX4 196 yX4_tagIsInFrame, Cond.instanceMethod yX4_tagIsInFrame, Cond.selects RX4 yX4_tagIsInFrame yX4_tagIsInFrame, Cond.code yX4_tagIsInFrame cX4_tagIsInFrame 2 (some .boolean), Cond.methodLink RX4 199 yX0_fourAt, Cond.instanceMethod yX0_fourAt, Cond.selects RX0 yX0_fourAt yX0_fourAt]
def wsX4_tick_r11 : List Cond := [Cond.code yX0_fourAt cX0_fourAt 2 (some .int), Cond.methodLink RX0 70 yX0_dataAt, Cond.methodLink RX4 202 yX4_codeOfEnds, Cond.static yX4_codeOfEnds, Cond.code yX4_codeOfEnds cX4_codeOfEnds 2 (some .int), Cond.methodLink RX4 175 yX0_master, Cond.instanceMethod yX0_master, Cond.selects RX0 yX0_master yX0_master, Cond.code yX0_master cX0_master 1 (some .int), Cond.methodLink RX4 178 yX4_carryOut, Cond.instanceMethod yX4_carryOut, Cond.selects RX4 yX4_carryOut yX4_carryOut, Cond.code yX4_carryOut cX4_carryOut 4 none, Cond.fieldLink RX4 77 "LoopDevice$Holdings" "upper" "I", Cond.fieldLink RX4 74 "LoopDevice$Holdings" "lower" "I", Cond.fieldLink RX4 209 "LoopDevice$Holdings" "changed" "I", Cond.methodLink RX4 206 yX2_setTagByte, Cond.instanceMethod yX2_setTagByte, Cond.selects RX2 yX2_setTagByte yX2_setTagByte, Cond.code yX2_setTagByte cX2_setTagByte 3 none, Cond.methodLink RX4 181 yX1_waitOneTick, Cond.instanceMethod yX1_waitOneTick, Cond.selects RX1 yX1_waitOneTick yX1_waitOneTick, Cond.code yX1_waitOneTick cX1_waitOneTick 1 none]
def wsX4_tick : List Cond := .code yX4_tick cX4_tick 3 (some .int) :: ((wsX4_tick_r1 ++ (wsX4_tick_r2 ++ (wsX4_tick_r3 ++ (wsX4_tick_r4 ++ (wsX4_tick_r5 ++ (wsX4_tick_r6 ++ (wsX4_tick_r7 ++ (wsX4_tick_r8 ++ (wsX4_tick_r9 ++ (wsX4_tick_r10 ++ wsX4_tick_r11)))))))))) ++ wsX40 ++ wsX30 ++ wsX20 ++ wsX10 ++ wsX00)
def wsX4_sent : List Cond := .code yX4_sent cX4_sent 2 (some .int) :: ([.fieldLink RX4 36 "LoopDevice" "gone" "LLoopDevice$SentBytes;", .methodLink RX4 48 yX3_byteAt, .instanceMethod yX3_byteAt, .selects RX3 yX3_byteAt yX3_byteAt, .initialized RX3, .code yX3_byteAt cX3_byteAt 3 (some .int), .fieldLink RX3 11 "LoopDevice$SentBytes" "bytes" "[I", .methodLink RX3 22 yX3_placeOf, .instanceMethod yX3_placeOf, .selects RX3 yX3_placeOf yX3_placeOf, .code yX3_placeOf cX3_placeOf 2 (some .int), .fieldLink RX3 18 "LoopDevice$SentBytes" "total" "I"] ++ wsX40 ++ wsX30)
def wsX4_when : List Cond := .code yX4_when cX4_when 2 (some .int) :: ([.fieldLink RX4 36 "LoopDevice" "gone" "LLoopDevice$SentBytes;", .methodLink RX4 52 yX3_tickAt, .instanceMethod yX3_tickAt, .selects RX3 yX3_tickAt yX3_tickAt, .initialized RX3, .code yX3_tickAt cX3_tickAt 3 (some .int), .fieldLink RX3 15 "LoopDevice$SentBytes" "ticksOfBytes" "[I", .methodLink RX3 22 yX3_placeOf, .instanceMethod yX3_placeOf, .selects RX3 yX3_placeOf yX3_placeOf, .code yX3_placeOf cX3_placeOf 2 (some .int), .fieldLink RX3 18 "LoopDevice$SentBytes" "total" "I"] ++ wsX40 ++ wsX30)
def wsX4_variable : List Cond := .code yX4_variable cX4_variable 5 (some .long) :: ([.constantLong RX4 55 (-1), .fieldLink RX4 15 "LoopDevice" "holdings" "LLoopDevice$Holdings;", .methodLink RX4 57 yX2_variableAt, .instanceMethod yX2_variableAt, .selects RX2 yX2_variableAt yX2_variableAt, .initialized RX2, .code yX2_variableAt cX2_variableAt 2 (some .int), .fieldLink RX2 37 "LoopDevice$Holdings" "variables" "[I", .methodLink RX4 60 yX2_setVariable, .instanceMethod yX2_setVariable, .selects RX2 yX2_setVariable yX2_setVariable, .code yX2_setVariable cX2_setVariable 3 none] ++ wsX40 ++ wsX20)
def wsX4_failure : List Cond := .code yX4_failure cX4_failure 2 (some .int) :: ([.fieldLink RX4 15 "LoopDevice" "holdings" "LLoopDevice$Holdings;", .fieldLink RX4 64 "LoopDevice$Holdings" "failed" "Z"] ++ wsX40 ++ wsX20)
def wsX4_has : List Cond := .code yX4_has cX4_has 2 (some .long) :: ([.fieldLink RX4 15 "LoopDevice" "holdings" "LLoopDevice$Holdings;", .fieldLink RX4 68 "LoopDevice$Holdings" "shortAddress" "I", .fieldLink RX4 71 "LoopDevice$Holdings" "unit" "I", .fieldLink RX4 74 "LoopDevice$Holdings" "lower" "I", .fieldLink RX4 77 "LoopDevice$Holdings" "upper" "I", .fieldLink RX4 80 "LoopDevice$Holdings" "burstOn" "Z", .fieldLink RX4 83 "LoopDevice$Holdings" "burstCommand" "I", .fieldLink RX4 86 "LoopDevice" "answers" "I", .fieldLink RX4 89 "LoopDevice" "bursts" "I", .fieldLink RX4 92 "LoopDevice" "goodFrames" "I", .fieldLink RX4 95 "LoopDevice" "otherFrames" "I", .constantLong RX4 55 (-1)] ++ wsX40 ++ wsX20)
def wsX4_tag : List Cond := .code yX4_tag cX4_tag 2 (some .int) :: ([.fieldLink RX4 15 "LoopDevice" "holdings" "LLoopDevice$Holdings;", .methodLink RX4 98 yX2_tagByte, .instanceMethod yX2_tagByte, .selects RX2 yX2_tagByte yX2_tagByte, .initialized RX2, .code yX2_tagByte cX2_tagByte 2 (some .int), .fieldLink RX2 33 "LoopDevice$Holdings" "tagBytes" "[I"] ++ wsX40 ++ wsX20)
def wsX4_now : List Cond := .code yX4_now cX4_now 1 (some .int) :: ([.fieldLink RX4 101 "LoopDevice" "ticks" "I"] ++ wsX40)
def wsX5_init : List Cond := .code yX5_init cX5_init 5 none :: ([.methodLink RX5 1 objectInit, .instanceMethod objectInit, .code objectInit ⟨#[0xb1]⟩ 1 none, .arrayClass .int, .fieldLink RX5 7 "LoopDeviceModel" "own" "[I", .fieldLink RX5 13 "LoopDeviceModel" "tags" "[I", .fieldLink RX5 16 "LoopDeviceModel" "variables" "[I", .fieldLink RX5 19 "LoopDeviceModel" "upper" "I", .arrayClass .boolean, .fieldLink RX5 23 "LoopDeviceModel" "isChanged" "[Z", .fieldLink RX5 27 "LoopDeviceModel" "isCold" "[Z", .fieldLink RX5 30 "LoopDeviceModel" "burstCommand" "I", .fieldLink RX5 33 "LoopDeviceModel" "frame" "[I", .fieldLink RX5 36 "LoopDeviceModel" "out" "[I", .constantLong RX5 39 (-1), .fieldLink RX5 41 "LoopDeviceModel" "outFrom" "J", .fieldLink RX5 45 "LoopDeviceModel" "latest" "J", .fieldLink RX5 48 "LoopDeviceModel" "sentBytes" "[I", .fieldLink RX5 51 "LoopDeviceModel" "sentTicks" "[I"] ++ wsX50)
def wsX5_addressSize : List Cond := .code yX5_addressSize cX5_addressSize 1 (some .int) :: ([.fieldLink RX5 33 "LoopDeviceModel" "frame" "[I"] ++ wsX50)
def wsX5_command : List Cond := .code yX5_command cX5_command 1 (some .int) :: ([.fieldLink RX5 33 "LoopDeviceModel" "frame" "[I", .methodLink RX5 57 yX5_addressSize, .instanceMethod yX5_addressSize, .selects RX5 yX5_addressSize yX5_addressSize, .initialized RX5, .code yX5_addressSize cX5_addressSize 1 (some .int)] ++ wsX50)
def wsX5_count : List Cond := .code yX5_count cX5_count 1 (some .int) :: ([.fieldLink RX5 33 "LoopDeviceModel" "frame" "[I", .methodLink RX5 57 yX5_addressSize, .instanceMethod yX5_addressSize, .selects RX5 yX5_addressSize yX5_addressSize, .initialized RX5, .code yX5_addressSize cX5_addressSize 1 (some .int)] ++ wsX50)
def wsX5_data : List Cond := .code yX5_data cX5_data 2 (some .int) :: ([.fieldLink RX5 33 "LoopDeviceModel" "frame" "[I", .methodLink RX5 57 yX5_addressSize, .instanceMethod yX5_addressSize, .selects RX5 yX5_addressSize yX5_addressSize, .initialized RX5, .code yX5_addressSize cX5_addressSize 1 (some .int)] ++ wsX50)
def wsX5_word : List Cond := .code yX5_word cX5_word 2 (some .int) :: ([.methodLink RX5 61 yX5_data, .instanceMethod yX5_data, .selects RX5 yX5_data yX5_data, .initialized RX5, .code yX5_data cX5_data 2 (some .int), .fieldLink RX5 33 "LoopDeviceModel" "frame" "[I", .methodLink RX5 57 yX5_addressSize, .instanceMethod yX5_addressSize, .selects RX5 yX5_addressSize yX5_addressSize, .code yX5_addressSize cX5_addressSize 1 (some .int)] ++ wsX50)
def wsX5_master : List Cond := .code yX5_master cX5_master 1 (some .int) :: ([.fieldLink RX5 33 "LoopDeviceModel" "frame" "[I"] ++ wsX50)
def wsX5_forget : List Cond := .code yX5_forget cX5_forget 1 none :: ([.fieldLink RX5 65 "LoopDeviceModel" "preamble" "I", .fieldLink RX5 68 "LoopDeviceModel" "came" "I"] ++ wsX50)
def wsX5_keep : List Cond := .code yX5_keep cX5_keep 3 (some .boolean) :: ([.fieldLink RX5 68 "LoopDeviceModel" "came" "I", .fieldLink RX5 65 "LoopDeviceModel" "preamble" "I", .fieldLink RX5 33 "LoopDeviceModel" "frame" "[I", .methodLink RX5 57 yX5_addressSize, .instanceMethod yX5_addressSize, .selects RX5 yX5_addressSize yX5_addressSize, .initialized RX5, .code yX5_addressSize cX5_addressSize 1 (some .int), .methodLink RX5 71 yX5_count, .instanceMethod yX5_count, .selects RX5 yX5_count yX5_count, .code yX5_count cX5_count 1 (some .int), .methodLink RX5 74 yX5_forget, .instanceMethod yX5_forget, .selects RX5 yX5_forget yX5_forget, .code yX5_forget cX5_forget 1 none] ++ wsX50)
def wsX5_isRight : List Cond := .code yX5_isRight cX5_isRight 3 (some .boolean) :: ([.fieldLink RX5 68 "LoopDeviceModel" "came" "I", .fieldLink RX5 33 "LoopDeviceModel" "frame" "[I"] ++ wsX50)
def wsX5_isBroadcast : List Cond := .code yX5_isBroadcast cX5_isBroadcast 1 (some .boolean) :: ([.fieldLink RX5 33 "LoopDeviceModel" "frame" "[I", .methodLink RX5 57 yX5_addressSize, .instanceMethod yX5_addressSize, .selects RX5 yX5_addressSize yX5_addressSize, .initialized RX5, .code yX5_addressSize cX5_addressSize 1 (some .int), .methodLink RX5 77 yX5_command, .instanceMethod yX5_command, .selects RX5 yX5_command yX5_command, .code yX5_command cX5_command 1 (some .int)] ++ wsX50)
def wsX5_isOwn : List Cond := .code yX5_isOwn cX5_isOwn 3 (some .boolean) :: ([.fieldLink RX5 33 "LoopDeviceModel" "frame" "[I", .fieldLink RX5 80 "LoopDeviceModel" "shortAddress" "I", .fieldLink RX5 7 "LoopDeviceModel" "own" "[I", .methodLink RX5 57 yX5_addressSize, .instanceMethod yX5_addressSize, .selects RX5 yX5_addressSize yX5_addressSize, .initialized RX5, .code yX5_addressSize cX5_addressSize 1 (some .int), .methodLink RX5 83 yX5_isBroadcast, .instanceMethod yX5_isBroadcast, .selects RX5 yX5_isBroadcast yX5_isBroadcast, .code yX5_isBroadcast cX5_isBroadcast 1 (some .boolean), .methodLink RX5 77 yX5_command, .instanceMethod yX5_command, .selects RX5 yX5_command yX5_command, .code yX5_command cX5_command 1 (some .int)] ++ wsX50)
def wsX5_countWanted : List Cond := .code yX5_countWanted cX5_countWanted 1 (some .int) :: ([])
def wsX5_hasTag : List Cond := .code yX5_hasTag cX5_hasTag 3 (some .boolean) :: ([.fieldLink RX5 13 "LoopDeviceModel" "tags" "[I", .methodLink RX5 61 yX5_data, .instanceMethod yX5_data, .selects RX5 yX5_data yX5_data, .initialized RX5, .code yX5_data cX5_data 2 (some .int), .fieldLink RX5 33 "LoopDeviceModel" "frame" "[I", .methodLink RX5 57 yX5_addressSize, .instanceMethod yX5_addressSize, .selects RX5 yX5_addressSize yX5_addressSize, .code yX5_addressSize cX5_addressSize 1 (some .int)] ++ wsX50)
def wsX5_codeOf_r1 : List Cond := [Cond.methodLink RX5 77 yX5_command, Cond.instanceMethod yX5_command, Cond.selects RX5 yX5_command yX5_command, Cond.initialized RX5, Cond.code yX5_command cX5_command 1 (some .int), Cond.fieldLink RX5 33 "LoopDeviceModel" "frame" "[I", Cond.methodLink RX5 57 yX5_addressSize, Cond.instanceMethod yX5_addressSize, Cond.selects RX5 yX5_addressSize yX5_addressSize, Cond.code yX5_addressSize cX5_addressSize 1 (some .int), Cond.methodLink RX5 87 yX5_countWanted, Cond.static yX5_countWanted, Cond.code yX5_countWanted cX5_countWanted 1 (some .int), Cond.methodLink RX5 71 yX5_count, Cond.instanceMethod yX5_count, Cond.selects RX5 yX5_count yX5_count, Cond.code yX5_count cX5_count 1 (some .int), Cond.methodLink RX5 61 yX5_data, Cond.instanceMethod yX5_data, Cond.selects RX5 yX5_data yX5_data, Cond.code yX5_data cX5_data 2 (some .int), Cond.methodLink RX5 90 yX5_hasTag, Cond.instanceMethod yX5_hasTag, Cond.selects RX5 yX5_hasTag yX5_hasTag]
def wsX5_codeOf_r2 : List Cond := [Cond.code yX5_hasTag cX5_hasTag 3 (some .boolean), Cond.fieldLink RX5 13 "LoopDeviceModel" "tags" "[I", Cond.methodLink RX5 93 yX5_word, Cond.instanceMethod yX5_word, Cond.selects RX5 yX5_word yX5_word, Cond.code yX5_word cX5_word 2 (some .int)]
def wsX5_codeOf : List Cond := .code yX5_codeOf cX5_codeOf 3 (some .int) :: ((wsX5_codeOf_r1 ++ wsX5_codeOf_r2) ++ wsX50)
def wsX5_obey_r1 : List Cond := [Cond.fieldLink RX5 23 "LoopDeviceModel" "isChanged" "[Z", Cond.fieldLink RX5 80 "LoopDeviceModel" "shortAddress" "I", Cond.fieldLink RX5 13 "LoopDeviceModel" "tags" "[I", Cond.fieldLink RX5 99 "LoopDeviceModel" "unit" "I", Cond.fieldLink RX5 19 "LoopDeviceModel" "upper" "I", Cond.fieldLink RX5 102 "LoopDeviceModel" "lower" "I", Cond.fieldLink RX5 30 "LoopDeviceModel" "burstCommand" "I", Cond.fieldLink RX5 105 "LoopDeviceModel" "isBurst" "Z", Cond.methodLink RX5 77 yX5_command, Cond.instanceMethod yX5_command, Cond.selects RX5 yX5_command yX5_command, Cond.initialized RX5, Cond.code yX5_command cX5_command 1 (some .int), Cond.fieldLink RX5 33 "LoopDeviceModel" "frame" "[I", Cond.methodLink RX5 57 yX5_addressSize, Cond.instanceMethod yX5_addressSize, Cond.selects RX5 yX5_addressSize yX5_addressSize, Cond.code yX5_addressSize cX5_addressSize 1 (some .int), Cond.methodLink RX5 96 yX5_master, Cond.instanceMethod yX5_master, Cond.selects RX5 yX5_master yX5_master, Cond.code yX5_master cX5_master 1 (some .int), Cond.methodLink RX5 61 yX5_data, Cond.instanceMethod yX5_data]
def wsX5_obey_r2 : List Cond := [Cond.selects RX5 yX5_data yX5_data, Cond.code yX5_data cX5_data 2 (some .int), Cond.methodLink RX5 93 yX5_word, Cond.instanceMethod yX5_word, Cond.selects RX5 yX5_word yX5_word, Cond.code yX5_word cX5_word 2 (some .int)]
def wsX5_obey : List Cond := .code yX5_obey cX5_obey 3 none :: ((wsX5_obey_r1 ++ wsX5_obey_r2) ++ wsX50)
def wsX5_put : List Cond := .code yX5_put cX5_put 2 none :: ([.fieldLink RX5 36 "LoopDeviceModel" "out" "[I", .fieldLink RX5 109 "LoopDeviceModel" "outSize" "I"] ++ wsX50)
def wsX5_putWord : List Cond := .code yX5_putWord cX5_putWord 2 none :: ([.methodLink RX5 112 yX5_put, .instanceMethod yX5_put, .selects RX5 yX5_put yX5_put, .initialized RX5, .code yX5_put cX5_put 2 none, .fieldLink RX5 36 "LoopDeviceModel" "out" "[I", .fieldLink RX5 109 "LoopDeviceModel" "outSize" "I"] ++ wsX50)
def wsX5_putLevel : List Cond := .code yX5_putLevel cX5_putLevel 5 none :: ([.fieldLink RX5 16 "LoopDeviceModel" "variables" "[I", .fieldLink RX5 102 "LoopDeviceModel" "lower" "I", .constantLong RX5 116 (16000), .fieldLink RX5 19 "LoopDeviceModel" "upper" "I", .constantLong RX5 118 (4000), .constantLong RX5 120 (3800), .constantLong RX5 122 (20500), .methodLink RX5 124 yX5_putWord, .instanceMethod yX5_putWord, .selects RX5 yX5_putWord yX5_putWord, .initialized RX5, .code yX5_putWord cX5_putWord 2 none, .methodLink RX5 112 yX5_put, .instanceMethod yX5_put, .selects RX5 yX5_put yX5_put, .code yX5_put cX5_put 2 none, .fieldLink RX5 36 "LoopDeviceModel" "out" "[I", .fieldLink RX5 109 "LoopDeviceModel" "outSize" "I"] ++ wsX50)
def wsX5_putData_r1 : List Cond := [Cond.fieldLink RX5 7 "LoopDeviceModel" "own" "[I", Cond.fieldLink RX5 99 "LoopDeviceModel" "unit" "I", Cond.fieldLink RX5 16 "LoopDeviceModel" "variables" "[I", Cond.fieldLink RX5 13 "LoopDeviceModel" "tags" "[I", Cond.fieldLink RX5 130 "LoopDeviceModel" "hasFailed" "Z", Cond.fieldLink RX5 133 "LoopDeviceModel" "answers" "I", Cond.methodLink RX5 112 yX5_put, Cond.instanceMethod yX5_put, Cond.selects RX5 yX5_put yX5_put, Cond.initialized RX5, Cond.code yX5_put cX5_put 2 none, Cond.fieldLink RX5 36 "LoopDeviceModel" "out" "[I", Cond.fieldLink RX5 109 "LoopDeviceModel" "outSize" "I", Cond.methodLink RX5 124 yX5_putWord, Cond.instanceMethod yX5_putWord, Cond.selects RX5 yX5_putWord yX5_putWord, Cond.code yX5_putWord cX5_putWord 2 none, Cond.methodLink RX5 127 yX5_putLevel, Cond.instanceMethod yX5_putLevel, Cond.selects RX5 yX5_putLevel yX5_putLevel, Cond.code yX5_putLevel cX5_putLevel 5 none, Cond.fieldLink RX5 102 "LoopDeviceModel" "lower" "I", Cond.constantLong RX5 116 (16000), Cond.fieldLink RX5 19 "LoopDeviceModel" "upper" "I"]
def wsX5_putData_r2 : List Cond := [Cond.constantLong RX5 118 (4000), Cond.constantLong RX5 120 (3800), Cond.constantLong RX5 122 (20500), Cond.methodLink RX5 71 yX5_count, Cond.instanceMethod yX5_count, Cond.selects RX5 yX5_count yX5_count, Cond.code yX5_count cX5_count 1 (some .int), Cond.fieldLink RX5 33 "LoopDeviceModel" "frame" "[I", Cond.methodLink RX5 57 yX5_addressSize, Cond.instanceMethod yX5_addressSize, Cond.selects RX5 yX5_addressSize yX5_addressSize, Cond.code yX5_addressSize cX5_addressSize 1 (some .int), Cond.methodLink RX5 61 yX5_data, Cond.instanceMethod yX5_data, Cond.selects RX5 yX5_data yX5_data, Cond.code yX5_data cX5_data 2 (some .int)]
def wsX5_putData : List Cond := .code yX5_putData cX5_putData 3 none :: ((wsX5_putData_r1 ++ wsX5_putData_r2) ++ wsX50)
def wsX5_statusOf : List Cond := .code yX5_statusOf cX5_statusOf 3 (some .int) :: ([.fieldLink RX5 130 "LoopDeviceModel" "hasFailed" "Z", .fieldLink RX5 23 "LoopDeviceModel" "isChanged" "[Z", .fieldLink RX5 27 "LoopDeviceModel" "isCold" "[Z", .fieldLink RX5 16 "LoopDeviceModel" "variables" "[I", .fieldLink RX5 102 "LoopDeviceModel" "lower" "I", .fieldLink RX5 19 "LoopDeviceModel" "upper" "I"] ++ wsX50)
def wsX5_send_r1 : List Cond := [Cond.fieldLink RX5 109 "LoopDeviceModel" "outSize" "I", Cond.fieldLink RX5 41 "LoopDeviceModel" "outFrom" "J", Cond.fieldLink RX5 80 "LoopDeviceModel" "shortAddress" "I", Cond.fieldLink RX5 7 "LoopDeviceModel" "own" "[I", Cond.fieldLink RX5 105 "LoopDeviceModel" "isBurst" "Z", Cond.fieldLink RX5 36 "LoopDeviceModel" "out" "[I", Cond.methodLink RX5 112 yX5_put, Cond.instanceMethod yX5_put, Cond.selects RX5 yX5_put yX5_put, Cond.initialized RX5, Cond.code yX5_put cX5_put 2 none, Cond.methodLink RX5 136 yX5_statusOf, Cond.instanceMethod yX5_statusOf, Cond.selects RX5 yX5_statusOf yX5_statusOf, Cond.code yX5_statusOf cX5_statusOf 3 (some .int), Cond.fieldLink RX5 130 "LoopDeviceModel" "hasFailed" "Z", Cond.fieldLink RX5 23 "LoopDeviceModel" "isChanged" "[Z", Cond.fieldLink RX5 27 "LoopDeviceModel" "isCold" "[Z", Cond.fieldLink RX5 16 "LoopDeviceModel" "variables" "[I", Cond.fieldLink RX5 102 "LoopDeviceModel" "lower" "I", Cond.fieldLink RX5 19 "LoopDeviceModel" "upper" "I", Cond.methodLink RX5 139 yX5_putData, Cond.instanceMethod yX5_putData, Cond.selects RX5 yX5_putData yX5_putData]
def wsX5_send_r2 : List Cond := [Cond.code yX5_putData cX5_putData 3 none, Cond.fieldLink RX5 99 "LoopDeviceModel" "unit" "I", Cond.fieldLink RX5 13 "LoopDeviceModel" "tags" "[I", Cond.fieldLink RX5 133 "LoopDeviceModel" "answers" "I", Cond.methodLink RX5 124 yX5_putWord, Cond.instanceMethod yX5_putWord, Cond.selects RX5 yX5_putWord yX5_putWord, Cond.code yX5_putWord cX5_putWord 2 none, Cond.methodLink RX5 127 yX5_putLevel, Cond.instanceMethod yX5_putLevel, Cond.selects RX5 yX5_putLevel yX5_putLevel, Cond.code yX5_putLevel cX5_putLevel 5 none, Cond.constantLong RX5 116 (16000), Cond.constantLong RX5 118 (4000), Cond.constantLong RX5 120 (3800), Cond.constantLong RX5 122 (20500), Cond.methodLink RX5 71 yX5_count, Cond.instanceMethod yX5_count, Cond.selects RX5 yX5_count yX5_count, Cond.code yX5_count cX5_count 1 (some .int), Cond.fieldLink RX5 33 "LoopDeviceModel" "frame" "[I", Cond.methodLink RX5 57 yX5_addressSize, Cond.instanceMethod yX5_addressSize, Cond.selects RX5 yX5_addressSize yX5_addressSize]
def wsX5_send_r3 : List Cond := [Cond.code yX5_addressSize cX5_addressSize 1 (some .int), Cond.methodLink RX5 61 yX5_data, Cond.instanceMethod yX5_data, Cond.selects RX5 yX5_data yX5_data, Cond.code yX5_data cX5_data 2 (some .int)]
def wsX5_send : List Cond := .code yX5_send cX5_send 11 none :: ((wsX5_send_r1 ++ (wsX5_send_r2 ++ wsX5_send_r3)) ++ wsX50)
def wsX5_answer_r1 : List Cond := [Cond.fieldLink RX5 142 "LoopDeviceModel" "good" "I", Cond.fieldLink RX5 133 "LoopDeviceModel" "answers" "I", Cond.fieldLink RX5 151 "LoopDeviceModel" "now" "I", Cond.constantLong RX5 154 (2), Cond.fieldLink RX5 27 "LoopDeviceModel" "isCold" "[Z", Cond.methodLink RX5 145 yX5_codeOf, Cond.instanceMethod yX5_codeOf, Cond.selects RX5 yX5_codeOf yX5_codeOf, Cond.initialized RX5, Cond.code yX5_codeOf cX5_codeOf 3 (some .int), Cond.methodLink RX5 77 yX5_command, Cond.instanceMethod yX5_command, Cond.selects RX5 yX5_command yX5_command, Cond.code yX5_command cX5_command 1 (some .int), Cond.fieldLink RX5 33 "LoopDeviceModel" "frame" "[I", Cond.methodLink RX5 57 yX5_addressSize, Cond.instanceMethod yX5_addressSize, Cond.selects RX5 yX5_addressSize yX5_addressSize, Cond.code yX5_addressSize cX5_addressSize 1 (some .int), Cond.methodLink RX5 87 yX5_countWanted, Cond.static yX5_countWanted, Cond.code yX5_countWanted cX5_countWanted 1 (some .int), Cond.methodLink RX5 71 yX5_count, Cond.instanceMethod yX5_count]
def wsX5_answer_r2 : List Cond := [Cond.selects RX5 yX5_count yX5_count, Cond.code yX5_count cX5_count 1 (some .int), Cond.methodLink RX5 61 yX5_data, Cond.instanceMethod yX5_data, Cond.selects RX5 yX5_data yX5_data, Cond.code yX5_data cX5_data 2 (some .int), Cond.methodLink RX5 90 yX5_hasTag, Cond.instanceMethod yX5_hasTag, Cond.selects RX5 yX5_hasTag yX5_hasTag, Cond.code yX5_hasTag cX5_hasTag 3 (some .boolean), Cond.fieldLink RX5 13 "LoopDeviceModel" "tags" "[I", Cond.methodLink RX5 93 yX5_word, Cond.instanceMethod yX5_word, Cond.selects RX5 yX5_word yX5_word, Cond.code yX5_word cX5_word 2 (some .int), Cond.methodLink RX5 83 yX5_isBroadcast, Cond.instanceMethod yX5_isBroadcast, Cond.selects RX5 yX5_isBroadcast yX5_isBroadcast, Cond.code yX5_isBroadcast cX5_isBroadcast 1 (some .boolean), Cond.methodLink RX5 148 yX5_obey, Cond.instanceMethod yX5_obey, Cond.selects RX5 yX5_obey yX5_obey, Cond.code yX5_obey cX5_obey 3 none, Cond.fieldLink RX5 23 "LoopDeviceModel" "isChanged" "[Z"]
def wsX5_answer_r3 : List Cond := [Cond.fieldLink RX5 80 "LoopDeviceModel" "shortAddress" "I", Cond.fieldLink RX5 99 "LoopDeviceModel" "unit" "I", Cond.fieldLink RX5 19 "LoopDeviceModel" "upper" "I", Cond.fieldLink RX5 102 "LoopDeviceModel" "lower" "I", Cond.fieldLink RX5 30 "LoopDeviceModel" "burstCommand" "I", Cond.fieldLink RX5 105 "LoopDeviceModel" "isBurst" "Z", Cond.methodLink RX5 96 yX5_master, Cond.instanceMethod yX5_master, Cond.selects RX5 yX5_master yX5_master, Cond.code yX5_master cX5_master 1 (some .int), Cond.methodLink RX5 156 yX5_send, Cond.instanceMethod yX5_send, Cond.selects RX5 yX5_send yX5_send, Cond.code yX5_send cX5_send 11 none, Cond.fieldLink RX5 109 "LoopDeviceModel" "outSize" "I", Cond.fieldLink RX5 41 "LoopDeviceModel" "outFrom" "J", Cond.fieldLink RX5 7 "LoopDeviceModel" "own" "[I", Cond.fieldLink RX5 36 "LoopDeviceModel" "out" "[I", Cond.methodLink RX5 112 yX5_put, Cond.instanceMethod yX5_put, Cond.selects RX5 yX5_put yX5_put, Cond.code yX5_put cX5_put 2 none, Cond.methodLink RX5 136 yX5_statusOf, Cond.instanceMethod yX5_statusOf]
def wsX5_answer_r4 : List Cond := [Cond.selects RX5 yX5_statusOf yX5_statusOf, Cond.code yX5_statusOf cX5_statusOf 3 (some .int), Cond.fieldLink RX5 130 "LoopDeviceModel" "hasFailed" "Z", Cond.fieldLink RX5 16 "LoopDeviceModel" "variables" "[I", Cond.methodLink RX5 139 yX5_putData, Cond.instanceMethod yX5_putData, Cond.selects RX5 yX5_putData yX5_putData, Cond.code yX5_putData cX5_putData 3 none, Cond.methodLink RX5 124 yX5_putWord, Cond.instanceMethod yX5_putWord, Cond.selects RX5 yX5_putWord yX5_putWord, Cond.code yX5_putWord cX5_putWord 2 none, Cond.methodLink RX5 127 yX5_putLevel, Cond.instanceMethod yX5_putLevel, Cond.selects RX5 yX5_putLevel yX5_putLevel, Cond.code yX5_putLevel cX5_putLevel 5 none, Cond.constantLong RX5 116 (16000), Cond.constantLong RX5 118 (4000), Cond.constantLong RX5 120 (3800), Cond.constantLong RX5 122 (20500)]
def wsX5_answer : List Cond := .code yX5_answer cX5_answer 2 none :: ((wsX5_answer_r1 ++ (wsX5_answer_r2 ++ (wsX5_answer_r3 ++ wsX5_answer_r4))) ++ wsX50)
def wsX5_isBusy : List Cond := .code yX5_isBusy cX5_isBusy 1 (some .boolean) :: ([.fieldLink RX5 41 "LoopDeviceModel" "outFrom" "J", .constantLong RX5 39 (-1)] ++ wsX50)
def wsX5_quiet : List Cond := .code yX5_quiet cX5_quiet 1 (some .long) :: ([.fieldLink RX5 151 "LoopDeviceModel" "now" "I", .fieldLink RX5 45 "LoopDeviceModel" "latest" "J"] ++ wsX50)
def wsX5_pass_r1 : List Cond := [Cond.fieldLink RX5 105 "LoopDeviceModel" "isBurst" "Z", Cond.fieldLink RX5 65 "LoopDeviceModel" "preamble" "I", Cond.fieldLink RX5 68 "LoopDeviceModel" "came" "I", Cond.constantLong RX5 167 (8), Cond.fieldLink RX5 169 "LoopDeviceModel" "bursts" "I", Cond.fieldLink RX5 30 "LoopDeviceModel" "burstCommand" "I", Cond.fieldLink RX5 151 "LoopDeviceModel" "now" "I", Cond.fieldLink RX5 41 "LoopDeviceModel" "outFrom" "J", Cond.fieldLink RX5 48 "LoopDeviceModel" "sentBytes" "[I", Cond.fieldLink RX5 172 "LoopDeviceModel" "sent" "I", Cond.fieldLink RX5 36 "LoopDeviceModel" "out" "[I", Cond.fieldLink RX5 51 "LoopDeviceModel" "sentTicks" "[I", Cond.fieldLink RX5 45 "LoopDeviceModel" "latest" "J", Cond.fieldLink RX5 109 "LoopDeviceModel" "outSize" "I", Cond.constantLong RX5 39 (-1), Cond.fieldLink RX5 188 "LoopDeviceModel" "bad" "I", Cond.methodLink RX5 160 yX5_isBusy, Cond.instanceMethod yX5_isBusy, Cond.selects RX5 yX5_isBusy yX5_isBusy, Cond.initialized RX5, Cond.code yX5_isBusy cX5_isBusy 1 (some .boolean), Cond.methodLink RX5 163 yX5_quiet, Cond.instanceMethod yX5_quiet, Cond.selects RX5 yX5_quiet yX5_quiet]
def wsX5_pass_r2 : List Cond := [Cond.code yX5_quiet cX5_quiet 1 (some .long), Cond.methodLink RX5 156 yX5_send, Cond.instanceMethod yX5_send, Cond.selects RX5 yX5_send yX5_send, Cond.code yX5_send cX5_send 11 none, Cond.fieldLink RX5 80 "LoopDeviceModel" "shortAddress" "I", Cond.fieldLink RX5 7 "LoopDeviceModel" "own" "[I", Cond.methodLink RX5 112 yX5_put, Cond.instanceMethod yX5_put, Cond.selects RX5 yX5_put yX5_put, Cond.code yX5_put cX5_put 2 none, Cond.methodLink RX5 136 yX5_statusOf, Cond.instanceMethod yX5_statusOf, Cond.selects RX5 yX5_statusOf yX5_statusOf, Cond.code yX5_statusOf cX5_statusOf 3 (some .int), Cond.fieldLink RX5 130 "LoopDeviceModel" "hasFailed" "Z", Cond.fieldLink RX5 23 "LoopDeviceModel" "isChanged" "[Z", Cond.fieldLink RX5 27 "LoopDeviceModel" "isCold" "[Z", Cond.fieldLink RX5 16 "LoopDeviceModel" "variables" "[I", Cond.fieldLink RX5 102 "LoopDeviceModel" "lower" "I", Cond.fieldLink RX5 19 "LoopDeviceModel" "upper" "I", Cond.methodLink RX5 139 yX5_putData, Cond.instanceMethod yX5_putData, Cond.selects RX5 yX5_putData yX5_putData]
def wsX5_pass_r3 : List Cond := [Cond.code yX5_putData cX5_putData 3 none, Cond.fieldLink RX5 99 "LoopDeviceModel" "unit" "I", Cond.fieldLink RX5 13 "LoopDeviceModel" "tags" "[I", Cond.fieldLink RX5 133 "LoopDeviceModel" "answers" "I", Cond.methodLink RX5 124 yX5_putWord, Cond.instanceMethod yX5_putWord, Cond.selects RX5 yX5_putWord yX5_putWord, Cond.code yX5_putWord cX5_putWord 2 none, Cond.methodLink RX5 127 yX5_putLevel, Cond.instanceMethod yX5_putLevel, Cond.selects RX5 yX5_putLevel yX5_putLevel, Cond.code yX5_putLevel cX5_putLevel 5 none, Cond.constantLong RX5 116 (16000), Cond.constantLong RX5 118 (4000), Cond.constantLong RX5 120 (3800), Cond.constantLong RX5 122 (20500), Cond.methodLink RX5 71 yX5_count, Cond.instanceMethod yX5_count, Cond.selects RX5 yX5_count yX5_count, Cond.code yX5_count cX5_count 1 (some .int), Cond.fieldLink RX5 33 "LoopDeviceModel" "frame" "[I", Cond.methodLink RX5 57 yX5_addressSize, Cond.instanceMethod yX5_addressSize, Cond.selects RX5 yX5_addressSize yX5_addressSize]
def wsX5_pass_r4 : List Cond := [Cond.code yX5_addressSize cX5_addressSize 1 (some .int), Cond.methodLink RX5 61 yX5_data, Cond.instanceMethod yX5_data, Cond.selects RX5 yX5_data yX5_data, Cond.code yX5_data cX5_data 2 (some .int), Cond.methodLink RX5 74 yX5_forget, Cond.instanceMethod yX5_forget, Cond.selects RX5 yX5_forget yX5_forget, Cond.code yX5_forget cX5_forget 1 none, Cond.methodLink RX5 175 yX5_keep, Cond.instanceMethod yX5_keep, Cond.selects RX5 yX5_keep yX5_keep, Cond.code yX5_keep cX5_keep 3 (some .boolean), Cond.methodLink RX5 179 yX5_isRight, Cond.instanceMethod yX5_isRight, Cond.selects RX5 yX5_isRight yX5_isRight, Cond.code yX5_isRight cX5_isRight 3 (some .boolean), Cond.methodLink RX5 182 yX5_isOwn, Cond.instanceMethod yX5_isOwn, Cond.selects RX5 yX5_isOwn yX5_isOwn, Cond.code yX5_isOwn cX5_isOwn 3 (some .boolean), Cond.methodLink RX5 83 yX5_isBroadcast, Cond.instanceMethod yX5_isBroadcast, Cond.selects RX5 yX5_isBroadcast yX5_isBroadcast]
def wsX5_pass_r5 : List Cond := [Cond.code yX5_isBroadcast cX5_isBroadcast 1 (some .boolean), Cond.methodLink RX5 77 yX5_command, Cond.instanceMethod yX5_command, Cond.selects RX5 yX5_command yX5_command, Cond.code yX5_command cX5_command 1 (some .int), Cond.methodLink RX5 185 yX5_answer, Cond.instanceMethod yX5_answer, Cond.selects RX5 yX5_answer yX5_answer, Cond.code yX5_answer cX5_answer 2 none, Cond.fieldLink RX5 142 "LoopDeviceModel" "good" "I", Cond.constantLong RX5 154 (2), Cond.methodLink RX5 145 yX5_codeOf, Cond.instanceMethod yX5_codeOf, Cond.selects RX5 yX5_codeOf yX5_codeOf, Cond.code yX5_codeOf cX5_codeOf 3 (some .int), Cond.methodLink RX5 87 yX5_countWanted, Cond.static yX5_countWanted, Cond.code yX5_countWanted cX5_countWanted 1 (some .int), Cond.methodLink RX5 90 yX5_hasTag, Cond.instanceMethod yX5_hasTag, Cond.selects RX5 yX5_hasTag yX5_hasTag, Cond.code yX5_hasTag cX5_hasTag 3 (some .boolean), Cond.methodLink RX5 93 yX5_word, Cond.instanceMethod yX5_word]
def wsX5_pass_r6 : List Cond := [Cond.selects RX5 yX5_word yX5_word, Cond.code yX5_word cX5_word 2 (some .int), Cond.methodLink RX5 148 yX5_obey, Cond.instanceMethod yX5_obey, Cond.selects RX5 yX5_obey yX5_obey, Cond.code yX5_obey cX5_obey 3 none, Cond.methodLink RX5 96 yX5_master, Cond.instanceMethod yX5_master, Cond.selects RX5 yX5_master yX5_master, Cond.code yX5_master cX5_master 1 (some .int)]
def wsX5_pass : List Cond := .code yX5_pass cX5_pass 4 none :: ((wsX5_pass_r1 ++ (wsX5_pass_r2 ++ (wsX5_pass_r3 ++ (wsX5_pass_r4 ++ (wsX5_pass_r5 ++ wsX5_pass_r6))))) ++ wsX50)
def wsX5_octet_r1 : List Cond := [Cond.fieldLink RX5 54 "LoopDeviceModel" "thrown" "I", Cond.fieldLink RX5 172 "LoopDeviceModel" "sent" "I", Cond.methodLink RX5 191 yX5_pass, Cond.instanceMethod yX5_pass, Cond.selects RX5 yX5_pass yX5_pass, Cond.initialized RX5, Cond.code yX5_pass cX5_pass 4 none, Cond.fieldLink RX5 105 "LoopDeviceModel" "isBurst" "Z", Cond.fieldLink RX5 65 "LoopDeviceModel" "preamble" "I", Cond.fieldLink RX5 68 "LoopDeviceModel" "came" "I", Cond.constantLong RX5 167 (8), Cond.fieldLink RX5 169 "LoopDeviceModel" "bursts" "I", Cond.fieldLink RX5 30 "LoopDeviceModel" "burstCommand" "I", Cond.fieldLink RX5 151 "LoopDeviceModel" "now" "I", Cond.fieldLink RX5 41 "LoopDeviceModel" "outFrom" "J", Cond.fieldLink RX5 48 "LoopDeviceModel" "sentBytes" "[I", Cond.fieldLink RX5 36 "LoopDeviceModel" "out" "[I", Cond.fieldLink RX5 51 "LoopDeviceModel" "sentTicks" "[I", Cond.fieldLink RX5 45 "LoopDeviceModel" "latest" "J", Cond.fieldLink RX5 109 "LoopDeviceModel" "outSize" "I", Cond.constantLong RX5 39 (-1), Cond.fieldLink RX5 188 "LoopDeviceModel" "bad" "I", Cond.methodLink RX5 160 yX5_isBusy, Cond.instanceMethod yX5_isBusy]
def wsX5_octet_r2 : List Cond := [Cond.selects RX5 yX5_isBusy yX5_isBusy, Cond.code yX5_isBusy cX5_isBusy 1 (some .boolean), Cond.methodLink RX5 163 yX5_quiet, Cond.instanceMethod yX5_quiet, Cond.selects RX5 yX5_quiet yX5_quiet, Cond.code yX5_quiet cX5_quiet 1 (some .long), Cond.methodLink RX5 156 yX5_send, Cond.instanceMethod yX5_send, Cond.selects RX5 yX5_send yX5_send, Cond.code yX5_send cX5_send 11 none, Cond.fieldLink RX5 80 "LoopDeviceModel" "shortAddress" "I", Cond.fieldLink RX5 7 "LoopDeviceModel" "own" "[I", Cond.methodLink RX5 112 yX5_put, Cond.instanceMethod yX5_put, Cond.selects RX5 yX5_put yX5_put, Cond.code yX5_put cX5_put 2 none, Cond.methodLink RX5 136 yX5_statusOf, Cond.instanceMethod yX5_statusOf, Cond.selects RX5 yX5_statusOf yX5_statusOf, Cond.code yX5_statusOf cX5_statusOf 3 (some .int), Cond.fieldLink RX5 130 "LoopDeviceModel" "hasFailed" "Z", Cond.fieldLink RX5 23 "LoopDeviceModel" "isChanged" "[Z", Cond.fieldLink RX5 27 "LoopDeviceModel" "isCold" "[Z", Cond.fieldLink RX5 16 "LoopDeviceModel" "variables" "[I"]
def wsX5_octet_r3 : List Cond := [Cond.fieldLink RX5 102 "LoopDeviceModel" "lower" "I", Cond.fieldLink RX5 19 "LoopDeviceModel" "upper" "I", Cond.methodLink RX5 139 yX5_putData, Cond.instanceMethod yX5_putData, Cond.selects RX5 yX5_putData yX5_putData, Cond.code yX5_putData cX5_putData 3 none, Cond.fieldLink RX5 99 "LoopDeviceModel" "unit" "I", Cond.fieldLink RX5 13 "LoopDeviceModel" "tags" "[I", Cond.fieldLink RX5 133 "LoopDeviceModel" "answers" "I", Cond.methodLink RX5 124 yX5_putWord, Cond.instanceMethod yX5_putWord, Cond.selects RX5 yX5_putWord yX5_putWord, Cond.code yX5_putWord cX5_putWord 2 none, Cond.methodLink RX5 127 yX5_putLevel, Cond.instanceMethod yX5_putLevel, Cond.selects RX5 yX5_putLevel yX5_putLevel, Cond.code yX5_putLevel cX5_putLevel 5 none, Cond.constantLong RX5 116 (16000), Cond.constantLong RX5 118 (4000), Cond.constantLong RX5 120 (3800), Cond.constantLong RX5 122 (20500), Cond.methodLink RX5 71 yX5_count, Cond.instanceMethod yX5_count, Cond.selects RX5 yX5_count yX5_count]
def wsX5_octet_r4 : List Cond := [Cond.code yX5_count cX5_count 1 (some .int), Cond.fieldLink RX5 33 "LoopDeviceModel" "frame" "[I", Cond.methodLink RX5 57 yX5_addressSize, Cond.instanceMethod yX5_addressSize, Cond.selects RX5 yX5_addressSize yX5_addressSize, Cond.code yX5_addressSize cX5_addressSize 1 (some .int), Cond.methodLink RX5 61 yX5_data, Cond.instanceMethod yX5_data, Cond.selects RX5 yX5_data yX5_data, Cond.code yX5_data cX5_data 2 (some .int), Cond.methodLink RX5 74 yX5_forget, Cond.instanceMethod yX5_forget, Cond.selects RX5 yX5_forget yX5_forget, Cond.code yX5_forget cX5_forget 1 none, Cond.methodLink RX5 175 yX5_keep, Cond.instanceMethod yX5_keep, Cond.selects RX5 yX5_keep yX5_keep, Cond.code yX5_keep cX5_keep 3 (some .boolean), Cond.methodLink RX5 179 yX5_isRight, Cond.instanceMethod yX5_isRight, Cond.selects RX5 yX5_isRight yX5_isRight, Cond.code yX5_isRight cX5_isRight 3 (some .boolean), Cond.methodLink RX5 182 yX5_isOwn, Cond.instanceMethod yX5_isOwn]
def wsX5_octet_r5 : List Cond := [Cond.selects RX5 yX5_isOwn yX5_isOwn, Cond.code yX5_isOwn cX5_isOwn 3 (some .boolean), Cond.methodLink RX5 83 yX5_isBroadcast, Cond.instanceMethod yX5_isBroadcast, Cond.selects RX5 yX5_isBroadcast yX5_isBroadcast, Cond.code yX5_isBroadcast cX5_isBroadcast 1 (some .boolean), Cond.methodLink RX5 77 yX5_command, Cond.instanceMethod yX5_command, Cond.selects RX5 yX5_command yX5_command, Cond.code yX5_command cX5_command 1 (some .int), Cond.methodLink RX5 185 yX5_answer, Cond.instanceMethod yX5_answer, Cond.selects RX5 yX5_answer yX5_answer, Cond.code yX5_answer cX5_answer 2 none, Cond.fieldLink RX5 142 "LoopDeviceModel" "good" "I", Cond.constantLong RX5 154 (2), Cond.methodLink RX5 145 yX5_codeOf, Cond.instanceMethod yX5_codeOf, Cond.selects RX5 yX5_codeOf yX5_codeOf, Cond.code yX5_codeOf cX5_codeOf 3 (some .int), Cond.methodLink RX5 87 yX5_countWanted, Cond.static yX5_countWanted, Cond.code yX5_countWanted cX5_countWanted 1 (some .int), Cond.methodLink RX5 90 yX5_hasTag]
def wsX5_octet_r6 : List Cond := [Cond.instanceMethod yX5_hasTag, Cond.selects RX5 yX5_hasTag yX5_hasTag, Cond.code yX5_hasTag cX5_hasTag 3 (some .boolean), Cond.methodLink RX5 93 yX5_word, Cond.instanceMethod yX5_word, Cond.selects RX5 yX5_word yX5_word, Cond.code yX5_word cX5_word 2 (some .int), Cond.methodLink RX5 148 yX5_obey, Cond.instanceMethod yX5_obey, Cond.selects RX5 yX5_obey yX5_obey, Cond.code yX5_obey cX5_obey 3 none, Cond.methodLink RX5 96 yX5_master, Cond.instanceMethod yX5_master, Cond.selects RX5 yX5_master yX5_master, Cond.code yX5_master cX5_master 1 (some .int)]
def wsX5_octet : List Cond := .code yX5_octet cX5_octet 2 (some .int) :: ((wsX5_octet_r1 ++ (wsX5_octet_r2 ++ (wsX5_octet_r3 ++ (wsX5_octet_r4 ++ (wsX5_octet_r5 ++ wsX5_octet_r6))))) ++ wsX50)
def wsX5_octets_r1 : List Cond := [Cond.fieldLink RX5 54 "LoopDeviceModel" "thrown" "I", Cond.fieldLink RX5 172 "LoopDeviceModel" "sent" "I", Cond.methodLink RX5 191 yX5_pass, Cond.instanceMethod yX5_pass, Cond.selects RX5 yX5_pass yX5_pass, Cond.initialized RX5, Cond.code yX5_pass cX5_pass 4 none, Cond.fieldLink RX5 105 "LoopDeviceModel" "isBurst" "Z", Cond.fieldLink RX5 65 "LoopDeviceModel" "preamble" "I", Cond.fieldLink RX5 68 "LoopDeviceModel" "came" "I", Cond.constantLong RX5 167 (8), Cond.fieldLink RX5 169 "LoopDeviceModel" "bursts" "I", Cond.fieldLink RX5 30 "LoopDeviceModel" "burstCommand" "I", Cond.fieldLink RX5 151 "LoopDeviceModel" "now" "I", Cond.fieldLink RX5 41 "LoopDeviceModel" "outFrom" "J", Cond.fieldLink RX5 48 "LoopDeviceModel" "sentBytes" "[I", Cond.fieldLink RX5 36 "LoopDeviceModel" "out" "[I", Cond.fieldLink RX5 51 "LoopDeviceModel" "sentTicks" "[I", Cond.fieldLink RX5 45 "LoopDeviceModel" "latest" "J", Cond.fieldLink RX5 109 "LoopDeviceModel" "outSize" "I", Cond.constantLong RX5 39 (-1), Cond.fieldLink RX5 188 "LoopDeviceModel" "bad" "I", Cond.methodLink RX5 160 yX5_isBusy, Cond.instanceMethod yX5_isBusy]
def wsX5_octets_r2 : List Cond := [Cond.selects RX5 yX5_isBusy yX5_isBusy, Cond.code yX5_isBusy cX5_isBusy 1 (some .boolean), Cond.methodLink RX5 163 yX5_quiet, Cond.instanceMethod yX5_quiet, Cond.selects RX5 yX5_quiet yX5_quiet, Cond.code yX5_quiet cX5_quiet 1 (some .long), Cond.methodLink RX5 156 yX5_send, Cond.instanceMethod yX5_send, Cond.selects RX5 yX5_send yX5_send, Cond.code yX5_send cX5_send 11 none, Cond.fieldLink RX5 80 "LoopDeviceModel" "shortAddress" "I", Cond.fieldLink RX5 7 "LoopDeviceModel" "own" "[I", Cond.methodLink RX5 112 yX5_put, Cond.instanceMethod yX5_put, Cond.selects RX5 yX5_put yX5_put, Cond.code yX5_put cX5_put 2 none, Cond.methodLink RX5 136 yX5_statusOf, Cond.instanceMethod yX5_statusOf, Cond.selects RX5 yX5_statusOf yX5_statusOf, Cond.code yX5_statusOf cX5_statusOf 3 (some .int), Cond.fieldLink RX5 130 "LoopDeviceModel" "hasFailed" "Z", Cond.fieldLink RX5 23 "LoopDeviceModel" "isChanged" "[Z", Cond.fieldLink RX5 27 "LoopDeviceModel" "isCold" "[Z", Cond.fieldLink RX5 16 "LoopDeviceModel" "variables" "[I"]
def wsX5_octets_r3 : List Cond := [Cond.fieldLink RX5 102 "LoopDeviceModel" "lower" "I", Cond.fieldLink RX5 19 "LoopDeviceModel" "upper" "I", Cond.methodLink RX5 139 yX5_putData, Cond.instanceMethod yX5_putData, Cond.selects RX5 yX5_putData yX5_putData, Cond.code yX5_putData cX5_putData 3 none, Cond.fieldLink RX5 99 "LoopDeviceModel" "unit" "I", Cond.fieldLink RX5 13 "LoopDeviceModel" "tags" "[I", Cond.fieldLink RX5 133 "LoopDeviceModel" "answers" "I", Cond.methodLink RX5 124 yX5_putWord, Cond.instanceMethod yX5_putWord, Cond.selects RX5 yX5_putWord yX5_putWord, Cond.code yX5_putWord cX5_putWord 2 none, Cond.methodLink RX5 127 yX5_putLevel, Cond.instanceMethod yX5_putLevel, Cond.selects RX5 yX5_putLevel yX5_putLevel, Cond.code yX5_putLevel cX5_putLevel 5 none, Cond.constantLong RX5 116 (16000), Cond.constantLong RX5 118 (4000), Cond.constantLong RX5 120 (3800), Cond.constantLong RX5 122 (20500), Cond.methodLink RX5 71 yX5_count, Cond.instanceMethod yX5_count, Cond.selects RX5 yX5_count yX5_count]
def wsX5_octets_r4 : List Cond := [Cond.code yX5_count cX5_count 1 (some .int), Cond.fieldLink RX5 33 "LoopDeviceModel" "frame" "[I", Cond.methodLink RX5 57 yX5_addressSize, Cond.instanceMethod yX5_addressSize, Cond.selects RX5 yX5_addressSize yX5_addressSize, Cond.code yX5_addressSize cX5_addressSize 1 (some .int), Cond.methodLink RX5 61 yX5_data, Cond.instanceMethod yX5_data, Cond.selects RX5 yX5_data yX5_data, Cond.code yX5_data cX5_data 2 (some .int), Cond.methodLink RX5 74 yX5_forget, Cond.instanceMethod yX5_forget, Cond.selects RX5 yX5_forget yX5_forget, Cond.code yX5_forget cX5_forget 1 none, Cond.methodLink RX5 175 yX5_keep, Cond.instanceMethod yX5_keep, Cond.selects RX5 yX5_keep yX5_keep, Cond.code yX5_keep cX5_keep 3 (some .boolean), Cond.methodLink RX5 179 yX5_isRight, Cond.instanceMethod yX5_isRight, Cond.selects RX5 yX5_isRight yX5_isRight, Cond.code yX5_isRight cX5_isRight 3 (some .boolean), Cond.methodLink RX5 182 yX5_isOwn, Cond.instanceMethod yX5_isOwn]
def wsX5_octets_r5 : List Cond := [Cond.selects RX5 yX5_isOwn yX5_isOwn, Cond.code yX5_isOwn cX5_isOwn 3 (some .boolean), Cond.methodLink RX5 83 yX5_isBroadcast, Cond.instanceMethod yX5_isBroadcast, Cond.selects RX5 yX5_isBroadcast yX5_isBroadcast, Cond.code yX5_isBroadcast cX5_isBroadcast 1 (some .boolean), Cond.methodLink RX5 77 yX5_command, Cond.instanceMethod yX5_command, Cond.selects RX5 yX5_command yX5_command, Cond.code yX5_command cX5_command 1 (some .int), Cond.methodLink RX5 185 yX5_answer, Cond.instanceMethod yX5_answer, Cond.selects RX5 yX5_answer yX5_answer, Cond.code yX5_answer cX5_answer 2 none, Cond.fieldLink RX5 142 "LoopDeviceModel" "good" "I", Cond.constantLong RX5 154 (2), Cond.methodLink RX5 145 yX5_codeOf, Cond.instanceMethod yX5_codeOf, Cond.selects RX5 yX5_codeOf yX5_codeOf, Cond.code yX5_codeOf cX5_codeOf 3 (some .int), Cond.methodLink RX5 87 yX5_countWanted, Cond.static yX5_countWanted, Cond.code yX5_countWanted cX5_countWanted 1 (some .int), Cond.methodLink RX5 90 yX5_hasTag]
def wsX5_octets_r6 : List Cond := [Cond.instanceMethod yX5_hasTag, Cond.selects RX5 yX5_hasTag yX5_hasTag, Cond.code yX5_hasTag cX5_hasTag 3 (some .boolean), Cond.methodLink RX5 93 yX5_word, Cond.instanceMethod yX5_word, Cond.selects RX5 yX5_word yX5_word, Cond.code yX5_word cX5_word 2 (some .int), Cond.methodLink RX5 148 yX5_obey, Cond.instanceMethod yX5_obey, Cond.selects RX5 yX5_obey yX5_obey, Cond.code yX5_obey cX5_obey 3 none, Cond.methodLink RX5 96 yX5_master, Cond.instanceMethod yX5_master, Cond.selects RX5 yX5_master yX5_master, Cond.code yX5_master cX5_master 1 (some .int)]
def wsX5_octets : List Cond := .code yX5_octets cX5_octets 3 (some .int) :: ((wsX5_octets_r1 ++ (wsX5_octets_r2 ++ (wsX5_octets_r3 ++ (wsX5_octets_r4 ++ (wsX5_octets_r5 ++ wsX5_octets_r6))))) ++ wsX50)
def wsX5_tick_r1 : List Cond := [Cond.fieldLink RX5 54 "LoopDeviceModel" "thrown" "I", Cond.fieldLink RX5 172 "LoopDeviceModel" "sent" "I", Cond.methodLink RX5 191 yX5_pass, Cond.instanceMethod yX5_pass, Cond.selects RX5 yX5_pass yX5_pass, Cond.initialized RX5, Cond.code yX5_pass cX5_pass 4 none, Cond.fieldLink RX5 105 "LoopDeviceModel" "isBurst" "Z", Cond.fieldLink RX5 65 "LoopDeviceModel" "preamble" "I", Cond.fieldLink RX5 68 "LoopDeviceModel" "came" "I", Cond.constantLong RX5 167 (8), Cond.fieldLink RX5 169 "LoopDeviceModel" "bursts" "I", Cond.fieldLink RX5 30 "LoopDeviceModel" "burstCommand" "I", Cond.fieldLink RX5 151 "LoopDeviceModel" "now" "I", Cond.fieldLink RX5 41 "LoopDeviceModel" "outFrom" "J", Cond.fieldLink RX5 48 "LoopDeviceModel" "sentBytes" "[I", Cond.fieldLink RX5 36 "LoopDeviceModel" "out" "[I", Cond.fieldLink RX5 51 "LoopDeviceModel" "sentTicks" "[I", Cond.fieldLink RX5 45 "LoopDeviceModel" "latest" "J", Cond.fieldLink RX5 109 "LoopDeviceModel" "outSize" "I", Cond.constantLong RX5 39 (-1), Cond.fieldLink RX5 188 "LoopDeviceModel" "bad" "I", Cond.methodLink RX5 160 yX5_isBusy, Cond.instanceMethod yX5_isBusy]
def wsX5_tick_r2 : List Cond := [Cond.selects RX5 yX5_isBusy yX5_isBusy, Cond.code yX5_isBusy cX5_isBusy 1 (some .boolean), Cond.methodLink RX5 163 yX5_quiet, Cond.instanceMethod yX5_quiet, Cond.selects RX5 yX5_quiet yX5_quiet, Cond.code yX5_quiet cX5_quiet 1 (some .long), Cond.methodLink RX5 156 yX5_send, Cond.instanceMethod yX5_send, Cond.selects RX5 yX5_send yX5_send, Cond.code yX5_send cX5_send 11 none, Cond.fieldLink RX5 80 "LoopDeviceModel" "shortAddress" "I", Cond.fieldLink RX5 7 "LoopDeviceModel" "own" "[I", Cond.methodLink RX5 112 yX5_put, Cond.instanceMethod yX5_put, Cond.selects RX5 yX5_put yX5_put, Cond.code yX5_put cX5_put 2 none, Cond.methodLink RX5 136 yX5_statusOf, Cond.instanceMethod yX5_statusOf, Cond.selects RX5 yX5_statusOf yX5_statusOf, Cond.code yX5_statusOf cX5_statusOf 3 (some .int), Cond.fieldLink RX5 130 "LoopDeviceModel" "hasFailed" "Z", Cond.fieldLink RX5 23 "LoopDeviceModel" "isChanged" "[Z", Cond.fieldLink RX5 27 "LoopDeviceModel" "isCold" "[Z", Cond.fieldLink RX5 16 "LoopDeviceModel" "variables" "[I"]
def wsX5_tick_r3 : List Cond := [Cond.fieldLink RX5 102 "LoopDeviceModel" "lower" "I", Cond.fieldLink RX5 19 "LoopDeviceModel" "upper" "I", Cond.methodLink RX5 139 yX5_putData, Cond.instanceMethod yX5_putData, Cond.selects RX5 yX5_putData yX5_putData, Cond.code yX5_putData cX5_putData 3 none, Cond.fieldLink RX5 99 "LoopDeviceModel" "unit" "I", Cond.fieldLink RX5 13 "LoopDeviceModel" "tags" "[I", Cond.fieldLink RX5 133 "LoopDeviceModel" "answers" "I", Cond.methodLink RX5 124 yX5_putWord, Cond.instanceMethod yX5_putWord, Cond.selects RX5 yX5_putWord yX5_putWord, Cond.code yX5_putWord cX5_putWord 2 none, Cond.methodLink RX5 127 yX5_putLevel, Cond.instanceMethod yX5_putLevel, Cond.selects RX5 yX5_putLevel yX5_putLevel, Cond.code yX5_putLevel cX5_putLevel 5 none, Cond.constantLong RX5 116 (16000), Cond.constantLong RX5 118 (4000), Cond.constantLong RX5 120 (3800), Cond.constantLong RX5 122 (20500), Cond.methodLink RX5 71 yX5_count, Cond.instanceMethod yX5_count, Cond.selects RX5 yX5_count yX5_count]
def wsX5_tick_r4 : List Cond := [Cond.code yX5_count cX5_count 1 (some .int), Cond.fieldLink RX5 33 "LoopDeviceModel" "frame" "[I", Cond.methodLink RX5 57 yX5_addressSize, Cond.instanceMethod yX5_addressSize, Cond.selects RX5 yX5_addressSize yX5_addressSize, Cond.code yX5_addressSize cX5_addressSize 1 (some .int), Cond.methodLink RX5 61 yX5_data, Cond.instanceMethod yX5_data, Cond.selects RX5 yX5_data yX5_data, Cond.code yX5_data cX5_data 2 (some .int), Cond.methodLink RX5 74 yX5_forget, Cond.instanceMethod yX5_forget, Cond.selects RX5 yX5_forget yX5_forget, Cond.code yX5_forget cX5_forget 1 none, Cond.methodLink RX5 175 yX5_keep, Cond.instanceMethod yX5_keep, Cond.selects RX5 yX5_keep yX5_keep, Cond.code yX5_keep cX5_keep 3 (some .boolean), Cond.methodLink RX5 179 yX5_isRight, Cond.instanceMethod yX5_isRight, Cond.selects RX5 yX5_isRight yX5_isRight, Cond.code yX5_isRight cX5_isRight 3 (some .boolean), Cond.methodLink RX5 182 yX5_isOwn, Cond.instanceMethod yX5_isOwn]
def wsX5_tick_r5 : List Cond := [Cond.selects RX5 yX5_isOwn yX5_isOwn, Cond.code yX5_isOwn cX5_isOwn 3 (some .boolean), Cond.methodLink RX5 83 yX5_isBroadcast, Cond.instanceMethod yX5_isBroadcast, Cond.selects RX5 yX5_isBroadcast yX5_isBroadcast, Cond.code yX5_isBroadcast cX5_isBroadcast 1 (some .boolean), Cond.methodLink RX5 77 yX5_command, Cond.instanceMethod yX5_command, Cond.selects RX5 yX5_command yX5_command, Cond.code yX5_command cX5_command 1 (some .int), Cond.methodLink RX5 185 yX5_answer, Cond.instanceMethod yX5_answer, Cond.selects RX5 yX5_answer yX5_answer, Cond.code yX5_answer cX5_answer 2 none, Cond.fieldLink RX5 142 "LoopDeviceModel" "good" "I", Cond.constantLong RX5 154 (2), Cond.methodLink RX5 145 yX5_codeOf, Cond.instanceMethod yX5_codeOf, Cond.selects RX5 yX5_codeOf yX5_codeOf, Cond.code yX5_codeOf cX5_codeOf 3 (some .int), Cond.methodLink RX5 87 yX5_countWanted, Cond.static yX5_countWanted, Cond.code yX5_countWanted cX5_countWanted 1 (some .int), Cond.methodLink RX5 90 yX5_hasTag]
def wsX5_tick_r6 : List Cond := [Cond.instanceMethod yX5_hasTag, Cond.selects RX5 yX5_hasTag yX5_hasTag, Cond.code yX5_hasTag cX5_hasTag 3 (some .boolean), Cond.methodLink RX5 93 yX5_word, Cond.instanceMethod yX5_word, Cond.selects RX5 yX5_word yX5_word, Cond.code yX5_word cX5_word 2 (some .int), Cond.methodLink RX5 148 yX5_obey, Cond.instanceMethod yX5_obey, Cond.selects RX5 yX5_obey yX5_obey, Cond.code yX5_obey cX5_obey 3 none, Cond.methodLink RX5 96 yX5_master, Cond.instanceMethod yX5_master, Cond.selects RX5 yX5_master yX5_master, Cond.code yX5_master cX5_master 1 (some .int)]
def wsX5_tick : List Cond := .code yX5_tick cX5_tick 3 (some .int) :: ((wsX5_tick_r1 ++ (wsX5_tick_r2 ++ (wsX5_tick_r3 ++ (wsX5_tick_r4 ++ (wsX5_tick_r5 ++ wsX5_tick_r6))))) ++ wsX50)
def wsX5_isKept : List Cond := .code yX5_isKept cX5_isKept 2 (some .boolean) :: ([.fieldLink RX5 172 "LoopDeviceModel" "sent" "I"] ++ wsX50)
def wsX5_sent : List Cond := .code yX5_sent cX5_sent 2 (some .int) :: ([.fieldLink RX5 54 "LoopDeviceModel" "thrown" "I", .fieldLink RX5 48 "LoopDeviceModel" "sentBytes" "[I", .methodLink RX5 194 yX5_isKept, .instanceMethod yX5_isKept, .selects RX5 yX5_isKept yX5_isKept, .initialized RX5, .code yX5_isKept cX5_isKept 2 (some .boolean), .fieldLink RX5 172 "LoopDeviceModel" "sent" "I"] ++ wsX50)
def wsX5_when : List Cond := .code yX5_when cX5_when 2 (some .int) :: ([.fieldLink RX5 54 "LoopDeviceModel" "thrown" "I", .fieldLink RX5 51 "LoopDeviceModel" "sentTicks" "[I", .methodLink RX5 194 yX5_isKept, .instanceMethod yX5_isKept, .selects RX5 yX5_isKept yX5_isKept, .initialized RX5, .code yX5_isKept cX5_isKept 2 (some .boolean), .fieldLink RX5 172 "LoopDeviceModel" "sent" "I"] ++ wsX50)
def wsX5_variable : List Cond := .code yX5_variable cX5_variable 4 (some .long) :: ([.fieldLink RX5 54 "LoopDeviceModel" "thrown" "I", .constantLong RX5 39 (-1), .fieldLink RX5 16 "LoopDeviceModel" "variables" "[I"] ++ wsX50)
def wsX5_failure : List Cond := .code yX5_failure cX5_failure 3 (some .int) :: ([.fieldLink RX5 54 "LoopDeviceModel" "thrown" "I", .fieldLink RX5 130 "LoopDeviceModel" "hasFailed" "Z"] ++ wsX50)
def wsX5_has : List Cond := .code yX5_has cX5_has 2 (some .long) :: ([.fieldLink RX5 54 "LoopDeviceModel" "thrown" "I", .constantLong RX5 39 (-1), .fieldLink RX5 80 "LoopDeviceModel" "shortAddress" "I", .fieldLink RX5 99 "LoopDeviceModel" "unit" "I", .fieldLink RX5 102 "LoopDeviceModel" "lower" "I", .fieldLink RX5 19 "LoopDeviceModel" "upper" "I", .fieldLink RX5 30 "LoopDeviceModel" "burstCommand" "I", .fieldLink RX5 105 "LoopDeviceModel" "isBurst" "Z", .fieldLink RX5 133 "LoopDeviceModel" "answers" "I", .fieldLink RX5 169 "LoopDeviceModel" "bursts" "I", .fieldLink RX5 142 "LoopDeviceModel" "good" "I", .fieldLink RX5 188 "LoopDeviceModel" "bad" "I"] ++ wsX50)
def wsX5_tag : List Cond := .code yX5_tag cX5_tag 2 (some .int) :: ([.fieldLink RX5 54 "LoopDeviceModel" "thrown" "I", .fieldLink RX5 13 "LoopDeviceModel" "tags" "[I"] ++ wsX50)
def wsX5_now : List Cond := .code yX5_now cX5_now 1 (some .int) :: ([.fieldLink RX5 54 "LoopDeviceModel" "thrown" "I", .fieldLink RX5 151 "LoopDeviceModel" "now" "I"] ++ wsX50)
def wsJ9_max_f86c9 : List Cond := .code yJ9_max_f86c9 cJ9_max_f86c9 4 (some .long) :: ([])
def wsJ9_min_7cf53 : List Cond := .code yJ9_min_7cf53 cJ9_min_7cf53 2 (some .int) :: ([])
def wsJ9_min_f86c9 : List Cond := .code yJ9_min_f86c9 cJ9_min_f86c9 4 (some .long) :: ([])
def wsL_cell : List Cond := .code yL_cell cL_cell 2 (some .int) :: ([])
def wsL_law_r1 : List Cond := [Cond.classLink RL 7 RX4, Cond.instantiable RX4 11, Cond.initialized RX4, Cond.classLink RL 18 RX5, Cond.instantiable RX5 28, Cond.initialized RX5, Cond.methodLink RL 9 yL_cell, Cond.static yL_cell, Cond.initialized RL, Cond.code yL_cell cL_cell 2 (some .int), Cond.methodLink RL 15 yX4_init, Cond.instanceMethod yX4_init, Cond.code yX4_init cX4_init 4 none, Cond.methodLink RX4 1 objectInit, Cond.instanceMethod objectInit, Cond.code objectInit ⟨#[0xb1]⟩ 1 none, Cond.classLink RX4 7 RX2, Cond.instantiable RX2 14, Cond.initialized RX2, Cond.constant RX4 11 (16777215), Cond.fieldLink RX4 15 "LoopDevice" "holdings" "LLoopDevice$Holdings;", Cond.classLink RX4 19 RX0, Cond.instantiable RX0 10, Cond.initialized RX0]
def wsL_law_r2 : List Cond := [Cond.fieldLink RX4 22 "LoopDevice" "reader" "LLoopDevice$FrameReader;", Cond.classLink RX4 26 RX1, Cond.instantiable RX1 5, Cond.initialized RX1, Cond.fieldLink RX4 29 "LoopDevice" "writer" "LLoopDevice$FrameWriter;", Cond.classLink RX4 33 RX3, Cond.instantiable RX3 3, Cond.initialized RX3, Cond.fieldLink RX4 36 "LoopDevice" "gone" "LLoopDevice$SentBytes;", Cond.methodLink RX4 12 yX2_init, Cond.instanceMethod yX2_init, Cond.code yX2_init cX2_init 5 none, Cond.methodLink RX2 3 objectInit, Cond.fieldLink RX2 9 "LoopDevice$Holdings" "maker" "I", Cond.fieldLink RX2 15 "LoopDevice$Holdings" "kind" "I", Cond.fieldLink RX2 18 "LoopDevice$Holdings" "number" "I", Cond.fieldLink RX2 21 "LoopDevice$Holdings" "upper" "I", Cond.fieldLink RX2 24 "LoopDevice$Holdings" "changed" "I", Cond.fieldLink RX2 27 "LoopDevice$Holdings" "cold" "I", Cond.fieldLink RX2 30 "LoopDevice$Holdings" "burstCommand" "I", Cond.arrayClass .int, Cond.fieldLink RX2 33 "LoopDevice$Holdings" "tagBytes" "[I", Cond.fieldLink RX2 37 "LoopDevice$Holdings" "variables" "[I", Cond.methodLink RX4 21 yX0_init]
def wsL_law_r3 : List Cond := [Cond.instanceMethod yX0_init, Cond.code yX0_init cX0_init 1 none, Cond.methodLink RX0 3 objectInit, Cond.fieldLink RX0 11 "LoopDevice$FrameReader" "address" "[I", Cond.fieldLink RX0 15 "LoopDevice$FrameReader" "data" "[I", Cond.methodLink RX4 28 yX1_init, Cond.instanceMethod yX1_init, Cond.code yX1_init cX1_init 1 none, Cond.methodLink RX1 3 objectInit, Cond.fieldLink RX1 11 "LoopDevice$FrameWriter" "bytes" "[I", Cond.methodLink RX4 35 yX3_init, Cond.instanceMethod yX3_init, Cond.code yX3_init cX3_init 1 none, Cond.methodLink RX3 3 objectInit, Cond.fieldLink RX3 11 "LoopDevice$SentBytes" "bytes" "[I", Cond.fieldLink RX3 15 "LoopDevice$SentBytes" "ticksOfBytes" "[I", Cond.methodLink RL 20 yX5_init, Cond.instanceMethod yX5_init, Cond.code yX5_init cX5_init 5 none, Cond.methodLink RX5 1 objectInit, Cond.fieldLink RX5 7 "LoopDeviceModel" "own" "[I", Cond.fieldLink RX5 13 "LoopDeviceModel" "tags" "[I", Cond.fieldLink RX5 16 "LoopDeviceModel" "variables" "[I", Cond.fieldLink RX5 19 "LoopDeviceModel" "upper" "I"]
def wsL_law_r4 : List Cond := [Cond.arrayClass .boolean, Cond.fieldLink RX5 23 "LoopDeviceModel" "isChanged" "[Z", Cond.fieldLink RX5 27 "LoopDeviceModel" "isCold" "[Z", Cond.fieldLink RX5 30 "LoopDeviceModel" "burstCommand" "I", Cond.fieldLink RX5 33 "LoopDeviceModel" "frame" "[I", Cond.fieldLink RX5 36 "LoopDeviceModel" "out" "[I", Cond.constantLong RX5 39 (-1), Cond.fieldLink RX5 41 "LoopDeviceModel" "outFrom" "J", Cond.fieldLink RX5 45 "LoopDeviceModel" "latest" "J", Cond.fieldLink RX5 48 "LoopDeviceModel" "sentBytes" "[I", Cond.fieldLink RX5 51 "LoopDeviceModel" "sentTicks" "[I", Cond.methodLink RL 21 yX4_octet, Cond.instanceMethod yX4_octet, Cond.selects RX4 yX4_octet yX4_octet, Cond.code yX4_octet cX4_octet 2 (some .int), Cond.fieldLink RX4 44 "LoopDevice$SentBytes" "total" "I", Cond.methodLink RX4 40 yX4_passTick, Cond.instanceMethod yX4_passTick, Cond.selects RX4 yX4_passTick yX4_passTick, Cond.code yX4_passTick cX4_passTick 4 none, Cond.fieldLink RX4 101 "LoopDevice" "ticks" "I", Cond.fieldLink RX4 134 "LoopDevice" "quietTicks" "I", Cond.methodLink RX4 104 yX4_burstIsDue, Cond.instanceMethod yX4_burstIsDue]
def wsL_law_r5 : List Cond := [Cond.selects RX4 yX4_burstIsDue yX4_burstIsDue, Cond.code yX4_burstIsDue cX4_burstIsDue 1 (some .boolean), Cond.fieldLink RX4 80 "LoopDevice$Holdings" "burstOn" "Z", Cond.methodLink RX4 111 yX1_isBusy, Cond.instanceMethod yX1_isBusy, Cond.selects RX1 yX1_isBusy yX1_isBusy, Cond.code yX1_isBusy cX1_isBusy 1 (some .boolean), Cond.fieldLink RX1 15 "LoopDevice$FrameWriter" "next" "I", Cond.fieldLink RX1 19 "LoopDevice$FrameWriter" "length" "I", Cond.methodLink RX4 108 yX4_beginBurst, Cond.instanceMethod yX4_beginBurst, Cond.selects RX4 yX4_beginBurst yX4_beginBurst, Cond.code yX4_beginBurst cX4_beginBurst 1 none, Cond.fieldLink RX4 89 "LoopDevice" "bursts" "I", Cond.fieldLink RX4 137 "LoopDevice" "burstMaster" "I", Cond.fieldLink RX4 83 "LoopDevice$Holdings" "burstCommand" "I", Cond.methodLink RX4 140 yX4_compose, Cond.instanceMethod yX4_compose, Cond.selects RX4 yX4_compose yX4_compose, Cond.code yX4_compose cX4_compose 5 none, Cond.methodLink RX4 215 yX1_begin, Cond.instanceMethod yX1_begin, Cond.selects RX1 yX1_begin yX1_begin, Cond.code yX1_begin cX1_begin 3 none]
def wsL_law_r6 : List Cond := [Cond.fieldLink RX1 22 "LoopDevice$FrameWriter" "waits" "Z", Cond.methodLink RX1 26 yX1_add, Cond.instanceMethod yX1_add, Cond.selects RX1 yX1_add yX1_add, Cond.code yX1_add cX1_add 2 none, Cond.methodLink RX4 218 yX4_addAddress, Cond.instanceMethod yX4_addAddress, Cond.selects RX4 yX4_addAddress yX4_addAddress, Cond.code yX4_addAddress cX4_addAddress 4 none, Cond.fieldLink RX4 236 "LoopDevice$Holdings" "maker" "I", Cond.fieldLink RX4 239 "LoopDevice$Holdings" "kind" "I", Cond.fieldLink RX4 68 "LoopDevice$Holdings" "shortAddress" "I", Cond.methodLink RX4 222 yX1_add, Cond.methodLink RX4 241 yX4_addNumber, Cond.instanceMethod yX4_addNumber, Cond.selects RX4 yX4_addNumber yX4_addNumber, Cond.code yX4_addNumber cX4_addNumber 1 none, Cond.fieldLink RX4 256 "LoopDevice$Holdings" "number" "I", Cond.methodLink RX4 224 yX1_beginCount, Cond.instanceMethod yX1_beginCount, Cond.selects RX1 yX1_beginCount yX1_beginCount, Cond.code yX1_beginCount cX1_beginCount 1 none, Cond.fieldLink RX1 30 "LoopDevice$FrameWriter" "countPlace" "I", Cond.methodLink RX4 227 yX2_statusFor]
def wsL_law_r7 : List Cond := [Cond.instanceMethod yX2_statusFor, Cond.selects RX2 yX2_statusFor yX2_statusFor, Cond.code yX2_statusFor cX2_statusFor 4 (some .int), Cond.fieldLink RX2 44 "LoopDevice$Holdings" "failed" "Z", Cond.fieldLink RX2 48 "LoopDevice$Holdings" "lower" "I", Cond.methodLink RX2 40 yX2_variableAt, Cond.instanceMethod yX2_variableAt, Cond.selects RX2 yX2_variableAt yX2_variableAt, Cond.code yX2_variableAt cX2_variableAt 2 (some .int), Cond.methodLink RX4 230 yX4_addData, Cond.instanceMethod yX4_addData, Cond.selects RX4 yX4_addData yX4_addData, Cond.code yX4_addData cX4_addData 3 none, Cond.fieldLink RX4 71 "LoopDevice$Holdings" "unit" "I", Cond.fieldLink RX4 64 "LoopDevice$Holdings" "failed" "Z", Cond.fieldLink RX4 86 "LoopDevice" "answers" "I", Cond.methodLink RX4 244 yX4_addIdentity, Cond.instanceMethod yX4_addIdentity, Cond.selects RX4 yX4_addIdentity yX4_addIdentity, Cond.code yX4_addIdentity cX4_addIdentity 1 none, Cond.methodLink RX4 57 yX2_variableAt, Cond.methodLink RX4 247 yX1_addFour, Cond.instanceMethod yX1_addFour, Cond.selects RX1 yX1_addFour yX1_addFour]
def wsL_law_r8 : List Cond := [Cond.code yX1_addFour cX1_addFour 2 none, Cond.methodLink RX4 250 yX2_level, Cond.instanceMethod yX2_level, Cond.selects RX2 yX2_level yX2_level, Cond.code yX2_level cX2_level 5 (some .int), Cond.constantLong RX2 51 (16000), Cond.constantLong RX2 53 (4000), Cond.constantLong RX2 55 (3800), Cond.constantLong RX2 57 (20500), Cond.methodLink RX2 59 Lib.MathLoose.min_long.x, Cond.static Lib.MathLoose.min_long.x, Cond.initialized "java/lang/Math", Cond.code Lib.MathLoose.min_long.x Lib.MathLoose.min_long.code 4 (some .long), Cond.methodLink RX2 65 Lib.MathLoose.max_long.x, Cond.static Lib.MathLoose.max_long.x, Cond.code Lib.MathLoose.max_long.x Lib.MathLoose.max_long.code 4 (some .long), Cond.methodLink RX4 98 yX2_tagByte, Cond.instanceMethod yX2_tagByte, Cond.selects RX2 yX2_tagByte yX2_tagByte, Cond.code yX2_tagByte cX2_tagByte 2 (some .int), Cond.methodLink RX4 253 yX4_addEcho, Cond.instanceMethod yX4_addEcho, Cond.selects RX4 yX4_addEcho yX4_addEcho, Cond.code yX4_addEcho cX4_addEcho 3 none]
def wsL_law_r9 : List Cond := [Cond.fieldLink RX4 190 "LoopDevice$FrameReader" "count" "I", Cond.methodLink RX4 212 yX4_setsSomething, Cond.static yX4_setsSomething, Cond.code yX4_setsSomething cX4_setsSomething 1 (some .boolean), Cond.methodLink RX4 193 yX0_dataAt, Cond.instanceMethod yX0_dataAt, Cond.selects RX0 yX0_dataAt yX0_dataAt, Cond.code yX0_dataAt cX0_dataAt 2 (some .int), Cond.fieldLink RX0 63 "LoopDevice$FrameReader" "count" "I", Cond.methodLink RX4 233 yX1_end, Cond.instanceMethod yX1_end, Cond.selects RX1 yX1_end yX1_end, Cond.code yX1_end cX1_end 3 none, Cond.methodLink RX4 114 yX1_takeNext, Cond.instanceMethod yX1_takeNext, Cond.selects RX1 yX1_takeNext yX1_takeNext, Cond.code yX1_takeNext cX1_takeNext 2 (some .int), Cond.methodLink RX4 118 yX3_add, Cond.instanceMethod yX3_add, Cond.selects RX3 yX3_add yX3_add, Cond.code yX3_add cX3_add 4 none, Cond.fieldLink RX3 18 "LoopDevice$SentBytes" "total" "I", Cond.methodLink RX4 121 yX0_beginAnew, Cond.instanceMethod yX0_beginAnew]
def wsL_law_r10 : List Cond := [Cond.selects RX0 yX0_beginAnew yX0_beginAnew, Cond.code yX0_beginAnew cX0_beginAnew 1 none, Cond.fieldLink RX0 18 "LoopDevice$FrameReader" "place" "I", Cond.fieldLink RX0 22 "LoopDevice$FrameReader" "preamble" "I", Cond.methodLink RX4 124 yX0_take, Cond.instanceMethod yX0_take, Cond.selects RX0 yX0_take yX0_take, Cond.code yX0_take cX0_take 2 (some .boolean), Cond.fieldLink RX0 25 "LoopDevice$FrameReader" "sum" "I", Cond.fieldLink RX0 28 "LoopDevice$FrameReader" "sumIsRight" "Z", Cond.fieldLink RX0 39 "LoopDevice$FrameReader" "command" "I", Cond.methodLink RX0 32 yX0_beginAnew, Cond.methodLink RX0 35 yX0_takeAddress, Cond.instanceMethod yX0_takeAddress, Cond.selects RX0 yX0_takeAddress yX0_takeAddress, Cond.code yX0_takeAddress cX0_takeAddress 2 none, Cond.fieldLink RX0 60 "LoopDevice$FrameReader" "taken" "I", Cond.fieldLink RX0 57 "LoopDevice$FrameReader" "isLong" "Z", Cond.methodLink RX0 42 yX0_takeCount, Cond.instanceMethod yX0_takeCount, Cond.selects RX0 yX0_takeCount yX0_takeCount, Cond.code yX0_takeCount cX0_takeCount 2 none, Cond.methodLink RX0 45 yX0_takeData, Cond.instanceMethod yX0_takeData]
def wsL_law_r11 : List Cond := [Cond.selects RX0 yX0_takeData yX0_takeData, Cond.code yX0_takeData cX0_takeData 2 none, Cond.methodLink RX0 48 yX0_takePreamble, Cond.instanceMethod yX0_takePreamble, Cond.selects RX0 yX0_takePreamble yX0_takePreamble, Cond.code yX0_takePreamble cX0_takePreamble 3 none, Cond.methodLink RX0 51 Lib.Math.min.name, Cond.static Lib.Math.min.name, Cond.code Lib.Math.min.name Lib.Math.min.code 2 (some .int), Cond.methodLink RX4 128 yX4_countFrame, Cond.instanceMethod yX4_countFrame, Cond.selects RX4 yX4_countFrame yX4_countFrame, Cond.code yX4_countFrame cX4_countFrame 2 (some .boolean), Cond.fieldLink RX4 144 "LoopDevice$FrameReader" "sumIsRight" "Z", Cond.fieldLink RX4 92 "LoopDevice" "goodFrames" "I", Cond.fieldLink RX4 95 "LoopDevice" "otherFrames" "I", Cond.methodLink RX4 147 yX4_isForDevice, Cond.instanceMethod yX4_isForDevice, Cond.selects RX4 yX4_isForDevice yX4_isForDevice, Cond.code yX4_isForDevice cX4_isForDevice 1 (some .boolean), Cond.fieldLink RX4 150 "LoopDevice$FrameReader" "isLong" "Z", Cond.methodLink RX4 153 yX0_station, Cond.instanceMethod yX0_station, Cond.selects RX0 yX0_station yX0_station]
def wsL_law_r12 : List Cond := [Cond.code yX0_station cX0_station 1 (some .int), Cond.methodLink RX0 66 yX0_addressAt, Cond.instanceMethod yX0_addressAt, Cond.selects RX0 yX0_addressAt yX0_addressAt, Cond.code yX0_addressAt cX0_addressAt 2 (some .int), Cond.methodLink RX4 156 yX4_isBroadcast, Cond.instanceMethod yX4_isBroadcast, Cond.selects RX4 yX4_isBroadcast yX4_isBroadcast, Cond.code yX4_isBroadcast cX4_isBroadcast 1 (some .boolean), Cond.fieldLink RX4 169 "LoopDevice$FrameReader" "command" "I", Cond.methodLink RX4 159 yX0_kind, Cond.instanceMethod yX0_kind, Cond.selects RX0 yX0_kind yX0_kind, Cond.code yX0_kind cX0_kind 1 (some .int), Cond.methodLink RX4 162 yX0_number, Cond.instanceMethod yX0_number, Cond.selects RX0 yX0_number yX0_number, Cond.code yX0_number cX0_number 1 (some .int), Cond.methodLink RX4 165 yX2_hasLongAddress, Cond.instanceMethod yX2_hasLongAddress, Cond.selects RX2 yX2_hasLongAddress yX2_hasLongAddress, Cond.code yX2_hasLongAddress cX2_hasLongAddress 4 (some .boolean), Cond.methodLink RX4 131 yX4_answerFrame, Cond.instanceMethod yX4_answerFrame]
def wsL_law_r13 : List Cond := [Cond.selects RX4 yX4_answerFrame yX4_answerFrame, Cond.code yX4_answerFrame cX4_answerFrame 3 none, Cond.fieldLink RX4 184 "LoopDevice$Holdings" "cold" "I", Cond.methodLink RX4 172 yX4_codeOfFrame, Cond.instanceMethod yX4_codeOfFrame, Cond.selects RX4 yX4_codeOfFrame yX4_codeOfFrame, Cond.code yX4_codeOfFrame cX4_codeOfFrame 3 (some .int), Cond.methodLink RX4 187 yX4_countOfCommand, Cond.static yX4_countOfCommand, Cond.code yX4_countOfCommand cX4_countOfCommand 1 (some .int), Cond.methodLink RX4 196 yX4_tagIsInFrame, Cond.instanceMethod yX4_tagIsInFrame, Cond.selects RX4 yX4_tagIsInFrame yX4_tagIsInFrame, Cond.code yX4_tagIsInFrame cX4_tagIsInFrame 2 (some .boolean), Cond.methodLink RX4 199 yX0_fourAt, Cond.instanceMethod yX0_fourAt, Cond.selects RX0 yX0_fourAt yX0_fourAt, Cond.code yX0_fourAt cX0_fourAt 2 (some .int), Cond.methodLink RX0 70 yX0_dataAt, Cond.methodLink RX4 202 yX4_codeOfEnds, Cond.static yX4_codeOfEnds, Cond.code yX4_codeOfEnds cX4_codeOfEnds 2 (some .int), Cond.methodLink RX4 175 yX0_master, Cond.instanceMethod yX0_master]
def wsL_law_r14 : List Cond := [Cond.selects RX0 yX0_master yX0_master, Cond.code yX0_master cX0_master 1 (some .int), Cond.methodLink RX4 178 yX4_carryOut, Cond.instanceMethod yX4_carryOut, Cond.selects RX4 yX4_carryOut yX4_carryOut, Cond.code yX4_carryOut cX4_carryOut 4 none, Cond.fieldLink RX4 77 "LoopDevice$Holdings" "upper" "I", Cond.fieldLink RX4 74 "LoopDevice$Holdings" "lower" "I", Cond.fieldLink RX4 209 "LoopDevice$Holdings" "changed" "I", Cond.methodLink RX4 206 yX2_setTagByte, Cond.instanceMethod yX2_setTagByte, Cond.selects RX2 yX2_setTagByte yX2_setTagByte, Cond.code yX2_setTagByte cX2_setTagByte 3 none, Cond.methodLink RX4 181 yX1_waitOneTick, Cond.instanceMethod yX1_waitOneTick, Cond.selects RX1 yX1_waitOneTick yX1_waitOneTick, Cond.code yX1_waitOneTick cX1_waitOneTick 1 none, Cond.methodLink RL 25 yX5_octet, Cond.instanceMethod yX5_octet, Cond.selects RX5 yX5_octet yX5_octet, Cond.code yX5_octet cX5_octet 2 (some .int), Cond.fieldLink RX5 54 "LoopDeviceModel" "thrown" "I", Cond.fieldLink RX5 172 "LoopDeviceModel" "sent" "I", Cond.methodLink RX5 191 yX5_pass]
def wsL_law_r15 : List Cond := [Cond.instanceMethod yX5_pass, Cond.selects RX5 yX5_pass yX5_pass, Cond.code yX5_pass cX5_pass 4 none, Cond.fieldLink RX5 105 "LoopDeviceModel" "isBurst" "Z", Cond.fieldLink RX5 65 "LoopDeviceModel" "preamble" "I", Cond.fieldLink RX5 68 "LoopDeviceModel" "came" "I", Cond.constantLong RX5 167 (8), Cond.fieldLink RX5 169 "LoopDeviceModel" "bursts" "I", Cond.fieldLink RX5 151 "LoopDeviceModel" "now" "I", Cond.fieldLink RX5 109 "LoopDeviceModel" "outSize" "I", Cond.fieldLink RX5 188 "LoopDeviceModel" "bad" "I", Cond.methodLink RX5 160 yX5_isBusy, Cond.instanceMethod yX5_isBusy, Cond.selects RX5 yX5_isBusy yX5_isBusy, Cond.code yX5_isBusy cX5_isBusy 1 (some .boolean), Cond.methodLink RX5 163 yX5_quiet, Cond.instanceMethod yX5_quiet, Cond.selects RX5 yX5_quiet yX5_quiet, Cond.code yX5_quiet cX5_quiet 1 (some .long), Cond.methodLink RX5 156 yX5_send, Cond.instanceMethod yX5_send, Cond.selects RX5 yX5_send yX5_send, Cond.code yX5_send cX5_send 11 none, Cond.fieldLink RX5 80 "LoopDeviceModel" "shortAddress" "I"]
def wsL_law_r16 : List Cond := [Cond.methodLink RX5 112 yX5_put, Cond.instanceMethod yX5_put, Cond.selects RX5 yX5_put yX5_put, Cond.code yX5_put cX5_put 2 none, Cond.methodLink RX5 136 yX5_statusOf, Cond.instanceMethod yX5_statusOf, Cond.selects RX5 yX5_statusOf yX5_statusOf, Cond.code yX5_statusOf cX5_statusOf 3 (some .int), Cond.fieldLink RX5 130 "LoopDeviceModel" "hasFailed" "Z", Cond.fieldLink RX5 102 "LoopDeviceModel" "lower" "I", Cond.methodLink RX5 139 yX5_putData, Cond.instanceMethod yX5_putData, Cond.selects RX5 yX5_putData yX5_putData, Cond.code yX5_putData cX5_putData 3 none, Cond.fieldLink RX5 99 "LoopDeviceModel" "unit" "I", Cond.fieldLink RX5 133 "LoopDeviceModel" "answers" "I", Cond.methodLink RX5 124 yX5_putWord, Cond.instanceMethod yX5_putWord, Cond.selects RX5 yX5_putWord yX5_putWord, Cond.code yX5_putWord cX5_putWord 2 none, Cond.methodLink RX5 127 yX5_putLevel, Cond.instanceMethod yX5_putLevel, Cond.selects RX5 yX5_putLevel yX5_putLevel, Cond.code yX5_putLevel cX5_putLevel 5 none]
def wsL_law_r17 : List Cond := [Cond.constantLong RX5 116 (16000), Cond.constantLong RX5 118 (4000), Cond.constantLong RX5 120 (3800), Cond.constantLong RX5 122 (20500), Cond.methodLink RX5 71 yX5_count, Cond.instanceMethod yX5_count, Cond.selects RX5 yX5_count yX5_count, Cond.code yX5_count cX5_count 1 (some .int), Cond.methodLink RX5 57 yX5_addressSize, Cond.instanceMethod yX5_addressSize, Cond.selects RX5 yX5_addressSize yX5_addressSize, Cond.code yX5_addressSize cX5_addressSize 1 (some .int), Cond.methodLink RX5 61 yX5_data, Cond.instanceMethod yX5_data, Cond.selects RX5 yX5_data yX5_data, Cond.code yX5_data cX5_data 2 (some .int), Cond.methodLink RX5 74 yX5_forget, Cond.instanceMethod yX5_forget, Cond.selects RX5 yX5_forget yX5_forget, Cond.code yX5_forget cX5_forget 1 none, Cond.methodLink RX5 175 yX5_keep, Cond.instanceMethod yX5_keep, Cond.selects RX5 yX5_keep yX5_keep, Cond.code yX5_keep cX5_keep 3 (some .boolean)]
def wsL_law_r18 : List Cond := [Cond.methodLink RX5 179 yX5_isRight, Cond.instanceMethod yX5_isRight, Cond.selects RX5 yX5_isRight yX5_isRight, Cond.code yX5_isRight cX5_isRight 3 (some .boolean), Cond.methodLink RX5 182 yX5_isOwn, Cond.instanceMethod yX5_isOwn, Cond.selects RX5 yX5_isOwn yX5_isOwn, Cond.code yX5_isOwn cX5_isOwn 3 (some .boolean), Cond.methodLink RX5 83 yX5_isBroadcast, Cond.instanceMethod yX5_isBroadcast, Cond.selects RX5 yX5_isBroadcast yX5_isBroadcast, Cond.code yX5_isBroadcast cX5_isBroadcast 1 (some .boolean), Cond.methodLink RX5 77 yX5_command, Cond.instanceMethod yX5_command, Cond.selects RX5 yX5_command yX5_command, Cond.code yX5_command cX5_command 1 (some .int), Cond.methodLink RX5 185 yX5_answer, Cond.instanceMethod yX5_answer, Cond.selects RX5 yX5_answer yX5_answer, Cond.code yX5_answer cX5_answer 2 none, Cond.fieldLink RX5 142 "LoopDeviceModel" "good" "I", Cond.constantLong RX5 154 (2), Cond.methodLink RX5 145 yX5_codeOf, Cond.instanceMethod yX5_codeOf]
def wsL_law_r19 : List Cond := [Cond.selects RX5 yX5_codeOf yX5_codeOf, Cond.code yX5_codeOf cX5_codeOf 3 (some .int), Cond.methodLink RX5 87 yX5_countWanted, Cond.static yX5_countWanted, Cond.code yX5_countWanted cX5_countWanted 1 (some .int), Cond.methodLink RX5 90 yX5_hasTag, Cond.instanceMethod yX5_hasTag, Cond.selects RX5 yX5_hasTag yX5_hasTag, Cond.code yX5_hasTag cX5_hasTag 3 (some .boolean), Cond.methodLink RX5 93 yX5_word, Cond.instanceMethod yX5_word, Cond.selects RX5 yX5_word yX5_word, Cond.code yX5_word cX5_word 2 (some .int), Cond.methodLink RX5 148 yX5_obey, Cond.instanceMethod yX5_obey, Cond.selects RX5 yX5_obey yX5_obey, Cond.code yX5_obey cX5_obey 3 none, Cond.methodLink RX5 96 yX5_master, Cond.instanceMethod yX5_master, Cond.selects RX5 yX5_master yX5_master, Cond.code yX5_master cX5_master 1 (some .int), Cond.methodLink RL 26 yX4_octets, Cond.instanceMethod yX4_octets, Cond.selects RX4 yX4_octets yX4_octets]
def wsL_law_r20 : List Cond := [Cond.code yX4_octets cX4_octets 3 (some .int), Cond.methodLink RL 29 yX5_octets, Cond.instanceMethod yX5_octets, Cond.selects RX5 yX5_octets yX5_octets, Cond.code yX5_octets cX5_octets 3 (some .int), Cond.methodLink RL 30 yX4_tick, Cond.instanceMethod yX4_tick, Cond.selects RX4 yX4_tick yX4_tick, Cond.code yX4_tick cX4_tick 3 (some .int), Cond.methodLink RL 33 yX5_tick, Cond.instanceMethod yX5_tick, Cond.selects RX5 yX5_tick yX5_tick, Cond.code yX5_tick cX5_tick 3 (some .int), Cond.methodLink RL 34 yX4_sent, Cond.instanceMethod yX4_sent, Cond.selects RX4 yX4_sent yX4_sent, Cond.code yX4_sent cX4_sent 2 (some .int), Cond.methodLink RX4 48 yX3_byteAt, Cond.instanceMethod yX3_byteAt, Cond.selects RX3 yX3_byteAt yX3_byteAt, Cond.code yX3_byteAt cX3_byteAt 3 (some .int), Cond.methodLink RX3 22 yX3_placeOf, Cond.instanceMethod yX3_placeOf, Cond.selects RX3 yX3_placeOf yX3_placeOf]
def wsL_law_r21 : List Cond := [Cond.code yX3_placeOf cX3_placeOf 2 (some .int), Cond.methodLink RL 37 yX5_sent, Cond.instanceMethod yX5_sent, Cond.selects RX5 yX5_sent yX5_sent, Cond.code yX5_sent cX5_sent 2 (some .int), Cond.methodLink RX5 194 yX5_isKept, Cond.instanceMethod yX5_isKept, Cond.selects RX5 yX5_isKept yX5_isKept, Cond.code yX5_isKept cX5_isKept 2 (some .boolean), Cond.methodLink RL 38 yX4_when, Cond.instanceMethod yX4_when, Cond.selects RX4 yX4_when yX4_when, Cond.code yX4_when cX4_when 2 (some .int), Cond.methodLink RX4 52 yX3_tickAt, Cond.instanceMethod yX3_tickAt, Cond.selects RX3 yX3_tickAt yX3_tickAt, Cond.code yX3_tickAt cX3_tickAt 3 (some .int), Cond.methodLink RL 41 yX5_when, Cond.instanceMethod yX5_when, Cond.selects RX5 yX5_when yX5_when, Cond.code yX5_when cX5_when 2 (some .int), Cond.methodLink RL 42 yX4_variable, Cond.instanceMethod yX4_variable, Cond.selects RX4 yX4_variable yX4_variable]
def wsL_law_r22 : List Cond := [Cond.code yX4_variable cX4_variable 5 (some .long), Cond.constantLong RX4 55 (-1), Cond.methodLink RX4 60 yX2_setVariable, Cond.instanceMethod yX2_setVariable, Cond.selects RX2 yX2_setVariable yX2_setVariable, Cond.code yX2_setVariable cX2_setVariable 3 none, Cond.methodLink RL 46 yX5_variable, Cond.instanceMethod yX5_variable, Cond.selects RX5 yX5_variable yX5_variable, Cond.code yX5_variable cX5_variable 4 (some .long), Cond.methodLink RL 47 yX4_failure, Cond.instanceMethod yX4_failure, Cond.selects RX4 yX4_failure yX4_failure, Cond.code yX4_failure cX4_failure 2 (some .int), Cond.methodLink RL 51 yX5_failure, Cond.instanceMethod yX5_failure, Cond.selects RX5 yX5_failure yX5_failure, Cond.code yX5_failure cX5_failure 3 (some .int), Cond.methodLink RL 52 yX4_has, Cond.instanceMethod yX4_has, Cond.selects RX4 yX4_has yX4_has, Cond.code yX4_has cX4_has 2 (some .long), Cond.methodLink RL 56 yX5_has, Cond.instanceMethod yX5_has]
def wsL_law_r23 : List Cond := [Cond.selects RX5 yX5_has yX5_has, Cond.code yX5_has cX5_has 2 (some .long), Cond.methodLink RL 57 yX4_tag, Cond.instanceMethod yX4_tag, Cond.selects RX4 yX4_tag yX4_tag, Cond.code yX4_tag cX4_tag 2 (some .int), Cond.methodLink RL 60 yX5_tag, Cond.instanceMethod yX5_tag, Cond.selects RX5 yX5_tag yX5_tag, Cond.code yX5_tag cX5_tag 2 (some .int), Cond.methodLink RL 61 yX4_now, Cond.instanceMethod yX4_now, Cond.selects RX4 yX4_now yX4_now, Cond.code yX4_now cX4_now 1 (some .int), Cond.methodLink RL 65 yX5_now, Cond.instanceMethod yX5_now, Cond.selects RX5 yX5_now yX5_now, Cond.code yX5_now cX5_now 1 (some .int)]
def wsL_law : List Cond := (wsL_law_r1 ++ (wsL_law_r2 ++ (wsL_law_r3 ++ (wsL_law_r4 ++ (wsL_law_r5 ++ (wsL_law_r6 ++ (wsL_law_r7 ++ (wsL_law_r8 ++ (wsL_law_r9 ++ (wsL_law_r10 ++ (wsL_law_r11 ++ (wsL_law_r12 ++ (wsL_law_r13 ++ (wsL_law_r14 ++ (wsL_law_r15 ++ (wsL_law_r16 ++ (wsL_law_r17 ++ (wsL_law_r18 ++ (wsL_law_r19 ++ (wsL_law_r20 ++ (wsL_law_r21 ++ (wsL_law_r22 ++ wsL_law_r23)))))))))))))))))))))) ++ wsX40 ++ wsX50 ++ wsX20 ++ wsX00 ++ wsX10 ++ wsX30 ++ ([] : List Cond)
theorem inlX0 : ∀ w ∈ wsX00, w ∈ wsL_law := fun _ h => List.mem_append_left _ (List.mem_append_left _ (List.mem_append_left _ (List.mem_append_right _ h)))
theorem inlX1 : ∀ w ∈ wsX10, w ∈ wsL_law := fun _ h => List.mem_append_left _ (List.mem_append_left _ (List.mem_append_right _ h))
theorem inlX2 : ∀ w ∈ wsX20, w ∈ wsL_law := fun _ h => List.mem_append_left _ (List.mem_append_left _ (List.mem_append_left _ (List.mem_append_left _ (List.mem_append_right _ h))))
theorem inlX3 : ∀ w ∈ wsX30, w ∈ wsL_law := fun _ h => List.mem_append_left _ (List.mem_append_right _ h)
theorem inlX4 : ∀ w ∈ wsX40, w ∈ wsL_law := fun _ h => List.mem_append_left _ (List.mem_append_left _ (List.mem_append_left _ (List.mem_append_left _ (List.mem_append_left _ (List.mem_append_left _ (List.mem_append_right _ h))))))
theorem inlX5 : ∀ w ∈ wsX50, w ∈ wsL_law := fun _ h => List.mem_append_left _ (List.mem_append_left _ (List.mem_append_left _ (List.mem_append_left _ (List.mem_append_left _ (List.mem_append_right _ h)))))
abbrev vwCl : List vw_C := [(RX0, TX0, 10), (RX1, TX1, 5), (RX2, TX2, 14), (RX3, TX3, 3), (RX4, TX4, 11), (RX5, TX5, 28)]
end
section
/-! every word of the law's list is a word of the tables -/
theorem tt1 {w : Cond} (i : Nat) (h : tables_1_1[i]? = some w) : w ∈ lw_tbl := by
  have h := List.mem_of_getElem? h
  exact List.mem_append_right _ (List.mem_append_left _ h)
theorem ts1 {q : MethodName × Nat} (i : Nat) (h : lw_privs_1[i]? = some q) : Cond.selects q.1.cls q.1 q.1 ∈ lw_tbl := by
  have h := List.mem_of_getElem? h
  exact List.mem_append_left _ (List.mem_map.mpr ⟨q, List.mem_append_left _ h, rfl⟩)
theorem tt2 {w : Cond} (i : Nat) (h : tables_1_2[i]? = some w) : w ∈ lw_tbl := by
  have h := List.mem_of_getElem? h
  exact List.mem_append_right _ (List.mem_append_right _ (List.mem_append_left _ h))
theorem ts2 {q : MethodName × Nat} (i : Nat) (h : lw_privs_2[i]? = some q) : Cond.selects q.1.cls q.1 q.1 ∈ lw_tbl := by
  have h := List.mem_of_getElem? h
  exact List.mem_append_left _ (List.mem_map.mpr ⟨q, List.mem_append_right _ (List.mem_append_left _ h), rfl⟩)
theorem tt3 {w : Cond} (i : Nat) (h : tables_1_3[i]? = some w) : w ∈ lw_tbl := by
  have h := List.mem_of_getElem? h
  exact List.mem_append_right _ (List.mem_append_right _ (List.mem_append_right _ h))
theorem ts3 {q : MethodName × Nat} (i : Nat) (h : lw_privs_3[i]? = some q) : Cond.selects q.1.cls q.1 q.1 ∈ lw_tbl := by
  have h := List.mem_of_getElem? h
  exact List.mem_append_left _ (List.mem_map.mpr ⟨q, List.mem_append_right _ (List.mem_append_right _ h), rfl⟩)
set_option maxRecDepth 20000 in
theorem tb_r1 : ∀ w ∈ wsL_law_r1, w ∈ lw_tbl := by
  unfold wsL_law_r1
  exact List.forall_mem_cons.mpr ⟨tt1 8 rfl, List.forall_mem_cons.mpr ⟨tt1 9 rfl, List.forall_mem_cons.mpr ⟨tt1 1 rfl, List.forall_mem_cons.mpr ⟨tt2 212 rfl, List.forall_mem_cons.mpr ⟨tt2 213 rfl, List.forall_mem_cons.mpr ⟨tt1 6 rfl, List.forall_mem_cons.mpr ⟨tt2 209 rfl, List.forall_mem_cons.mpr ⟨tt2 210 rfl, List.forall_mem_cons.mpr ⟨tt1 0 rfl, List.forall_mem_cons.mpr ⟨tt2 211 rfl, List.forall_mem_cons.mpr ⟨tt1 10 rfl, List.forall_mem_cons.mpr ⟨tt1 11 rfl, List.forall_mem_cons.mpr ⟨tt1 12 rfl, List.forall_mem_cons.mpr ⟨tt1 13 rfl, List.forall_mem_cons.mpr ⟨tt1 14 rfl, List.forall_mem_cons.mpr ⟨tt1 15 rfl, List.forall_mem_cons.mpr ⟨tt1 16 rfl, List.forall_mem_cons.mpr ⟨tt1 17 rfl, List.forall_mem_cons.mpr ⟨tt1 2 rfl, List.forall_mem_cons.mpr ⟨tt1 18 rfl, List.forall_mem_cons.mpr ⟨tt1 156 rfl, List.forall_mem_cons.mpr ⟨tt1 76 rfl, List.forall_mem_cons.mpr ⟨tt1 77 rfl, List.forall_mem_cons.mpr ⟨tt1 3 rfl, fun _ h => absurd h List.not_mem_nil⟩⟩⟩⟩⟩⟩⟩⟩⟩⟩⟩⟩⟩⟩⟩⟩⟩⟩⟩⟩⟩⟩⟩⟩
set_option maxRecDepth 20000 in
theorem tb_r2 : ∀ w ∈ wsL_law_r2, w ∈ lw_tbl := by
  unfold wsL_law_r2
  exact List.forall_mem_cons.mpr ⟨tt1 157 rfl, List.forall_mem_cons.mpr ⟨tt1 117 rfl, List.forall_mem_cons.mpr ⟨tt1 118 rfl, List.forall_mem_cons.mpr ⟨tt1 4 rfl, List.forall_mem_cons.mpr ⟨tt1 158 rfl, List.forall_mem_cons.mpr ⟨tt1 139 rfl, List.forall_mem_cons.mpr ⟨tt1 140 rfl, List.forall_mem_cons.mpr ⟨tt1 5 rfl, List.forall_mem_cons.mpr ⟨tt1 159 rfl, List.forall_mem_cons.mpr ⟨tt1 19 rfl, List.forall_mem_cons.mpr ⟨tt1 20 rfl, List.forall_mem_cons.mpr ⟨tt1 21 rfl, List.forall_mem_cons.mpr ⟨tt1 22 rfl, List.forall_mem_cons.mpr ⟨tt1 23 rfl, List.forall_mem_cons.mpr ⟨tt1 25 rfl, List.forall_mem_cons.mpr ⟨tt1 27 rfl, List.forall_mem_cons.mpr ⟨tt1 33 rfl, List.forall_mem_cons.mpr ⟨tt1 35 rfl, List.forall_mem_cons.mpr ⟨tt1 37 rfl, List.forall_mem_cons.mpr ⟨tt1 42 rfl, List.forall_mem_cons.mpr ⟨tt1 75 rfl, List.forall_mem_cons.mpr ⟨tt1 44 rfl, List.forall_mem_cons.mpr ⟨tt1 45 rfl, List.forall_mem_cons.mpr ⟨tt1 78 rfl, fun _ h => absurd h List.not_mem_nil⟩⟩⟩⟩⟩⟩⟩⟩⟩⟩⟩⟩⟩⟩⟩⟩⟩⟩⟩⟩⟩⟩⟩⟩
set_option maxRecDepth 20000 in
theorem tb_r3 : ∀ w ∈ wsL_law_r3, w ∈ lw_tbl := by
  unfold wsL_law_r3
  exact List.forall_mem_cons.mpr ⟨tt1 79 rfl, List.forall_mem_cons.mpr ⟨tt1 80 rfl, List.forall_mem_cons.mpr ⟨tt1 81 rfl, List.forall_mem_cons.mpr ⟨tt1 90 rfl, List.forall_mem_cons.mpr ⟨tt1 91 rfl, List.forall_mem_cons.mpr ⟨tt1 119 rfl, List.forall_mem_cons.mpr ⟨tt1 120 rfl, List.forall_mem_cons.mpr ⟨tt1 121 rfl, List.forall_mem_cons.mpr ⟨tt1 122 rfl, List.forall_mem_cons.mpr ⟨tt1 123 rfl, List.forall_mem_cons.mpr ⟨tt1 141 rfl, List.forall_mem_cons.mpr ⟨tt1 142 rfl, List.forall_mem_cons.mpr ⟨tt1 143 rfl, List.forall_mem_cons.mpr ⟨tt1 144 rfl, List.forall_mem_cons.mpr ⟨tt1 147 rfl, List.forall_mem_cons.mpr ⟨tt1 148 rfl, List.forall_mem_cons.mpr ⟨tt2 214 rfl, List.forall_mem_cons.mpr ⟨tt2 215 rfl, List.forall_mem_cons.mpr ⟨tt2 216 rfl, List.forall_mem_cons.mpr ⟨tt2 217 rfl, List.forall_mem_cons.mpr ⟨tt2 220 rfl, List.forall_mem_cons.mpr ⟨tt2 222 rfl, List.forall_mem_cons.mpr ⟨tt2 223 rfl, List.forall_mem_cons.mpr ⟨tt2 226 rfl, fun _ h => absurd h List.not_mem_nil⟩⟩⟩⟩⟩⟩⟩⟩⟩⟩⟩⟩⟩⟩⟩⟩⟩⟩⟩⟩⟩⟩⟩⟩
set_option maxRecDepth 20000 in
theorem tb_r4 : ∀ w ∈ wsL_law_r4, w ∈ lw_tbl := by
  unfold wsL_law_r4
  exact List.forall_mem_cons.mpr ⟨tt3 64 rfl, List.forall_mem_cons.mpr ⟨tt2 227 rfl, List.forall_mem_cons.mpr ⟨tt2 228 rfl, List.forall_mem_cons.mpr ⟨tt2 231 rfl, List.forall_mem_cons.mpr ⟨tt2 235 rfl, List.forall_mem_cons.mpr ⟨tt2 236 rfl, List.forall_mem_cons.mpr ⟨tt2 218 rfl, List.forall_mem_cons.mpr ⟨tt2 238 rfl, List.forall_mem_cons.mpr ⟨tt2 239 rfl, List.forall_mem_cons.mpr ⟨tt3 5 rfl, List.forall_mem_cons.mpr ⟨tt3 6 rfl, List.forall_mem_cons.mpr ⟨tt1 190 rfl, List.forall_mem_cons.mpr ⟨tt1 191 rfl, List.forall_mem_cons.mpr ⟨tt1 192 rfl, List.forall_mem_cons.mpr ⟨tt1 193 rfl, List.forall_mem_cons.mpr ⟨tt1 146 rfl, List.forall_mem_cons.mpr ⟨tt1 194 rfl, List.forall_mem_cons.mpr ⟨tt1 196 rfl, List.forall_mem_cons.mpr ⟨ts1 (q := (yX4_passTick, 11)) 0 rfl, List.forall_mem_cons.mpr ⟨tt1 197 rfl, List.forall_mem_cons.mpr ⟨tt1 160 rfl, List.forall_mem_cons.mpr ⟨tt1 161 rfl, List.forall_mem_cons.mpr ⟨tt1 198 rfl, List.forall_mem_cons.mpr ⟨tt1 200 rfl, fun _ h => absurd h List.not_mem_nil⟩⟩⟩⟩⟩⟩⟩⟩⟩⟩⟩⟩⟩⟩⟩⟩⟩⟩⟩⟩⟩⟩⟩⟩
set_option maxRecDepth 20000 in
theorem tb_r5 : ∀ w ∈ wsL_law_r5, w ∈ lw_tbl := by
  unfold wsL_law_r5
  exact List.forall_mem_cons.mpr ⟨ts1 (q := (yX4_burstIsDue, 11)) 1 rfl, List.forall_mem_cons.mpr ⟨tt1 201 rfl, List.forall_mem_cons.mpr ⟨tt1 41 rfl, List.forall_mem_cons.mpr ⟨tt1 202 rfl, List.forall_mem_cons.mpr ⟨tt1 203 rfl, List.forall_mem_cons.mpr ⟨tt1 204 rfl, List.forall_mem_cons.mpr ⟨tt1 205 rfl, List.forall_mem_cons.mpr ⟨tt1 125 rfl, List.forall_mem_cons.mpr ⟨tt1 124 rfl, List.forall_mem_cons.mpr ⟨tt1 206 rfl, List.forall_mem_cons.mpr ⟨tt1 208 rfl, List.forall_mem_cons.mpr ⟨ts1 (q := (yX4_beginBurst, 11)) 2 rfl, List.forall_mem_cons.mpr ⟨tt1 209 rfl, List.forall_mem_cons.mpr ⟨tt1 163 rfl, List.forall_mem_cons.mpr ⟨tt1 166 rfl, List.forall_mem_cons.mpr ⟨tt1 43 rfl, List.forall_mem_cons.mpr ⟨tt1 210 rfl, List.forall_mem_cons.mpr ⟨tt1 212 rfl, List.forall_mem_cons.mpr ⟨ts1 (q := (yX4_compose, 11)) 3 rfl, List.forall_mem_cons.mpr ⟨tt1 213 rfl, List.forall_mem_cons.mpr ⟨tt1 214 rfl, List.forall_mem_cons.mpr ⟨tt1 215 rfl, List.forall_mem_cons.mpr ⟨tt1 216 rfl, List.forall_mem_cons.mpr ⟨tt1 217 rfl, fun _ h => absurd h List.not_mem_nil⟩⟩⟩⟩⟩⟩⟩⟩⟩⟩⟩⟩⟩⟩⟩⟩⟩⟩⟩⟩⟩⟩⟩⟩
set_option maxRecDepth 20000 in
theorem tb_r6 : ∀ w ∈ wsL_law_r6, w ∈ lw_tbl := by
  unfold wsL_law_r6
  exact List.forall_mem_cons.mpr ⟨tt1 127 rfl, List.forall_mem_cons.mpr ⟨tt1 218 rfl, List.forall_mem_cons.mpr ⟨tt1 219 rfl, List.forall_mem_cons.mpr ⟨tt1 220 rfl, List.forall_mem_cons.mpr ⟨tt1 221 rfl, List.forall_mem_cons.mpr ⟨tt1 222 rfl, List.forall_mem_cons.mpr ⟨tt1 224 rfl, List.forall_mem_cons.mpr ⟨ts1 (q := (yX4_addAddress, 11)) 4 rfl, List.forall_mem_cons.mpr ⟨tt1 225 rfl, List.forall_mem_cons.mpr ⟨tt1 24 rfl, List.forall_mem_cons.mpr ⟨tt1 26 rfl, List.forall_mem_cons.mpr ⟨tt1 29 rfl, List.forall_mem_cons.mpr ⟨tt1 226 rfl, List.forall_mem_cons.mpr ⟨tt1 227 rfl, List.forall_mem_cons.mpr ⟨tt1 229 rfl, List.forall_mem_cons.mpr ⟨ts1 (q := (yX4_addNumber, 11)) 5 rfl, List.forall_mem_cons.mpr ⟨tt1 230 rfl, List.forall_mem_cons.mpr ⟨tt1 28 rfl, List.forall_mem_cons.mpr ⟨tt1 231 rfl, List.forall_mem_cons.mpr ⟨tt1 232 rfl, List.forall_mem_cons.mpr ⟨tt1 233 rfl, List.forall_mem_cons.mpr ⟨tt1 234 rfl, List.forall_mem_cons.mpr ⟨tt1 126 rfl, List.forall_mem_cons.mpr ⟨tt1 235 rfl, fun _ h => absurd h List.not_mem_nil⟩⟩⟩⟩⟩⟩⟩⟩⟩⟩⟩⟩⟩⟩⟩⟩⟩⟩⟩⟩⟩⟩⟩⟩
set_option maxRecDepth 20000 in
theorem tb_r7 : ∀ w ∈ wsL_law_r7, w ∈ lw_tbl := by
  unfold wsL_law_r7
  exact List.forall_mem_cons.mpr ⟨tt1 236 rfl, List.forall_mem_cons.mpr ⟨tt1 237 rfl, List.forall_mem_cons.mpr ⟨tt1 238 rfl, List.forall_mem_cons.mpr ⟨tt1 39 rfl, List.forall_mem_cons.mpr ⟨tt1 31 rfl, List.forall_mem_cons.mpr ⟨tt1 239 rfl, List.forall_mem_cons.mpr ⟨tt2 0 rfl, List.forall_mem_cons.mpr ⟨tt2 1 rfl, List.forall_mem_cons.mpr ⟨tt2 2 rfl, List.forall_mem_cons.mpr ⟨tt2 3 rfl, List.forall_mem_cons.mpr ⟨tt2 5 rfl, List.forall_mem_cons.mpr ⟨ts1 (q := (yX4_addData, 11)) 6 rfl, List.forall_mem_cons.mpr ⟨tt2 6 rfl, List.forall_mem_cons.mpr ⟨tt1 30 rfl, List.forall_mem_cons.mpr ⟨tt1 40 rfl, List.forall_mem_cons.mpr ⟨tt1 162 rfl, List.forall_mem_cons.mpr ⟨tt2 7 rfl, List.forall_mem_cons.mpr ⟨tt2 9 rfl, List.forall_mem_cons.mpr ⟨ts1 (q := (yX4_addIdentity, 11)) 7 rfl, List.forall_mem_cons.mpr ⟨tt2 10 rfl, List.forall_mem_cons.mpr ⟨tt2 11 rfl, List.forall_mem_cons.mpr ⟨tt2 12 rfl, List.forall_mem_cons.mpr ⟨tt2 13 rfl, List.forall_mem_cons.mpr ⟨tt2 14 rfl, fun _ h => absurd h List.not_mem_nil⟩⟩⟩⟩⟩⟩⟩⟩⟩⟩⟩⟩⟩⟩⟩⟩⟩⟩⟩⟩⟩⟩⟩⟩
set_option maxRecDepth 20000 in
theorem tb_r8 : ∀ w ∈ wsL_law_r8, w ∈ lw_tbl := by
  unfold wsL_law_r8
  exact List.forall_mem_cons.mpr ⟨tt2 15 rfl, List.forall_mem_cons.mpr ⟨tt2 16 rfl, List.forall_mem_cons.mpr ⟨tt2 17 rfl, List.forall_mem_cons.mpr ⟨tt2 18 rfl, List.forall_mem_cons.mpr ⟨tt2 19 rfl, List.forall_mem_cons.mpr ⟨tt2 20 rfl, List.forall_mem_cons.mpr ⟨tt2 21 rfl, List.forall_mem_cons.mpr ⟨tt2 22 rfl, List.forall_mem_cons.mpr ⟨tt2 23 rfl, List.forall_mem_cons.mpr ⟨tt2 24 rfl, List.forall_mem_cons.mpr ⟨tt2 25 rfl, List.forall_mem_cons.mpr ⟨tt1 7 rfl, List.forall_mem_cons.mpr ⟨tt2 26 rfl, List.forall_mem_cons.mpr ⟨tt2 27 rfl, List.forall_mem_cons.mpr ⟨tt2 28 rfl, List.forall_mem_cons.mpr ⟨tt2 29 rfl, List.forall_mem_cons.mpr ⟨tt2 30 rfl, List.forall_mem_cons.mpr ⟨tt2 31 rfl, List.forall_mem_cons.mpr ⟨tt2 32 rfl, List.forall_mem_cons.mpr ⟨tt2 33 rfl, List.forall_mem_cons.mpr ⟨tt2 34 rfl, List.forall_mem_cons.mpr ⟨tt2 36 rfl, List.forall_mem_cons.mpr ⟨ts1 (q := (yX4_addEcho, 11)) 8 rfl, List.forall_mem_cons.mpr ⟨tt2 37 rfl, fun _ h => absurd h List.not_mem_nil⟩⟩⟩⟩⟩⟩⟩⟩⟩⟩⟩⟩⟩⟩⟩⟩⟩⟩⟩⟩⟩⟩⟩⟩
set_option maxRecDepth 20000 in
theorem tb_r9 : ∀ w ∈ wsL_law_r9, w ∈ lw_tbl := by
  unfold wsL_law_r9
  exact List.forall_mem_cons.mpr ⟨tt1 87 rfl, List.forall_mem_cons.mpr ⟨tt2 38 rfl, List.forall_mem_cons.mpr ⟨tt2 39 rfl, List.forall_mem_cons.mpr ⟨tt2 40 rfl, List.forall_mem_cons.mpr ⟨tt2 41 rfl, List.forall_mem_cons.mpr ⟨tt2 42 rfl, List.forall_mem_cons.mpr ⟨tt2 43 rfl, List.forall_mem_cons.mpr ⟨tt2 44 rfl, List.forall_mem_cons.mpr ⟨tt1 86 rfl, List.forall_mem_cons.mpr ⟨tt2 45 rfl, List.forall_mem_cons.mpr ⟨tt2 46 rfl, List.forall_mem_cons.mpr ⟨tt2 47 rfl, List.forall_mem_cons.mpr ⟨tt2 48 rfl, List.forall_mem_cons.mpr ⟨tt2 49 rfl, List.forall_mem_cons.mpr ⟨tt2 50 rfl, List.forall_mem_cons.mpr ⟨tt2 51 rfl, List.forall_mem_cons.mpr ⟨tt2 52 rfl, List.forall_mem_cons.mpr ⟨tt2 53 rfl, List.forall_mem_cons.mpr ⟨tt2 54 rfl, List.forall_mem_cons.mpr ⟨tt2 55 rfl, List.forall_mem_cons.mpr ⟨tt2 56 rfl, List.forall_mem_cons.mpr ⟨tt1 145 rfl, List.forall_mem_cons.mpr ⟨tt2 57 rfl, List.forall_mem_cons.mpr ⟨tt2 58 rfl, fun _ h => absurd h List.not_mem_nil⟩⟩⟩⟩⟩⟩⟩⟩⟩⟩⟩⟩⟩⟩⟩⟩⟩⟩⟩⟩⟩⟩⟩⟩
set_option maxRecDepth 20000 in
theorem tb_r10 : ∀ w ∈ wsL_law_r10, w ∈ lw_tbl := by
  unfold wsL_law_r10
  exact List.forall_mem_cons.mpr ⟨tt2 59 rfl, List.forall_mem_cons.mpr ⟨tt2 60 rfl, List.forall_mem_cons.mpr ⟨tt1 92 rfl, List.forall_mem_cons.mpr ⟨tt1 93 rfl, List.forall_mem_cons.mpr ⟨tt2 61 rfl, List.forall_mem_cons.mpr ⟨tt2 62 rfl, List.forall_mem_cons.mpr ⟨tt2 63 rfl, List.forall_mem_cons.mpr ⟨tt2 64 rfl, List.forall_mem_cons.mpr ⟨tt1 95 rfl, List.forall_mem_cons.mpr ⟨tt1 88 rfl, List.forall_mem_cons.mpr ⟨tt1 84 rfl, List.forall_mem_cons.mpr ⟨tt2 65 rfl, List.forall_mem_cons.mpr ⟨tt2 66 rfl, List.forall_mem_cons.mpr ⟨tt2 68 rfl, List.forall_mem_cons.mpr ⟨ts1 (q := (yX0_takeAddress, 10)) 9 rfl, List.forall_mem_cons.mpr ⟨tt2 69 rfl, List.forall_mem_cons.mpr ⟨tt1 94 rfl, List.forall_mem_cons.mpr ⟨tt1 82 rfl, List.forall_mem_cons.mpr ⟨tt2 70 rfl, List.forall_mem_cons.mpr ⟨tt2 72 rfl, List.forall_mem_cons.mpr ⟨ts1 (q := (yX0_takeCount, 10)) 10 rfl, List.forall_mem_cons.mpr ⟨tt2 73 rfl, List.forall_mem_cons.mpr ⟨tt2 74 rfl, List.forall_mem_cons.mpr ⟨tt2 76 rfl, fun _ h => absurd h List.not_mem_nil⟩⟩⟩⟩⟩⟩⟩⟩⟩⟩⟩⟩⟩⟩⟩⟩⟩⟩⟩⟩⟩⟩⟩⟩
set_option maxRecDepth 20000 in
theorem tb_r11 : ∀ w ∈ wsL_law_r11, w ∈ lw_tbl := by
  unfold wsL_law_r11
  exact List.forall_mem_cons.mpr ⟨ts1 (q := (yX0_takeData, 10)) 11 rfl, List.forall_mem_cons.mpr ⟨tt2 77 rfl, List.forall_mem_cons.mpr ⟨tt2 78 rfl, List.forall_mem_cons.mpr ⟨tt2 80 rfl, List.forall_mem_cons.mpr ⟨ts1 (q := (yX0_takePreamble, 10)) 12 rfl, List.forall_mem_cons.mpr ⟨tt2 81 rfl, List.forall_mem_cons.mpr ⟨tt2 82 rfl, List.forall_mem_cons.mpr ⟨tt2 83 rfl, List.forall_mem_cons.mpr ⟨tt2 84 rfl, List.forall_mem_cons.mpr ⟨tt2 85 rfl, List.forall_mem_cons.mpr ⟨tt2 87 rfl, List.forall_mem_cons.mpr ⟨ts1 (q := (yX4_countFrame, 11)) 13 rfl, List.forall_mem_cons.mpr ⟨tt2 88 rfl, List.forall_mem_cons.mpr ⟨tt1 89 rfl, List.forall_mem_cons.mpr ⟨tt1 164 rfl, List.forall_mem_cons.mpr ⟨tt1 165 rfl, List.forall_mem_cons.mpr ⟨tt2 89 rfl, List.forall_mem_cons.mpr ⟨tt2 91 rfl, List.forall_mem_cons.mpr ⟨ts1 (q := (yX4_isForDevice, 11)) 14 rfl, List.forall_mem_cons.mpr ⟨tt2 92 rfl, List.forall_mem_cons.mpr ⟨tt1 83 rfl, List.forall_mem_cons.mpr ⟨tt2 93 rfl, List.forall_mem_cons.mpr ⟨tt2 94 rfl, List.forall_mem_cons.mpr ⟨tt2 95 rfl, fun _ h => absurd h List.not_mem_nil⟩⟩⟩⟩⟩⟩⟩⟩⟩⟩⟩⟩⟩⟩⟩⟩⟩⟩⟩⟩⟩⟩⟩⟩
set_option maxRecDepth 20000 in
theorem tb_r12 : ∀ w ∈ wsL_law_r12, w ∈ lw_tbl := by
  unfold wsL_law_r12
  exact List.forall_mem_cons.mpr ⟨tt2 96 rfl, List.forall_mem_cons.mpr ⟨tt2 97 rfl, List.forall_mem_cons.mpr ⟨tt2 99 rfl, List.forall_mem_cons.mpr ⟨ts1 (q := (yX0_addressAt, 10)) 15 rfl, List.forall_mem_cons.mpr ⟨tt2 100 rfl, List.forall_mem_cons.mpr ⟨tt2 101 rfl, List.forall_mem_cons.mpr ⟨tt2 103 rfl, List.forall_mem_cons.mpr ⟨ts2 (q := (yX4_isBroadcast, 11)) 0 rfl, List.forall_mem_cons.mpr ⟨tt2 104 rfl, List.forall_mem_cons.mpr ⟨tt1 85 rfl, List.forall_mem_cons.mpr ⟨tt2 105 rfl, List.forall_mem_cons.mpr ⟨tt2 106 rfl, List.forall_mem_cons.mpr ⟨tt2 107 rfl, List.forall_mem_cons.mpr ⟨tt2 108 rfl, List.forall_mem_cons.mpr ⟨tt2 109 rfl, List.forall_mem_cons.mpr ⟨tt2 110 rfl, List.forall_mem_cons.mpr ⟨tt2 111 rfl, List.forall_mem_cons.mpr ⟨tt2 112 rfl, List.forall_mem_cons.mpr ⟨tt2 113 rfl, List.forall_mem_cons.mpr ⟨tt2 114 rfl, List.forall_mem_cons.mpr ⟨tt2 115 rfl, List.forall_mem_cons.mpr ⟨tt2 116 rfl, List.forall_mem_cons.mpr ⟨tt2 117 rfl, List.forall_mem_cons.mpr ⟨tt2 119 rfl, fun _ h => absurd h List.not_mem_nil⟩⟩⟩⟩⟩⟩⟩⟩⟩⟩⟩⟩⟩⟩⟩⟩⟩⟩⟩⟩⟩⟩⟩⟩
set_option maxRecDepth 20000 in
theorem tb_r13 : ∀ w ∈ wsL_law_r13, w ∈ lw_tbl := by
  unfold wsL_law_r13
  exact List.forall_mem_cons.mpr ⟨ts2 (q := (yX4_answerFrame, 11)) 1 rfl, List.forall_mem_cons.mpr ⟨tt2 120 rfl, List.forall_mem_cons.mpr ⟨tt1 38 rfl, List.forall_mem_cons.mpr ⟨tt2 121 rfl, List.forall_mem_cons.mpr ⟨tt2 123 rfl, List.forall_mem_cons.mpr ⟨ts2 (q := (yX4_codeOfFrame, 11)) 2 rfl, List.forall_mem_cons.mpr ⟨tt2 124 rfl, List.forall_mem_cons.mpr ⟨tt2 125 rfl, List.forall_mem_cons.mpr ⟨tt2 126 rfl, List.forall_mem_cons.mpr ⟨tt2 127 rfl, List.forall_mem_cons.mpr ⟨tt2 128 rfl, List.forall_mem_cons.mpr ⟨tt2 130 rfl, List.forall_mem_cons.mpr ⟨ts2 (q := (yX4_tagIsInFrame, 11)) 3 rfl, List.forall_mem_cons.mpr ⟨tt2 131 rfl, List.forall_mem_cons.mpr ⟨tt2 132 rfl, List.forall_mem_cons.mpr ⟨tt2 133 rfl, List.forall_mem_cons.mpr ⟨tt2 134 rfl, List.forall_mem_cons.mpr ⟨tt2 135 rfl, List.forall_mem_cons.mpr ⟨tt2 136 rfl, List.forall_mem_cons.mpr ⟨tt2 137 rfl, List.forall_mem_cons.mpr ⟨tt2 138 rfl, List.forall_mem_cons.mpr ⟨tt2 139 rfl, List.forall_mem_cons.mpr ⟨tt2 140 rfl, List.forall_mem_cons.mpr ⟨tt2 141 rfl, fun _ h => absurd h List.not_mem_nil⟩⟩⟩⟩⟩⟩⟩⟩⟩⟩⟩⟩⟩⟩⟩⟩⟩⟩⟩⟩⟩⟩⟩⟩
set_option maxRecDepth 20000 in
theorem tb_r14 : ∀ w ∈ wsL_law_r14, w ∈ lw_tbl := by
  unfold wsL_law_r14
  exact List.forall_mem_cons.mpr ⟨tt2 142 rfl, List.forall_mem_cons.mpr ⟨tt2 143 rfl, List.forall_mem_cons.mpr ⟨tt2 144 rfl, List.forall_mem_cons.mpr ⟨tt2 146 rfl, List.forall_mem_cons.mpr ⟨ts2 (q := (yX4_carryOut, 11)) 4 rfl, List.forall_mem_cons.mpr ⟨tt2 147 rfl, List.forall_mem_cons.mpr ⟨tt1 34 rfl, List.forall_mem_cons.mpr ⟨tt1 32 rfl, List.forall_mem_cons.mpr ⟨tt1 36 rfl, List.forall_mem_cons.mpr ⟨tt2 148 rfl, List.forall_mem_cons.mpr ⟨tt2 149 rfl, List.forall_mem_cons.mpr ⟨tt2 150 rfl, List.forall_mem_cons.mpr ⟨tt2 151 rfl, List.forall_mem_cons.mpr ⟨tt2 152 rfl, List.forall_mem_cons.mpr ⟨tt2 153 rfl, List.forall_mem_cons.mpr ⟨tt2 154 rfl, List.forall_mem_cons.mpr ⟨tt2 155 rfl, List.forall_mem_cons.mpr ⟨tt3 65 rfl, List.forall_mem_cons.mpr ⟨tt3 66 rfl, List.forall_mem_cons.mpr ⟨tt3 67 rfl, List.forall_mem_cons.mpr ⟨tt3 68 rfl, List.forall_mem_cons.mpr ⟨tt2 219 rfl, List.forall_mem_cons.mpr ⟨tt3 4 rfl, List.forall_mem_cons.mpr ⟨tt3 69 rfl, fun _ h => absurd h List.not_mem_nil⟩⟩⟩⟩⟩⟩⟩⟩⟩⟩⟩⟩⟩⟩⟩⟩⟩⟩⟩⟩⟩⟩⟩⟩
set_option maxRecDepth 20000 in
theorem tb_r15 : ∀ w ∈ wsL_law_r15, w ∈ lw_tbl := by
  unfold wsL_law_r15
  exact List.forall_mem_cons.mpr ⟨tt3 71 rfl, List.forall_mem_cons.mpr ⟨ts2 (q := (yX5_pass, 28)) 6 rfl, List.forall_mem_cons.mpr ⟨tt3 72 rfl, List.forall_mem_cons.mpr ⟨tt2 230 rfl, List.forall_mem_cons.mpr ⟨tt2 233 rfl, List.forall_mem_cons.mpr ⟨tt2 234 rfl, List.forall_mem_cons.mpr ⟨tt3 81 rfl, List.forall_mem_cons.mpr ⟨tt2 232 rfl, List.forall_mem_cons.mpr ⟨tt3 0 rfl, List.forall_mem_cons.mpr ⟨tt2 237 rfl, List.forall_mem_cons.mpr ⟨tt3 3 rfl, List.forall_mem_cons.mpr ⟨tt3 73 rfl, List.forall_mem_cons.mpr ⟨tt3 75 rfl, List.forall_mem_cons.mpr ⟨ts2 (q := (yX5_isBusy, 28)) 7 rfl, List.forall_mem_cons.mpr ⟨tt3 76 rfl, List.forall_mem_cons.mpr ⟨tt3 77 rfl, List.forall_mem_cons.mpr ⟨tt3 79 rfl, List.forall_mem_cons.mpr ⟨ts2 (q := (yX5_quiet, 28)) 8 rfl, List.forall_mem_cons.mpr ⟨tt3 80 rfl, List.forall_mem_cons.mpr ⟨tt3 82 rfl, List.forall_mem_cons.mpr ⟨tt3 84 rfl, List.forall_mem_cons.mpr ⟨ts2 (q := (yX5_send, 28)) 9 rfl, List.forall_mem_cons.mpr ⟨tt3 85 rfl, List.forall_mem_cons.mpr ⟨tt2 221 rfl, fun _ h => absurd h List.not_mem_nil⟩⟩⟩⟩⟩⟩⟩⟩⟩⟩⟩⟩⟩⟩⟩⟩⟩⟩⟩⟩⟩⟩⟩⟩
set_option maxRecDepth 20000 in
theorem tb_r16 : ∀ w ∈ wsL_law_r16, w ∈ lw_tbl := by
  unfold wsL_law_r16
  exact List.forall_mem_cons.mpr ⟨tt3 86 rfl, List.forall_mem_cons.mpr ⟨tt3 88 rfl, List.forall_mem_cons.mpr ⟨ts2 (q := (yX5_put, 28)) 10 rfl, List.forall_mem_cons.mpr ⟨tt3 89 rfl, List.forall_mem_cons.mpr ⟨tt3 90 rfl, List.forall_mem_cons.mpr ⟨tt3 92 rfl, List.forall_mem_cons.mpr ⟨ts2 (q := (yX5_statusOf, 28)) 11 rfl, List.forall_mem_cons.mpr ⟨tt3 93 rfl, List.forall_mem_cons.mpr ⟨tt2 229 rfl, List.forall_mem_cons.mpr ⟨tt2 225 rfl, List.forall_mem_cons.mpr ⟨tt3 94 rfl, List.forall_mem_cons.mpr ⟨tt3 96 rfl, List.forall_mem_cons.mpr ⟨ts2 (q := (yX5_putData, 28)) 12 rfl, List.forall_mem_cons.mpr ⟨tt3 97 rfl, List.forall_mem_cons.mpr ⟨tt2 224 rfl, List.forall_mem_cons.mpr ⟨tt3 1 rfl, List.forall_mem_cons.mpr ⟨tt3 98 rfl, List.forall_mem_cons.mpr ⟨tt3 100 rfl, List.forall_mem_cons.mpr ⟨ts2 (q := (yX5_putWord, 28)) 13 rfl, List.forall_mem_cons.mpr ⟨tt3 101 rfl, List.forall_mem_cons.mpr ⟨tt3 102 rfl, List.forall_mem_cons.mpr ⟨tt3 104 rfl, List.forall_mem_cons.mpr ⟨ts2 (q := (yX5_putLevel, 28)) 14 rfl, List.forall_mem_cons.mpr ⟨tt3 105 rfl, fun _ h => absurd h List.not_mem_nil⟩⟩⟩⟩⟩⟩⟩⟩⟩⟩⟩⟩⟩⟩⟩⟩⟩⟩⟩⟩⟩⟩⟩⟩
set_option maxRecDepth 20000 in
theorem tb_r17 : ∀ w ∈ wsL_law_r17, w ∈ lw_tbl := by
  unfold wsL_law_r17
  exact List.forall_mem_cons.mpr ⟨tt3 106 rfl, List.forall_mem_cons.mpr ⟨tt3 107 rfl, List.forall_mem_cons.mpr ⟨tt3 108 rfl, List.forall_mem_cons.mpr ⟨tt3 109 rfl, List.forall_mem_cons.mpr ⟨tt3 110 rfl, List.forall_mem_cons.mpr ⟨tt3 112 rfl, List.forall_mem_cons.mpr ⟨ts2 (q := (yX5_count, 28)) 15 rfl, List.forall_mem_cons.mpr ⟨tt3 113 rfl, List.forall_mem_cons.mpr ⟨tt3 114 rfl, List.forall_mem_cons.mpr ⟨tt3 116 rfl, List.forall_mem_cons.mpr ⟨ts3 (q := (yX5_addressSize, 28)) 0 rfl, List.forall_mem_cons.mpr ⟨tt3 117 rfl, List.forall_mem_cons.mpr ⟨tt3 118 rfl, List.forall_mem_cons.mpr ⟨tt3 120 rfl, List.forall_mem_cons.mpr ⟨ts3 (q := (yX5_data, 28)) 1 rfl, List.forall_mem_cons.mpr ⟨tt3 121 rfl, List.forall_mem_cons.mpr ⟨tt3 122 rfl, List.forall_mem_cons.mpr ⟨tt3 124 rfl, List.forall_mem_cons.mpr ⟨ts3 (q := (yX5_forget, 28)) 2 rfl, List.forall_mem_cons.mpr ⟨tt3 125 rfl, List.forall_mem_cons.mpr ⟨tt3 126 rfl, List.forall_mem_cons.mpr ⟨tt3 128 rfl, List.forall_mem_cons.mpr ⟨ts3 (q := (yX5_keep, 28)) 3 rfl, List.forall_mem_cons.mpr ⟨tt3 129 rfl, fun _ h => absurd h List.not_mem_nil⟩⟩⟩⟩⟩⟩⟩⟩⟩⟩⟩⟩⟩⟩⟩⟩⟩⟩⟩⟩⟩⟩⟩⟩
set_option maxRecDepth 20000 in
theorem tb_r18 : ∀ w ∈ wsL_law_r18, w ∈ lw_tbl := by
  unfold wsL_law_r18
  exact List.forall_mem_cons.mpr ⟨tt3 130 rfl, List.forall_mem_cons.mpr ⟨tt3 132 rfl, List.forall_mem_cons.mpr ⟨ts3 (q := (yX5_isRight, 28)) 4 rfl, List.forall_mem_cons.mpr ⟨tt3 133 rfl, List.forall_mem_cons.mpr ⟨tt3 134 rfl, List.forall_mem_cons.mpr ⟨tt3 136 rfl, List.forall_mem_cons.mpr ⟨ts3 (q := (yX5_isOwn, 28)) 5 rfl, List.forall_mem_cons.mpr ⟨tt3 137 rfl, List.forall_mem_cons.mpr ⟨tt3 138 rfl, List.forall_mem_cons.mpr ⟨tt3 140 rfl, List.forall_mem_cons.mpr ⟨ts3 (q := (yX5_isBroadcast, 28)) 6 rfl, List.forall_mem_cons.mpr ⟨tt3 141 rfl, List.forall_mem_cons.mpr ⟨tt3 142 rfl, List.forall_mem_cons.mpr ⟨tt3 144 rfl, List.forall_mem_cons.mpr ⟨ts3 (q := (yX5_command, 28)) 7 rfl, List.forall_mem_cons.mpr ⟨tt3 145 rfl, List.forall_mem_cons.mpr ⟨tt3 146 rfl, List.forall_mem_cons.mpr ⟨tt3 148 rfl, List.forall_mem_cons.mpr ⟨ts3 (q := (yX5_answer, 28)) 8 rfl, List.forall_mem_cons.mpr ⟨tt3 149 rfl, List.forall_mem_cons.mpr ⟨tt3 2 rfl, List.forall_mem_cons.mpr ⟨tt3 173 rfl, List.forall_mem_cons.mpr ⟨tt3 150 rfl, List.forall_mem_cons.mpr ⟨tt3 152 rfl, fun _ h => absurd h List.not_mem_nil⟩⟩⟩⟩⟩⟩⟩⟩⟩⟩⟩⟩⟩⟩⟩⟩⟩⟩⟩⟩⟩⟩⟩⟩
set_option maxRecDepth 20000 in
theorem tb_r19 : ∀ w ∈ wsL_law_r19, w ∈ lw_tbl := by
  unfold wsL_law_r19
  exact List.forall_mem_cons.mpr ⟨ts3 (q := (yX5_codeOf, 28)) 9 rfl, List.forall_mem_cons.mpr ⟨tt3 153 rfl, List.forall_mem_cons.mpr ⟨tt3 154 rfl, List.forall_mem_cons.mpr ⟨tt3 155 rfl, List.forall_mem_cons.mpr ⟨tt3 156 rfl, List.forall_mem_cons.mpr ⟨tt3 157 rfl, List.forall_mem_cons.mpr ⟨tt3 159 rfl, List.forall_mem_cons.mpr ⟨ts3 (q := (yX5_hasTag, 28)) 10 rfl, List.forall_mem_cons.mpr ⟨tt3 160 rfl, List.forall_mem_cons.mpr ⟨tt3 161 rfl, List.forall_mem_cons.mpr ⟨tt3 163 rfl, List.forall_mem_cons.mpr ⟨ts3 (q := (yX5_word, 28)) 11 rfl, List.forall_mem_cons.mpr ⟨tt3 164 rfl, List.forall_mem_cons.mpr ⟨tt3 165 rfl, List.forall_mem_cons.mpr ⟨tt3 167 rfl, List.forall_mem_cons.mpr ⟨ts3 (q := (yX5_obey, 28)) 12 rfl, List.forall_mem_cons.mpr ⟨tt3 168 rfl, List.forall_mem_cons.mpr ⟨tt3 169 rfl, List.forall_mem_cons.mpr ⟨tt3 171 rfl, List.forall_mem_cons.mpr ⟨ts3 (q := (yX5_master, 28)) 13 rfl, List.forall_mem_cons.mpr ⟨tt3 172 rfl, List.forall_mem_cons.mpr ⟨tt2 156 rfl, List.forall_mem_cons.mpr ⟨tt2 157 rfl, List.forall_mem_cons.mpr ⟨tt2 158 rfl, fun _ h => absurd h List.not_mem_nil⟩⟩⟩⟩⟩⟩⟩⟩⟩⟩⟩⟩⟩⟩⟩⟩⟩⟩⟩⟩⟩⟩⟩⟩
set_option maxRecDepth 20000 in
theorem tb_r20 : ∀ w ∈ wsL_law_r20, w ∈ lw_tbl := by
  unfold wsL_law_r20
  exact List.forall_mem_cons.mpr ⟨tt2 159 rfl, List.forall_mem_cons.mpr ⟨tt3 174 rfl, List.forall_mem_cons.mpr ⟨tt3 175 rfl, List.forall_mem_cons.mpr ⟨tt3 176 rfl, List.forall_mem_cons.mpr ⟨tt3 177 rfl, List.forall_mem_cons.mpr ⟨tt2 160 rfl, List.forall_mem_cons.mpr ⟨tt2 161 rfl, List.forall_mem_cons.mpr ⟨tt2 162 rfl, List.forall_mem_cons.mpr ⟨tt2 163 rfl, List.forall_mem_cons.mpr ⟨tt3 178 rfl, List.forall_mem_cons.mpr ⟨tt3 179 rfl, List.forall_mem_cons.mpr ⟨tt3 180 rfl, List.forall_mem_cons.mpr ⟨tt3 181 rfl, List.forall_mem_cons.mpr ⟨tt2 164 rfl, List.forall_mem_cons.mpr ⟨tt2 165 rfl, List.forall_mem_cons.mpr ⟨tt2 166 rfl, List.forall_mem_cons.mpr ⟨tt2 167 rfl, List.forall_mem_cons.mpr ⟨tt2 168 rfl, List.forall_mem_cons.mpr ⟨tt2 169 rfl, List.forall_mem_cons.mpr ⟨tt2 170 rfl, List.forall_mem_cons.mpr ⟨tt2 171 rfl, List.forall_mem_cons.mpr ⟨tt2 172 rfl, List.forall_mem_cons.mpr ⟨tt2 174 rfl, List.forall_mem_cons.mpr ⟨ts2 (q := (yX3_placeOf, 3)) 5 rfl, fun _ h => absurd h List.not_mem_nil⟩⟩⟩⟩⟩⟩⟩⟩⟩⟩⟩⟩⟩⟩⟩⟩⟩⟩⟩⟩⟩⟩⟩⟩
set_option maxRecDepth 20000 in
theorem tb_r21 : ∀ w ∈ wsL_law_r21, w ∈ lw_tbl := by
  unfold wsL_law_r21
  exact List.forall_mem_cons.mpr ⟨tt2 175 rfl, List.forall_mem_cons.mpr ⟨tt3 182 rfl, List.forall_mem_cons.mpr ⟨tt3 183 rfl, List.forall_mem_cons.mpr ⟨tt3 184 rfl, List.forall_mem_cons.mpr ⟨tt3 185 rfl, List.forall_mem_cons.mpr ⟨tt3 186 rfl, List.forall_mem_cons.mpr ⟨tt3 188 rfl, List.forall_mem_cons.mpr ⟨ts3 (q := (yX5_isKept, 28)) 14 rfl, List.forall_mem_cons.mpr ⟨tt3 189 rfl, List.forall_mem_cons.mpr ⟨tt2 176 rfl, List.forall_mem_cons.mpr ⟨tt2 177 rfl, List.forall_mem_cons.mpr ⟨tt2 178 rfl, List.forall_mem_cons.mpr ⟨tt2 179 rfl, List.forall_mem_cons.mpr ⟨tt2 180 rfl, List.forall_mem_cons.mpr ⟨tt2 181 rfl, List.forall_mem_cons.mpr ⟨tt2 182 rfl, List.forall_mem_cons.mpr ⟨tt2 183 rfl, List.forall_mem_cons.mpr ⟨tt3 190 rfl, List.forall_mem_cons.mpr ⟨tt3 191 rfl, List.forall_mem_cons.mpr ⟨tt3 192 rfl, List.forall_mem_cons.mpr ⟨tt3 193 rfl, List.forall_mem_cons.mpr ⟨tt2 184 rfl, List.forall_mem_cons.mpr ⟨tt2 185 rfl, List.forall_mem_cons.mpr ⟨tt2 186 rfl, fun _ h => absurd h List.not_mem_nil⟩⟩⟩⟩⟩⟩⟩⟩⟩⟩⟩⟩⟩⟩⟩⟩⟩⟩⟩⟩⟩⟩⟩⟩
set_option maxRecDepth 20000 in
theorem tb_r22 : ∀ w ∈ wsL_law_r22, w ∈ lw_tbl := by
  unfold wsL_law_r22
  exact List.forall_mem_cons.mpr ⟨tt2 187 rfl, List.forall_mem_cons.mpr ⟨tt2 188 rfl, List.forall_mem_cons.mpr ⟨tt2 189 rfl, List.forall_mem_cons.mpr ⟨tt2 190 rfl, List.forall_mem_cons.mpr ⟨tt2 191 rfl, List.forall_mem_cons.mpr ⟨tt2 192 rfl, List.forall_mem_cons.mpr ⟨tt3 194 rfl, List.forall_mem_cons.mpr ⟨tt3 195 rfl, List.forall_mem_cons.mpr ⟨tt3 196 rfl, List.forall_mem_cons.mpr ⟨tt3 197 rfl, List.forall_mem_cons.mpr ⟨tt2 193 rfl, List.forall_mem_cons.mpr ⟨tt2 194 rfl, List.forall_mem_cons.mpr ⟨tt2 195 rfl, List.forall_mem_cons.mpr ⟨tt2 196 rfl, List.forall_mem_cons.mpr ⟨tt3 198 rfl, List.forall_mem_cons.mpr ⟨tt3 199 rfl, List.forall_mem_cons.mpr ⟨tt3 200 rfl, List.forall_mem_cons.mpr ⟨tt3 201 rfl, List.forall_mem_cons.mpr ⟨tt2 197 rfl, List.forall_mem_cons.mpr ⟨tt2 198 rfl, List.forall_mem_cons.mpr ⟨tt2 199 rfl, List.forall_mem_cons.mpr ⟨tt2 200 rfl, List.forall_mem_cons.mpr ⟨tt3 202 rfl, List.forall_mem_cons.mpr ⟨tt3 203 rfl, fun _ h => absurd h List.not_mem_nil⟩⟩⟩⟩⟩⟩⟩⟩⟩⟩⟩⟩⟩⟩⟩⟩⟩⟩⟩⟩⟩⟩⟩⟩
set_option maxRecDepth 20000 in
theorem tb_r23 : ∀ w ∈ wsL_law_r23, w ∈ lw_tbl := by
  unfold wsL_law_r23
  exact List.forall_mem_cons.mpr ⟨tt3 204 rfl, List.forall_mem_cons.mpr ⟨tt3 205 rfl, List.forall_mem_cons.mpr ⟨tt2 201 rfl, List.forall_mem_cons.mpr ⟨tt2 202 rfl, List.forall_mem_cons.mpr ⟨tt2 203 rfl, List.forall_mem_cons.mpr ⟨tt2 204 rfl, List.forall_mem_cons.mpr ⟨tt3 206 rfl, List.forall_mem_cons.mpr ⟨tt3 207 rfl, List.forall_mem_cons.mpr ⟨tt3 208 rfl, List.forall_mem_cons.mpr ⟨tt3 209 rfl, List.forall_mem_cons.mpr ⟨tt2 205 rfl, List.forall_mem_cons.mpr ⟨tt2 206 rfl, List.forall_mem_cons.mpr ⟨tt2 207 rfl, List.forall_mem_cons.mpr ⟨tt2 208 rfl, List.forall_mem_cons.mpr ⟨tt3 210 rfl, List.forall_mem_cons.mpr ⟨tt3 211 rfl, List.forall_mem_cons.mpr ⟨tt3 212 rfl, List.forall_mem_cons.mpr ⟨tt3 213 rfl, fun _ h => absurd h List.not_mem_nil⟩⟩⟩⟩⟩⟩⟩⟩⟩⟩⟩⟩⟩⟩⟩⟩⟩⟩
set_option maxRecDepth 20000 in
theorem inX0 : ∀ w ∈ wsX00, w ∈ lw_tbl := by
  intro w hw
  obtain ⟨k, hk, rfl⟩ := List.mem_map.mp hw
  have hk := List.mem_range.mp hk
  rcases (show k = 0 ∨ k = 1 ∨ k = 2 ∨ k = 3 ∨ k = 4 ∨ k = 5 ∨ k = 6 ∨ k = 7 ∨ k = 8 ∨ k = 9 by omega) with rfl | rfl | rfl | rfl | rfl | rfl | rfl | rfl | rfl | rfl
  · exact tt1 96 rfl
  · exact tt1 98 rfl
  · exact tt1 100 rfl
  · exact tt1 102 rfl
  · exact tt1 104 rfl
  · exact tt1 106 rfl
  · exact tt1 108 rfl
  · exact tt1 110 rfl
  · exact tt1 112 rfl
  · exact tt1 114 rfl
set_option maxRecDepth 20000 in
theorem inX1 : ∀ w ∈ wsX10, w ∈ lw_tbl := by
  intro w hw
  obtain ⟨k, hk, rfl⟩ := List.mem_map.mp hw
  have hk := List.mem_range.mp hk
  rcases (show k = 0 ∨ k = 1 ∨ k = 2 ∨ k = 3 ∨ k = 4 by omega) with rfl | rfl | rfl | rfl | rfl
  · exact tt1 128 rfl
  · exact tt1 130 rfl
  · exact tt1 132 rfl
  · exact tt1 134 rfl
  · exact tt1 136 rfl
set_option maxRecDepth 20000 in
theorem inX2 : ∀ w ∈ wsX20, w ∈ lw_tbl := by
  intro w hw
  obtain ⟨k, hk, rfl⟩ := List.mem_map.mp hw
  have hk := List.mem_range.mp hk
  rcases (show k = 0 ∨ k = 1 ∨ k = 2 ∨ k = 3 ∨ k = 4 ∨ k = 5 ∨ k = 6 ∨ k = 7 ∨ k = 8 ∨ k = 9 ∨ k = 10 ∨ k = 11 ∨ k = 12 ∨ k = 13 by omega) with rfl | rfl | rfl | rfl | rfl | rfl | rfl | rfl | rfl | rfl | rfl | rfl | rfl | rfl
  · exact tt1 46 rfl
  · exact tt1 48 rfl
  · exact tt1 50 rfl
  · exact tt1 52 rfl
  · exact tt1 54 rfl
  · exact tt1 56 rfl
  · exact tt1 58 rfl
  · exact tt1 60 rfl
  · exact tt1 62 rfl
  · exact tt1 64 rfl
  · exact tt1 66 rfl
  · exact tt1 68 rfl
  · exact tt1 70 rfl
  · exact tt1 72 rfl
set_option maxRecDepth 20000 in
theorem inX3 : ∀ w ∈ wsX30, w ∈ lw_tbl := by
  intro w hw
  obtain ⟨k, hk, rfl⟩ := List.mem_map.mp hw
  have hk := List.mem_range.mp hk
  rcases (show k = 0 ∨ k = 1 ∨ k = 2 by omega) with rfl | rfl | rfl
  · exact tt1 149 rfl
  · exact tt1 151 rfl
  · exact tt1 153 rfl
set_option maxRecDepth 20000 in
theorem inX4 : ∀ w ∈ wsX40, w ∈ lw_tbl := by
  intro w hw
  obtain ⟨k, hk, rfl⟩ := List.mem_map.mp hw
  have hk := List.mem_range.mp hk
  rcases (show k = 0 ∨ k = 1 ∨ k = 2 ∨ k = 3 ∨ k = 4 ∨ k = 5 ∨ k = 6 ∨ k = 7 ∨ k = 8 ∨ k = 9 ∨ k = 10 by omega) with rfl | rfl | rfl | rfl | rfl | rfl | rfl | rfl | rfl | rfl | rfl
  · exact tt1 167 rfl
  · exact tt1 169 rfl
  · exact tt1 171 rfl
  · exact tt1 173 rfl
  · exact tt1 175 rfl
  · exact tt1 177 rfl
  · exact tt1 179 rfl
  · exact tt1 181 rfl
  · exact tt1 183 rfl
  · exact tt1 185 rfl
  · exact tt1 187 rfl
set_option maxRecDepth 20000 in
theorem inX5 : ∀ w ∈ wsX50, w ∈ lw_tbl := by
  intro w hw
  obtain ⟨k, hk, rfl⟩ := List.mem_map.mp hw
  have hk := List.mem_range.mp hk
  rcases (show k = 0 ∨ k = 1 ∨ k = 2 ∨ k = 3 ∨ k = 4 ∨ k = 5 ∨ k = 6 ∨ k = 7 ∨ k = 8 ∨ k = 9 ∨ k = 10 ∨ k = 11 ∨ k = 12 ∨ k = 13 ∨ k = 14 ∨ k = 15 ∨ k = 16 ∨ k = 17 ∨ k = 18 ∨ k = 19 ∨ k = 20 ∨ k = 21 ∨ k = 22 ∨ k = 23 ∨ k = 24 ∨ k = 25 ∨ k = 26 ∨ k = 27 by omega) with rfl | rfl | rfl | rfl | rfl | rfl | rfl | rfl | rfl | rfl | rfl | rfl | rfl | rfl | rfl | rfl | rfl | rfl | rfl | rfl | rfl | rfl | rfl | rfl | rfl | rfl | rfl | rfl
  · exact tt3 7 rfl
  · exact tt3 9 rfl
  · exact tt3 11 rfl
  · exact tt3 13 rfl
  · exact tt3 15 rfl
  · exact tt3 17 rfl
  · exact tt3 19 rfl
  · exact tt3 21 rfl
  · exact tt3 23 rfl
  · exact tt3 25 rfl
  · exact tt3 27 rfl
  · exact tt3 29 rfl
  · exact tt3 31 rfl
  · exact tt3 33 rfl
  · exact tt3 35 rfl
  · exact tt3 37 rfl
  · exact tt3 39 rfl
  · exact tt3 41 rfl
  · exact tt3 43 rfl
  · exact tt3 45 rfl
  · exact tt3 47 rfl
  · exact tt3 49 rfl
  · exact tt3 51 rfl
  · exact tt3 53 rfl
  · exact tt3 55 rfl
  · exact tt3 57 rfl
  · exact tt3 59 rfl
  · exact tt3 61 rfl
theorem wsL_law_in : ∀ w ∈ wsL_law, w ∈ lw_tbl := by
  intro w h
  refine (List.mem_append.mp h).elim (fun h => ?_) (fun h => absurd h List.not_mem_nil)
  refine (List.mem_append.mp h).elim (fun h => ?_) (fun h => inX3 w h)
  refine (List.mem_append.mp h).elim (fun h => ?_) (fun h => inX1 w h)
  refine (List.mem_append.mp h).elim (fun h => ?_) (fun h => inX0 w h)
  refine (List.mem_append.mp h).elim (fun h => ?_) (fun h => inX2 w h)
  refine (List.mem_append.mp h).elim (fun h => ?_) (fun h => inX5 w h)
  refine (List.mem_append.mp h).elim (fun h => ?_) (fun h => inX4 w h)
  rcases List.mem_append.mp h with h | h
  · exact tb_r1 w h
  rcases List.mem_append.mp h with h | h
  · exact tb_r2 w h
  rcases List.mem_append.mp h with h | h
  · exact tb_r3 w h
  rcases List.mem_append.mp h with h | h
  · exact tb_r4 w h
  rcases List.mem_append.mp h with h | h
  · exact tb_r5 w h
  rcases List.mem_append.mp h with h | h
  · exact tb_r6 w h
  rcases List.mem_append.mp h with h | h
  · exact tb_r7 w h
  rcases List.mem_append.mp h with h | h
  · exact tb_r8 w h
  rcases List.mem_append.mp h with h | h
  · exact tb_r9 w h
  rcases List.mem_append.mp h with h | h
  · exact tb_r10 w h
  rcases List.mem_append.mp h with h | h
  · exact tb_r11 w h
  rcases List.mem_append.mp h with h | h
  · exact tb_r12 w h
  rcases List.mem_append.mp h with h | h
  · exact tb_r13 w h
  rcases List.mem_append.mp h with h | h
  · exact tb_r14 w h
  rcases List.mem_append.mp h with h | h
  · exact tb_r15 w h
  rcases List.mem_append.mp h with h | h
  · exact tb_r16 w h
  rcases List.mem_append.mp h with h | h
  · exact tb_r17 w h
  rcases List.mem_append.mp h with h | h
  · exact tb_r18 w h
  rcases List.mem_append.mp h with h | h
  · exact tb_r19 w h
  rcases List.mem_append.mp h with h | h
  · exact tb_r20 w h
  rcases List.mem_append.mp h with h | h
  · exact tb_r21 w h
  rcases List.mem_append.mp h with h | h
  · exact tb_r22 w h
  exact tb_r23 w h
end
section
theorem dX0_init_0 : decode cX0_init 0 = .ok (.aload_n 0, 1) := by decide +kernel
theorem dX0_init_1 : decode cX0_init 1 = .ok (.invokespecial 3, 3) := by decide +kernel
theorem dX0_init_4 : decode cX0_init 4 = .ok (.aload_n 0, 1) := by decide +kernel
theorem dX0_init_5 : decode cX0_init 5 = .ok (.iconst 5, 1) := by decide +kernel
theorem dX0_init_6 : decode cX0_init 6 = .ok (.newarray .int, 2) := by decide +kernel
theorem dX0_init_8 : decode cX0_init 8 = .ok (.putfield 11, 3) := by decide +kernel
theorem dX0_init_11 : decode cX0_init 11 = .ok (.aload_n 0, 1) := by decide +kernel
theorem dX0_init_12 : decode cX0_init 12 = .ok (.bipush 20, 2) := by decide +kernel
theorem dX0_init_14 : decode cX0_init 14 = .ok (.newarray .int, 2) := by decide +kernel
theorem dX0_init_16 : decode cX0_init 16 = .ok (.putfield 15, 3) := by decide +kernel
theorem dX0_init_19 : decode cX0_init 19 = .ok (.return_, 1) := by decide +kernel
theorem dX0_beginAnew_0 : decode cX0_beginAnew 0 = .ok (.aload_n 0, 1) := by decide +kernel
theorem dX0_beginAnew_1 : decode cX0_beginAnew 1 = .ok (.iconst 0, 1) := by decide +kernel
theorem dX0_beginAnew_2 : decode cX0_beginAnew 2 = .ok (.putfield 18, 3) := by decide +kernel
theorem dX0_beginAnew_5 : decode cX0_beginAnew 5 = .ok (.aload_n 0, 1) := by decide +kernel
theorem dX0_beginAnew_6 : decode cX0_beginAnew 6 = .ok (.iconst 0, 1) := by decide +kernel
theorem dX0_beginAnew_7 : decode cX0_beginAnew 7 = .ok (.putfield 22, 3) := by decide +kernel
theorem dX0_beginAnew_10 : decode cX0_beginAnew 10 = .ok (.return_, 1) := by decide +kernel
theorem dX0_take_0 : decode cX0_take 0 = .ok (.aload_n 0, 1) := by decide +kernel
theorem dX0_take_1 : decode cX0_take 1 = .ok (.getfield 18, 3) := by decide +kernel
theorem dX0_take_4 : decode cX0_take 4 = .ok (.iconst 5, 1) := by decide +kernel
theorem dX0_take_5 : decode cX0_take 5 = .ok (.if_icmp .ne 26, 3) := by decide +kernel
theorem dX0_take_8 : decode cX0_take 8 = .ok (.aload_n 0, 1) := by decide +kernel
theorem dX0_take_9 : decode cX0_take 9 = .ok (.iload_n 1, 1) := by decide +kernel
theorem dX0_take_10 : decode cX0_take 10 = .ok (.aload_n 0, 1) := by decide +kernel
theorem dX0_take_11 : decode cX0_take 11 = .ok (.getfield 25, 3) := by decide +kernel
theorem dX0_take_14 : decode cX0_take 14 = .ok (.if_icmp .ne 7, 3) := by decide +kernel
theorem dX0_take_17 : decode cX0_take 17 = .ok (.iconst 1, 1) := by decide +kernel
theorem dX0_take_18 : decode cX0_take 18 = .ok (.goto 4, 3) := by decide +kernel
theorem dX0_take_21 : decode cX0_take 21 = .ok (.iconst 0, 1) := by decide +kernel
theorem dX0_take_22 : decode cX0_take 22 = .ok (.putfield 28, 3) := by decide +kernel
theorem dX0_take_25 : decode cX0_take 25 = .ok (.aload_n 0, 1) := by decide +kernel
theorem dX0_take_26 : decode cX0_take 26 = .ok (.invokevirtual 32, 3) := by decide +kernel
theorem dX0_take_29 : decode cX0_take 29 = .ok (.iconst 1, 1) := by decide +kernel
theorem dX0_take_30 : decode cX0_take 30 = .ok (.ireturn, 1) := by decide +kernel
theorem dX0_take_31 : decode cX0_take 31 = .ok (.aload_n 0, 1) := by decide +kernel
theorem dX0_take_32 : decode cX0_take 32 = .ok (.dup, 1) := by decide +kernel
theorem dX0_take_33 : decode cX0_take 33 = .ok (.getfield 25, 3) := by decide +kernel
theorem dX0_take_36 : decode cX0_take 36 = .ok (.iload_n 1, 1) := by decide +kernel
theorem dX0_take_37 : decode cX0_take 37 = .ok (.ixor, 1) := by decide +kernel
theorem dX0_take_38 : decode cX0_take 38 = .ok (.putfield 25, 3) := by decide +kernel
theorem dX0_take_41 : decode cX0_take 41 = .ok (.aload_n 0, 1) := by decide +kernel
theorem dX0_take_42 : decode cX0_take 42 = .ok (.getfield 18, 3) := by decide +kernel
theorem dX0_take_45 : decode cX0_take 45 = .ok (.tableswitch 68 1 4 #[31, 39, 52, 60], 31) := by decide +kernel
theorem dX0_take_76 : decode cX0_take 76 = .ok (.aload_n 0, 1) := by decide +kernel
theorem dX0_take_77 : decode cX0_take 77 = .ok (.iload_n 1, 1) := by decide +kernel
theorem dX0_take_78 : decode cX0_take 78 = .ok (.invokevirtual 35, 3) := by decide +kernel
theorem dX0_take_81 : decode cX0_take 81 = .ok (.goto 37, 3) := by decide +kernel
theorem dX0_take_84 : decode cX0_take 84 = .ok (.aload_n 0, 1) := by decide +kernel
theorem dX0_take_85 : decode cX0_take 85 = .ok (.iload_n 1, 1) := by decide +kernel
theorem dX0_take_86 : decode cX0_take 86 = .ok (.putfield 39, 3) := by decide +kernel
theorem dX0_take_89 : decode cX0_take 89 = .ok (.aload_n 0, 1) := by decide +kernel
theorem dX0_take_90 : decode cX0_take 90 = .ok (.iconst 3, 1) := by decide +kernel
theorem dX0_take_91 : decode cX0_take 91 = .ok (.putfield 18, 3) := by decide +kernel
theorem dX0_take_94 : decode cX0_take 94 = .ok (.goto 24, 3) := by decide +kernel
theorem dX0_take_97 : decode cX0_take 97 = .ok (.aload_n 0, 1) := by decide +kernel
theorem dX0_take_98 : decode cX0_take 98 = .ok (.iload_n 1, 1) := by decide +kernel
theorem dX0_take_99 : decode cX0_take 99 = .ok (.invokevirtual 42, 3) := by decide +kernel
theorem dX0_take_102 : decode cX0_take 102 = .ok (.goto 16, 3) := by decide +kernel
theorem dX0_take_105 : decode cX0_take 105 = .ok (.aload_n 0, 1) := by decide +kernel
theorem dX0_take_106 : decode cX0_take 106 = .ok (.iload_n 1, 1) := by decide +kernel
theorem dX0_take_107 : decode cX0_take 107 = .ok (.invokevirtual 45, 3) := by decide +kernel
theorem dX0_take_110 : decode cX0_take 110 = .ok (.goto 8, 3) := by decide +kernel
theorem dX0_take_113 : decode cX0_take 113 = .ok (.aload_n 0, 1) := by decide +kernel
theorem dX0_take_114 : decode cX0_take 114 = .ok (.iload_n 1, 1) := by decide +kernel
theorem dX0_take_115 : decode cX0_take 115 = .ok (.invokevirtual 48, 3) := by decide +kernel
theorem dX0_take_118 : decode cX0_take 118 = .ok (.iconst 0, 1) := by decide +kernel
theorem dX0_take_119 : decode cX0_take 119 = .ok (.ireturn, 1) := by decide +kernel
theorem dX0_takePreamble_0 : decode cX0_takePreamble 0 = .ok (.iload_n 1, 1) := by decide +kernel
theorem dX0_takePreamble_1 : decode cX0_takePreamble 1 = .ok (.sipush 255, 3) := by decide +kernel
theorem dX0_takePreamble_4 : decode cX0_takePreamble 4 = .ok (.if_icmp .ne 18, 3) := by decide +kernel
theorem dX0_takePreamble_7 : decode cX0_takePreamble 7 = .ok (.aload_n 0, 1) := by decide +kernel
theorem dX0_takePreamble_8 : decode cX0_takePreamble 8 = .ok (.aload_n 0, 1) := by decide +kernel
theorem dX0_takePreamble_9 : decode cX0_takePreamble 9 = .ok (.getfield 22, 3) := by decide +kernel
theorem dX0_takePreamble_12 : decode cX0_takePreamble 12 = .ok (.iconst 1, 1) := by decide +kernel
theorem dX0_takePreamble_13 : decode cX0_takePreamble 13 = .ok (.iadd, 1) := by decide +kernel
theorem dX0_takePreamble_14 : decode cX0_takePreamble 14 = .ok (.iconst 3, 1) := by decide +kernel
theorem dX0_takePreamble_15 : decode cX0_takePreamble 15 = .ok (.invokestatic 51, 3) := by decide +kernel
theorem dX0_takePreamble_18 : decode cX0_takePreamble 18 = .ok (.putfield 22, 3) := by decide +kernel
theorem dX0_takePreamble_21 : decode cX0_takePreamble 21 = .ok (.return_, 1) := by decide +kernel
theorem dX0_takePreamble_22 : decode cX0_takePreamble 22 = .ok (.aload_n 0, 1) := by decide +kernel
theorem dX0_takePreamble_23 : decode cX0_takePreamble 23 = .ok (.getfield 22, 3) := by decide +kernel
theorem dX0_takePreamble_26 : decode cX0_takePreamble 26 = .ok (.iconst 3, 1) := by decide +kernel
theorem dX0_takePreamble_27 : decode cX0_takePreamble 27 = .ok (.if_icmp .lt 7, 3) := by decide +kernel
theorem dX0_takePreamble_30 : decode cX0_takePreamble 30 = .ok (.iconst 1, 1) := by decide +kernel
theorem dX0_takePreamble_31 : decode cX0_takePreamble 31 = .ok (.goto 4, 3) := by decide +kernel
theorem dX0_takePreamble_34 : decode cX0_takePreamble 34 = .ok (.iconst 0, 1) := by decide +kernel
theorem dX0_takePreamble_35 : decode cX0_takePreamble 35 = .ok (.istore_n 2, 1) := by decide +kernel
theorem dX0_takePreamble_36 : decode cX0_takePreamble 36 = .ok (.aload_n 0, 1) := by decide +kernel
theorem dX0_takePreamble_37 : decode cX0_takePreamble 37 = .ok (.invokevirtual 32, 3) := by decide +kernel
theorem dX0_takePreamble_40 : decode cX0_takePreamble 40 = .ok (.iload_n 2, 1) := by decide +kernel
theorem dX0_takePreamble_41 : decode cX0_takePreamble 41 = .ok (.ifCond .eq 46, 3) := by decide +kernel
theorem dX0_takePreamble_44 : decode cX0_takePreamble 44 = .ok (.iload_n 1, 1) := by decide +kernel
theorem dX0_takePreamble_45 : decode cX0_takePreamble 45 = .ok (.iconst 2, 1) := by decide +kernel
theorem dX0_takePreamble_46 : decode cX0_takePreamble 46 = .ok (.if_icmp .eq 10, 3) := by decide +kernel
theorem dX0_takePreamble_49 : decode cX0_takePreamble 49 = .ok (.iload_n 1, 1) := by decide +kernel
theorem dX0_takePreamble_50 : decode cX0_takePreamble 50 = .ok (.sipush 130, 3) := by decide +kernel
theorem dX0_takePreamble_53 : decode cX0_takePreamble 53 = .ok (.if_icmp .ne 34, 3) := by decide +kernel
theorem dX0_takePreamble_56 : decode cX0_takePreamble 56 = .ok (.aload_n 0, 1) := by decide +kernel
theorem dX0_takePreamble_57 : decode cX0_takePreamble 57 = .ok (.iload_n 1, 1) := by decide +kernel
theorem dX0_takePreamble_58 : decode cX0_takePreamble 58 = .ok (.sipush 130, 3) := by decide +kernel
theorem dX0_takePreamble_61 : decode cX0_takePreamble 61 = .ok (.if_icmp .ne 7, 3) := by decide +kernel
theorem dX0_takePreamble_64 : decode cX0_takePreamble 64 = .ok (.iconst 1, 1) := by decide +kernel
theorem dX0_takePreamble_65 : decode cX0_takePreamble 65 = .ok (.goto 4, 3) := by decide +kernel
theorem dX0_takePreamble_68 : decode cX0_takePreamble 68 = .ok (.iconst 0, 1) := by decide +kernel
theorem dX0_takePreamble_69 : decode cX0_takePreamble 69 = .ok (.putfield 57, 3) := by decide +kernel
theorem dX0_takePreamble_72 : decode cX0_takePreamble 72 = .ok (.aload_n 0, 1) := by decide +kernel
theorem dX0_takePreamble_73 : decode cX0_takePreamble 73 = .ok (.iload_n 1, 1) := by decide +kernel
theorem dX0_takePreamble_74 : decode cX0_takePreamble 74 = .ok (.putfield 25, 3) := by decide +kernel
theorem dX0_takePreamble_77 : decode cX0_takePreamble 77 = .ok (.aload_n 0, 1) := by decide +kernel
theorem dX0_takePreamble_78 : decode cX0_takePreamble 78 = .ok (.iconst 0, 1) := by decide +kernel
theorem dX0_takePreamble_79 : decode cX0_takePreamble 79 = .ok (.putfield 60, 3) := by decide +kernel
theorem dX0_takePreamble_82 : decode cX0_takePreamble 82 = .ok (.aload_n 0, 1) := by decide +kernel
theorem dX0_takePreamble_83 : decode cX0_takePreamble 83 = .ok (.iconst 1, 1) := by decide +kernel
theorem dX0_takePreamble_84 : decode cX0_takePreamble 84 = .ok (.putfield 18, 3) := by decide +kernel
theorem dX0_takePreamble_87 : decode cX0_takePreamble 87 = .ok (.return_, 1) := by decide +kernel
theorem dX0_takeAddress_0 : decode cX0_takeAddress 0 = .ok (.aload_n 0, 1) := by decide +kernel
theorem dX0_takeAddress_1 : decode cX0_takeAddress 1 = .ok (.getfield 60, 3) := by decide +kernel
theorem dX0_takeAddress_4 : decode cX0_takeAddress 4 = .ok (.ifCond .lt 25, 3) := by decide +kernel
theorem dX0_takeAddress_7 : decode cX0_takeAddress 7 = .ok (.aload_n 0, 1) := by decide +kernel
theorem dX0_takeAddress_8 : decode cX0_takeAddress 8 = .ok (.getfield 60, 3) := by decide +kernel
theorem dX0_takeAddress_11 : decode cX0_takeAddress 11 = .ok (.aload_n 0, 1) := by decide +kernel
theorem dX0_takeAddress_12 : decode cX0_takeAddress 12 = .ok (.getfield 11, 3) := by decide +kernel
theorem dX0_takeAddress_15 : decode cX0_takeAddress 15 = .ok (.arraylength, 1) := by decide +kernel
theorem dX0_takeAddress_16 : decode cX0_takeAddress 16 = .ok (.if_icmp .ge 13, 3) := by decide +kernel
theorem dX0_takeAddress_19 : decode cX0_takeAddress 19 = .ok (.aload_n 0, 1) := by decide +kernel
theorem dX0_takeAddress_20 : decode cX0_takeAddress 20 = .ok (.getfield 11, 3) := by decide +kernel
theorem dX0_takeAddress_23 : decode cX0_takeAddress 23 = .ok (.aload_n 0, 1) := by decide +kernel
theorem dX0_takeAddress_24 : decode cX0_takeAddress 24 = .ok (.getfield 60, 3) := by decide +kernel
theorem dX0_takeAddress_27 : decode cX0_takeAddress 27 = .ok (.iload_n 1, 1) := by decide +kernel
theorem dX0_takeAddress_28 : decode cX0_takeAddress 28 = .ok (.iastore, 1) := by decide +kernel
theorem dX0_takeAddress_29 : decode cX0_takeAddress 29 = .ok (.aload_n 0, 1) := by decide +kernel
theorem dX0_takeAddress_30 : decode cX0_takeAddress 30 = .ok (.dup, 1) := by decide +kernel
theorem dX0_takeAddress_31 : decode cX0_takeAddress 31 = .ok (.getfield 60, 3) := by decide +kernel
theorem dX0_takeAddress_34 : decode cX0_takeAddress 34 = .ok (.iconst 1, 1) := by decide +kernel
theorem dX0_takeAddress_35 : decode cX0_takeAddress 35 = .ok (.iadd, 1) := by decide +kernel
theorem dX0_takeAddress_36 : decode cX0_takeAddress 36 = .ok (.putfield 60, 3) := by decide +kernel
theorem dX0_takeAddress_39 : decode cX0_takeAddress 39 = .ok (.aload_n 0, 1) := by decide +kernel
theorem dX0_takeAddress_40 : decode cX0_takeAddress 40 = .ok (.getfield 60, 3) := by decide +kernel
theorem dX0_takeAddress_43 : decode cX0_takeAddress 43 = .ok (.aload_n 0, 1) := by decide +kernel
theorem dX0_takeAddress_44 : decode cX0_takeAddress 44 = .ok (.getfield 57, 3) := by decide +kernel
theorem dX0_takeAddress_47 : decode cX0_takeAddress 47 = .ok (.ifCond .eq 7, 3) := by decide +kernel
theorem dX0_takeAddress_50 : decode cX0_takeAddress 50 = .ok (.iconst 5, 1) := by decide +kernel
theorem dX0_takeAddress_51 : decode cX0_takeAddress 51 = .ok (.goto 4, 3) := by decide +kernel
theorem dX0_takeAddress_54 : decode cX0_takeAddress 54 = .ok (.iconst 1, 1) := by decide +kernel
theorem dX0_takeAddress_55 : decode cX0_takeAddress 55 = .ok (.if_icmp .lt 8, 3) := by decide +kernel
theorem dX0_takeAddress_58 : decode cX0_takeAddress 58 = .ok (.aload_n 0, 1) := by decide +kernel
theorem dX0_takeAddress_59 : decode cX0_takeAddress 59 = .ok (.iconst 2, 1) := by decide +kernel
theorem dX0_takeAddress_60 : decode cX0_takeAddress 60 = .ok (.putfield 18, 3) := by decide +kernel
theorem dX0_takeAddress_63 : decode cX0_takeAddress 63 = .ok (.return_, 1) := by decide +kernel
theorem dX0_takeCount_0 : decode cX0_takeCount 0 = .ok (.iload_n 1, 1) := by decide +kernel
theorem dX0_takeCount_1 : decode cX0_takeCount 1 = .ok (.bipush 20, 2) := by decide +kernel
theorem dX0_takeCount_3 : decode cX0_takeCount 3 = .ok (.if_icmp .le 8, 3) := by decide +kernel
theorem dX0_takeCount_6 : decode cX0_takeCount 6 = .ok (.aload_n 0, 1) := by decide +kernel
theorem dX0_takeCount_7 : decode cX0_takeCount 7 = .ok (.invokevirtual 32, 3) := by decide +kernel
theorem dX0_takeCount_10 : decode cX0_takeCount 10 = .ok (.return_, 1) := by decide +kernel
theorem dX0_takeCount_11 : decode cX0_takeCount 11 = .ok (.aload_n 0, 1) := by decide +kernel
theorem dX0_takeCount_12 : decode cX0_takeCount 12 = .ok (.iload_n 1, 1) := by decide +kernel
theorem dX0_takeCount_13 : decode cX0_takeCount 13 = .ok (.putfield 63, 3) := by decide +kernel
theorem dX0_takeCount_16 : decode cX0_takeCount 16 = .ok (.aload_n 0, 1) := by decide +kernel
theorem dX0_takeCount_17 : decode cX0_takeCount 17 = .ok (.iconst 0, 1) := by decide +kernel
theorem dX0_takeCount_18 : decode cX0_takeCount 18 = .ok (.putfield 60, 3) := by decide +kernel
theorem dX0_takeCount_21 : decode cX0_takeCount 21 = .ok (.aload_n 0, 1) := by decide +kernel
theorem dX0_takeCount_22 : decode cX0_takeCount 22 = .ok (.aload_n 0, 1) := by decide +kernel
theorem dX0_takeCount_23 : decode cX0_takeCount 23 = .ok (.getfield 63, 3) := by decide +kernel
theorem dX0_takeCount_26 : decode cX0_takeCount 26 = .ok (.ifCond .ne 7, 3) := by decide +kernel
theorem dX0_takeCount_29 : decode cX0_takeCount 29 = .ok (.iconst 5, 1) := by decide +kernel
theorem dX0_takeCount_30 : decode cX0_takeCount 30 = .ok (.goto 4, 3) := by decide +kernel
theorem dX0_takeCount_33 : decode cX0_takeCount 33 = .ok (.iconst 4, 1) := by decide +kernel
theorem dX0_takeCount_34 : decode cX0_takeCount 34 = .ok (.putfield 18, 3) := by decide +kernel
theorem dX0_takeCount_37 : decode cX0_takeCount 37 = .ok (.return_, 1) := by decide +kernel
theorem dX0_takeData_0 : decode cX0_takeData 0 = .ok (.aload_n 0, 1) := by decide +kernel
theorem dX0_takeData_1 : decode cX0_takeData 1 = .ok (.getfield 60, 3) := by decide +kernel
theorem dX0_takeData_4 : decode cX0_takeData 4 = .ok (.ifCond .lt 25, 3) := by decide +kernel
theorem dX0_takeData_7 : decode cX0_takeData 7 = .ok (.aload_n 0, 1) := by decide +kernel
theorem dX0_takeData_8 : decode cX0_takeData 8 = .ok (.getfield 60, 3) := by decide +kernel
theorem dX0_takeData_11 : decode cX0_takeData 11 = .ok (.aload_n 0, 1) := by decide +kernel
theorem dX0_takeData_12 : decode cX0_takeData 12 = .ok (.getfield 15, 3) := by decide +kernel
theorem dX0_takeData_15 : decode cX0_takeData 15 = .ok (.arraylength, 1) := by decide +kernel
theorem dX0_takeData_16 : decode cX0_takeData 16 = .ok (.if_icmp .ge 13, 3) := by decide +kernel
theorem dX0_takeData_19 : decode cX0_takeData 19 = .ok (.aload_n 0, 1) := by decide +kernel
theorem dX0_takeData_20 : decode cX0_takeData 20 = .ok (.getfield 15, 3) := by decide +kernel
theorem dX0_takeData_23 : decode cX0_takeData 23 = .ok (.aload_n 0, 1) := by decide +kernel
theorem dX0_takeData_24 : decode cX0_takeData 24 = .ok (.getfield 60, 3) := by decide +kernel
theorem dX0_takeData_27 : decode cX0_takeData 27 = .ok (.iload_n 1, 1) := by decide +kernel
theorem dX0_takeData_28 : decode cX0_takeData 28 = .ok (.iastore, 1) := by decide +kernel
theorem dX0_takeData_29 : decode cX0_takeData 29 = .ok (.aload_n 0, 1) := by decide +kernel
theorem dX0_takeData_30 : decode cX0_takeData 30 = .ok (.dup, 1) := by decide +kernel
theorem dX0_takeData_31 : decode cX0_takeData 31 = .ok (.getfield 60, 3) := by decide +kernel
theorem dX0_takeData_34 : decode cX0_takeData 34 = .ok (.iconst 1, 1) := by decide +kernel
theorem dX0_takeData_35 : decode cX0_takeData 35 = .ok (.iadd, 1) := by decide +kernel
theorem dX0_takeData_36 : decode cX0_takeData 36 = .ok (.putfield 60, 3) := by decide +kernel
theorem dX0_takeData_39 : decode cX0_takeData 39 = .ok (.aload_n 0, 1) := by decide +kernel
theorem dX0_takeData_40 : decode cX0_takeData 40 = .ok (.getfield 60, 3) := by decide +kernel
theorem dX0_takeData_43 : decode cX0_takeData 43 = .ok (.aload_n 0, 1) := by decide +kernel
theorem dX0_takeData_44 : decode cX0_takeData 44 = .ok (.getfield 63, 3) := by decide +kernel
theorem dX0_takeData_47 : decode cX0_takeData 47 = .ok (.if_icmp .lt 8, 3) := by decide +kernel
theorem dX0_takeData_50 : decode cX0_takeData 50 = .ok (.aload_n 0, 1) := by decide +kernel
theorem dX0_takeData_51 : decode cX0_takeData 51 = .ok (.iconst 5, 1) := by decide +kernel
theorem dX0_takeData_52 : decode cX0_takeData 52 = .ok (.putfield 18, 3) := by decide +kernel
theorem dX0_takeData_55 : decode cX0_takeData 55 = .ok (.return_, 1) := by decide +kernel
theorem dX0_master_0 : decode cX0_master 0 = .ok (.aload_n 0, 1) := by decide +kernel
theorem dX0_master_1 : decode cX0_master 1 = .ok (.iconst 0, 1) := by decide +kernel
theorem dX0_master_2 : decode cX0_master 2 = .ok (.invokevirtual 66, 3) := by decide +kernel
theorem dX0_master_5 : decode cX0_master 5 = .ok (.sipush 128, 3) := by decide +kernel
theorem dX0_master_8 : decode cX0_master 8 = .ok (.iand, 1) := by decide +kernel
theorem dX0_master_9 : decode cX0_master 9 = .ok (.ifCond .eq 7, 3) := by decide +kernel
theorem dX0_master_12 : decode cX0_master 12 = .ok (.iconst 0, 1) := by decide +kernel
theorem dX0_master_13 : decode cX0_master 13 = .ok (.goto 4, 3) := by decide +kernel
theorem dX0_master_16 : decode cX0_master 16 = .ok (.iconst 1, 1) := by decide +kernel
theorem dX0_master_17 : decode cX0_master 17 = .ok (.ireturn, 1) := by decide +kernel
theorem dX0_station_0 : decode cX0_station 0 = .ok (.aload_n 0, 1) := by decide +kernel
theorem dX0_station_1 : decode cX0_station 1 = .ok (.iconst 0, 1) := by decide +kernel
theorem dX0_station_2 : decode cX0_station 2 = .ok (.invokevirtual 66, 3) := by decide +kernel
theorem dX0_station_5 : decode cX0_station 5 = .ok (.bipush 63, 2) := by decide +kernel
theorem dX0_station_7 : decode cX0_station 7 = .ok (.iand, 1) := by decide +kernel
theorem dX0_station_8 : decode cX0_station 8 = .ok (.ireturn, 1) := by decide +kernel
theorem dX0_kind_0 : decode cX0_kind 0 = .ok (.aload_n 0, 1) := by decide +kernel
theorem dX0_kind_1 : decode cX0_kind 1 = .ok (.iconst 1, 1) := by decide +kernel
theorem dX0_kind_2 : decode cX0_kind 2 = .ok (.invokevirtual 66, 3) := by decide +kernel
theorem dX0_kind_5 : decode cX0_kind 5 = .ok (.ireturn, 1) := by decide +kernel
theorem dX0_number_0 : decode cX0_number 0 = .ok (.aload_n 0, 1) := by decide +kernel
theorem dX0_number_1 : decode cX0_number 1 = .ok (.iconst 2, 1) := by decide +kernel
theorem dX0_number_2 : decode cX0_number 2 = .ok (.invokevirtual 66, 3) := by decide +kernel
theorem dX0_number_5 : decode cX0_number 5 = .ok (.bipush 16, 2) := by decide +kernel
theorem dX0_number_7 : decode cX0_number 7 = .ok (.ishl, 1) := by decide +kernel
theorem dX0_number_8 : decode cX0_number 8 = .ok (.aload_n 0, 1) := by decide +kernel
theorem dX0_number_9 : decode cX0_number 9 = .ok (.iconst 3, 1) := by decide +kernel
theorem dX0_number_10 : decode cX0_number 10 = .ok (.invokevirtual 66, 3) := by decide +kernel
theorem dX0_number_13 : decode cX0_number 13 = .ok (.bipush 8, 2) := by decide +kernel
theorem dX0_number_15 : decode cX0_number 15 = .ok (.ishl, 1) := by decide +kernel
theorem dX0_number_16 : decode cX0_number 16 = .ok (.ior, 1) := by decide +kernel
theorem dX0_number_17 : decode cX0_number 17 = .ok (.aload_n 0, 1) := by decide +kernel
theorem dX0_number_18 : decode cX0_number 18 = .ok (.iconst 4, 1) := by decide +kernel
theorem dX0_number_19 : decode cX0_number 19 = .ok (.invokevirtual 66, 3) := by decide +kernel
theorem dX0_number_22 : decode cX0_number 22 = .ok (.ior, 1) := by decide +kernel
theorem dX0_number_23 : decode cX0_number 23 = .ok (.ireturn, 1) := by decide +kernel
theorem dX0_addressAt_0 : decode cX0_addressAt 0 = .ok (.iload_n 1, 1) := by decide +kernel
theorem dX0_addressAt_1 : decode cX0_addressAt 1 = .ok (.ifCond .lt 21, 3) := by decide +kernel
theorem dX0_addressAt_4 : decode cX0_addressAt 4 = .ok (.iload_n 1, 1) := by decide +kernel
theorem dX0_addressAt_5 : decode cX0_addressAt 5 = .ok (.aload_n 0, 1) := by decide +kernel
theorem dX0_addressAt_6 : decode cX0_addressAt 6 = .ok (.getfield 11, 3) := by decide +kernel
theorem dX0_addressAt_9 : decode cX0_addressAt 9 = .ok (.arraylength, 1) := by decide +kernel
theorem dX0_addressAt_10 : decode cX0_addressAt 10 = .ok (.if_icmp .ge 12, 3) := by decide +kernel
theorem dX0_addressAt_13 : decode cX0_addressAt 13 = .ok (.aload_n 0, 1) := by decide +kernel
theorem dX0_addressAt_14 : decode cX0_addressAt 14 = .ok (.getfield 11, 3) := by decide +kernel
theorem dX0_addressAt_17 : decode cX0_addressAt 17 = .ok (.iload_n 1, 1) := by decide +kernel
theorem dX0_addressAt_18 : decode cX0_addressAt 18 = .ok (.iaload, 1) := by decide +kernel
theorem dX0_addressAt_19 : decode cX0_addressAt 19 = .ok (.goto 4, 3) := by decide +kernel
theorem dX0_addressAt_22 : decode cX0_addressAt 22 = .ok (.iconst 0, 1) := by decide +kernel
theorem dX0_addressAt_23 : decode cX0_addressAt 23 = .ok (.ireturn, 1) := by decide +kernel
theorem dX0_dataAt_0 : decode cX0_dataAt 0 = .ok (.iload_n 1, 1) := by decide +kernel
theorem dX0_dataAt_1 : decode cX0_dataAt 1 = .ok (.ifCond .lt 29, 3) := by decide +kernel
theorem dX0_dataAt_4 : decode cX0_dataAt 4 = .ok (.iload_n 1, 1) := by decide +kernel
theorem dX0_dataAt_5 : decode cX0_dataAt 5 = .ok (.aload_n 0, 1) := by decide +kernel
theorem dX0_dataAt_6 : decode cX0_dataAt 6 = .ok (.getfield 63, 3) := by decide +kernel
theorem dX0_dataAt_9 : decode cX0_dataAt 9 = .ok (.if_icmp .ge 21, 3) := by decide +kernel
theorem dX0_dataAt_12 : decode cX0_dataAt 12 = .ok (.iload_n 1, 1) := by decide +kernel
theorem dX0_dataAt_13 : decode cX0_dataAt 13 = .ok (.aload_n 0, 1) := by decide +kernel
theorem dX0_dataAt_14 : decode cX0_dataAt 14 = .ok (.getfield 15, 3) := by decide +kernel
theorem dX0_dataAt_17 : decode cX0_dataAt 17 = .ok (.arraylength, 1) := by decide +kernel
theorem dX0_dataAt_18 : decode cX0_dataAt 18 = .ok (.if_icmp .ge 12, 3) := by decide +kernel
theorem dX0_dataAt_21 : decode cX0_dataAt 21 = .ok (.aload_n 0, 1) := by decide +kernel
theorem dX0_dataAt_22 : decode cX0_dataAt 22 = .ok (.getfield 15, 3) := by decide +kernel
theorem dX0_dataAt_25 : decode cX0_dataAt 25 = .ok (.iload_n 1, 1) := by decide +kernel
theorem dX0_dataAt_26 : decode cX0_dataAt 26 = .ok (.iaload, 1) := by decide +kernel
theorem dX0_dataAt_27 : decode cX0_dataAt 27 = .ok (.goto 4, 3) := by decide +kernel
theorem dX0_dataAt_30 : decode cX0_dataAt 30 = .ok (.iconst 0, 1) := by decide +kernel
theorem dX0_dataAt_31 : decode cX0_dataAt 31 = .ok (.ireturn, 1) := by decide +kernel
theorem dX0_fourAt_0 : decode cX0_fourAt 0 = .ok (.aload_n 0, 1) := by decide +kernel
theorem dX0_fourAt_1 : decode cX0_fourAt 1 = .ok (.iload_n 1, 1) := by decide +kernel
theorem dX0_fourAt_2 : decode cX0_fourAt 2 = .ok (.invokevirtual 70, 3) := by decide +kernel
theorem dX0_fourAt_5 : decode cX0_fourAt 5 = .ok (.bipush 24, 2) := by decide +kernel
theorem dX0_fourAt_7 : decode cX0_fourAt 7 = .ok (.ishl, 1) := by decide +kernel
theorem dX0_fourAt_8 : decode cX0_fourAt 8 = .ok (.aload_n 0, 1) := by decide +kernel
theorem dX0_fourAt_9 : decode cX0_fourAt 9 = .ok (.iload_n 1, 1) := by decide +kernel
theorem dX0_fourAt_10 : decode cX0_fourAt 10 = .ok (.iconst 1, 1) := by decide +kernel
theorem dX0_fourAt_11 : decode cX0_fourAt 11 = .ok (.iadd, 1) := by decide +kernel
theorem dX0_fourAt_12 : decode cX0_fourAt 12 = .ok (.invokevirtual 70, 3) := by decide +kernel
theorem dX0_fourAt_15 : decode cX0_fourAt 15 = .ok (.bipush 16, 2) := by decide +kernel
theorem dX0_fourAt_17 : decode cX0_fourAt 17 = .ok (.ishl, 1) := by decide +kernel
theorem dX0_fourAt_18 : decode cX0_fourAt 18 = .ok (.ior, 1) := by decide +kernel
theorem dX0_fourAt_19 : decode cX0_fourAt 19 = .ok (.aload_n 0, 1) := by decide +kernel
theorem dX0_fourAt_20 : decode cX0_fourAt 20 = .ok (.iload_n 1, 1) := by decide +kernel
theorem dX0_fourAt_21 : decode cX0_fourAt 21 = .ok (.iconst 2, 1) := by decide +kernel
theorem dX0_fourAt_22 : decode cX0_fourAt 22 = .ok (.iadd, 1) := by decide +kernel
theorem dX0_fourAt_23 : decode cX0_fourAt 23 = .ok (.invokevirtual 70, 3) := by decide +kernel
theorem dX0_fourAt_26 : decode cX0_fourAt 26 = .ok (.bipush 8, 2) := by decide +kernel
theorem dX0_fourAt_28 : decode cX0_fourAt 28 = .ok (.ishl, 1) := by decide +kernel
theorem dX0_fourAt_29 : decode cX0_fourAt 29 = .ok (.ior, 1) := by decide +kernel
theorem dX0_fourAt_30 : decode cX0_fourAt 30 = .ok (.aload_n 0, 1) := by decide +kernel
theorem dX0_fourAt_31 : decode cX0_fourAt 31 = .ok (.iload_n 1, 1) := by decide +kernel
theorem dX0_fourAt_32 : decode cX0_fourAt 32 = .ok (.iconst 3, 1) := by decide +kernel
theorem dX0_fourAt_33 : decode cX0_fourAt 33 = .ok (.iadd, 1) := by decide +kernel
theorem dX0_fourAt_34 : decode cX0_fourAt 34 = .ok (.invokevirtual 70, 3) := by decide +kernel
theorem dX0_fourAt_37 : decode cX0_fourAt 37 = .ok (.ior, 1) := by decide +kernel
theorem dX0_fourAt_38 : decode cX0_fourAt 38 = .ok (.ireturn, 1) := by decide +kernel
theorem dX1_init_0 : decode cX1_init 0 = .ok (.aload_n 0, 1) := by decide +kernel
theorem dX1_init_1 : decode cX1_init 1 = .ok (.invokespecial 3, 3) := by decide +kernel
theorem dX1_init_4 : decode cX1_init 4 = .ok (.aload_n 0, 1) := by decide +kernel
theorem dX1_init_5 : decode cX1_init 5 = .ok (.bipush 36, 2) := by decide +kernel
theorem dX1_init_7 : decode cX1_init 7 = .ok (.newarray .int, 2) := by decide +kernel
theorem dX1_init_9 : decode cX1_init 9 = .ok (.putfield 11, 3) := by decide +kernel
theorem dX1_init_12 : decode cX1_init 12 = .ok (.return_, 1) := by decide +kernel
theorem dX1_isBusy_0 : decode cX1_isBusy 0 = .ok (.aload_n 0, 1) := by decide +kernel
theorem dX1_isBusy_1 : decode cX1_isBusy 1 = .ok (.getfield 15, 3) := by decide +kernel
theorem dX1_isBusy_4 : decode cX1_isBusy 4 = .ok (.aload_n 0, 1) := by decide +kernel
theorem dX1_isBusy_5 : decode cX1_isBusy 5 = .ok (.getfield 19, 3) := by decide +kernel
theorem dX1_isBusy_8 : decode cX1_isBusy 8 = .ok (.if_icmp .ge 7, 3) := by decide +kernel
theorem dX1_isBusy_11 : decode cX1_isBusy 11 = .ok (.iconst 1, 1) := by decide +kernel
theorem dX1_isBusy_12 : decode cX1_isBusy 12 = .ok (.goto 4, 3) := by decide +kernel
theorem dX1_isBusy_15 : decode cX1_isBusy 15 = .ok (.iconst 0, 1) := by decide +kernel
theorem dX1_isBusy_16 : decode cX1_isBusy 16 = .ok (.ireturn, 1) := by decide +kernel
theorem dX1_begin_0 : decode cX1_begin 0 = .ok (.aload_n 0, 1) := by decide +kernel
theorem dX1_begin_1 : decode cX1_begin 1 = .ok (.iconst 0, 1) := by decide +kernel
theorem dX1_begin_2 : decode cX1_begin 2 = .ok (.putfield 19, 3) := by decide +kernel
theorem dX1_begin_5 : decode cX1_begin 5 = .ok (.aload_n 0, 1) := by decide +kernel
theorem dX1_begin_6 : decode cX1_begin 6 = .ok (.iconst 0, 1) := by decide +kernel
theorem dX1_begin_7 : decode cX1_begin 7 = .ok (.putfield 15, 3) := by decide +kernel
theorem dX1_begin_10 : decode cX1_begin 10 = .ok (.aload_n 0, 1) := by decide +kernel
theorem dX1_begin_11 : decode cX1_begin 11 = .ok (.iconst 0, 1) := by decide +kernel
theorem dX1_begin_12 : decode cX1_begin 12 = .ok (.putfield 22, 3) := by decide +kernel
theorem dX1_begin_15 : decode cX1_begin 15 = .ok (.iconst 0, 1) := by decide +kernel
theorem dX1_begin_16 : decode cX1_begin 16 = .ok (.istore_n 2, 1) := by decide +kernel
theorem dX1_begin_17 : decode cX1_begin 17 = .ok (.iload_n 2, 1) := by decide +kernel
theorem dX1_begin_18 : decode cX1_begin 18 = .ok (.iconst 5, 1) := by decide +kernel
theorem dX1_begin_19 : decode cX1_begin 19 = .ok (.if_icmp .ge 16, 3) := by decide +kernel
theorem dX1_begin_22 : decode cX1_begin 22 = .ok (.aload_n 0, 1) := by decide +kernel
theorem dX1_begin_23 : decode cX1_begin 23 = .ok (.sipush 255, 3) := by decide +kernel
theorem dX1_begin_26 : decode cX1_begin 26 = .ok (.invokevirtual 26, 3) := by decide +kernel
theorem dX1_begin_29 : decode cX1_begin 29 = .ok (.iinc 2 1, 3) := by decide +kernel
theorem dX1_begin_32 : decode cX1_begin 32 = .ok (.goto (-15), 3) := by decide +kernel
theorem dX1_begin_35 : decode cX1_begin 35 = .ok (.aload_n 0, 1) := by decide +kernel
theorem dX1_begin_36 : decode cX1_begin 36 = .ok (.iload_n 1, 1) := by decide +kernel
theorem dX1_begin_37 : decode cX1_begin 37 = .ok (.invokevirtual 26, 3) := by decide +kernel
theorem dX1_begin_40 : decode cX1_begin 40 = .ok (.return_, 1) := by decide +kernel
theorem dX1_add_0 : decode cX1_add 0 = .ok (.aload_n 0, 1) := by decide +kernel
theorem dX1_add_1 : decode cX1_add 1 = .ok (.getfield 19, 3) := by decide +kernel
theorem dX1_add_4 : decode cX1_add 4 = .ok (.ifCond .lt 39, 3) := by decide +kernel
theorem dX1_add_7 : decode cX1_add 7 = .ok (.aload_n 0, 1) := by decide +kernel
theorem dX1_add_8 : decode cX1_add 8 = .ok (.getfield 19, 3) := by decide +kernel
theorem dX1_add_11 : decode cX1_add 11 = .ok (.aload_n 0, 1) := by decide +kernel
theorem dX1_add_12 : decode cX1_add 12 = .ok (.getfield 11, 3) := by decide +kernel
theorem dX1_add_15 : decode cX1_add 15 = .ok (.arraylength, 1) := by decide +kernel
theorem dX1_add_16 : decode cX1_add 16 = .ok (.if_icmp .ge 27, 3) := by decide +kernel
theorem dX1_add_19 : decode cX1_add 19 = .ok (.aload_n 0, 1) := by decide +kernel
theorem dX1_add_20 : decode cX1_add 20 = .ok (.getfield 11, 3) := by decide +kernel
theorem dX1_add_23 : decode cX1_add 23 = .ok (.aload_n 0, 1) := by decide +kernel
theorem dX1_add_24 : decode cX1_add 24 = .ok (.getfield 19, 3) := by decide +kernel
theorem dX1_add_27 : decode cX1_add 27 = .ok (.iload_n 1, 1) := by decide +kernel
theorem dX1_add_28 : decode cX1_add 28 = .ok (.sipush 255, 3) := by decide +kernel
theorem dX1_add_31 : decode cX1_add 31 = .ok (.iand, 1) := by decide +kernel
theorem dX1_add_32 : decode cX1_add 32 = .ok (.iastore, 1) := by decide +kernel
theorem dX1_add_33 : decode cX1_add 33 = .ok (.aload_n 0, 1) := by decide +kernel
theorem dX1_add_34 : decode cX1_add 34 = .ok (.dup, 1) := by decide +kernel
theorem dX1_add_35 : decode cX1_add 35 = .ok (.getfield 19, 3) := by decide +kernel
theorem dX1_add_38 : decode cX1_add 38 = .ok (.iconst 1, 1) := by decide +kernel
theorem dX1_add_39 : decode cX1_add 39 = .ok (.iadd, 1) := by decide +kernel
theorem dX1_add_40 : decode cX1_add 40 = .ok (.putfield 19, 3) := by decide +kernel
theorem dX1_add_43 : decode cX1_add 43 = .ok (.return_, 1) := by decide +kernel
theorem dX1_addFour_0 : decode cX1_addFour 0 = .ok (.aload_n 0, 1) := by decide +kernel
theorem dX1_addFour_1 : decode cX1_addFour 1 = .ok (.iload_n 1, 1) := by decide +kernel
theorem dX1_addFour_2 : decode cX1_addFour 2 = .ok (.bipush 24, 2) := by decide +kernel
theorem dX1_addFour_4 : decode cX1_addFour 4 = .ok (.iushr, 1) := by decide +kernel
theorem dX1_addFour_5 : decode cX1_addFour 5 = .ok (.invokevirtual 26, 3) := by decide +kernel
theorem dX1_addFour_8 : decode cX1_addFour 8 = .ok (.aload_n 0, 1) := by decide +kernel
theorem dX1_addFour_9 : decode cX1_addFour 9 = .ok (.iload_n 1, 1) := by decide +kernel
theorem dX1_addFour_10 : decode cX1_addFour 10 = .ok (.bipush 16, 2) := by decide +kernel
theorem dX1_addFour_12 : decode cX1_addFour 12 = .ok (.iushr, 1) := by decide +kernel
theorem dX1_addFour_13 : decode cX1_addFour 13 = .ok (.invokevirtual 26, 3) := by decide +kernel
theorem dX1_addFour_16 : decode cX1_addFour 16 = .ok (.aload_n 0, 1) := by decide +kernel
theorem dX1_addFour_17 : decode cX1_addFour 17 = .ok (.iload_n 1, 1) := by decide +kernel
theorem dX1_addFour_18 : decode cX1_addFour 18 = .ok (.bipush 8, 2) := by decide +kernel
theorem dX1_addFour_20 : decode cX1_addFour 20 = .ok (.iushr, 1) := by decide +kernel
theorem dX1_addFour_21 : decode cX1_addFour 21 = .ok (.invokevirtual 26, 3) := by decide +kernel
theorem dX1_addFour_24 : decode cX1_addFour 24 = .ok (.aload_n 0, 1) := by decide +kernel
theorem dX1_addFour_25 : decode cX1_addFour 25 = .ok (.iload_n 1, 1) := by decide +kernel
theorem dX1_addFour_26 : decode cX1_addFour 26 = .ok (.invokevirtual 26, 3) := by decide +kernel
theorem dX1_addFour_29 : decode cX1_addFour 29 = .ok (.return_, 1) := by decide +kernel
theorem dX1_beginCount_0 : decode cX1_beginCount 0 = .ok (.aload_n 0, 1) := by decide +kernel
theorem dX1_beginCount_1 : decode cX1_beginCount 1 = .ok (.aload_n 0, 1) := by decide +kernel
theorem dX1_beginCount_2 : decode cX1_beginCount 2 = .ok (.getfield 19, 3) := by decide +kernel
theorem dX1_beginCount_5 : decode cX1_beginCount 5 = .ok (.putfield 30, 3) := by decide +kernel
theorem dX1_beginCount_8 : decode cX1_beginCount 8 = .ok (.aload_n 0, 1) := by decide +kernel
theorem dX1_beginCount_9 : decode cX1_beginCount 9 = .ok (.iconst 0, 1) := by decide +kernel
theorem dX1_beginCount_10 : decode cX1_beginCount 10 = .ok (.invokevirtual 26, 3) := by decide +kernel
theorem dX1_beginCount_13 : decode cX1_beginCount 13 = .ok (.return_, 1) := by decide +kernel
theorem dX1_end_0 : decode cX1_end 0 = .ok (.aload_n 0, 1) := by decide +kernel
theorem dX1_end_1 : decode cX1_end 1 = .ok (.getfield 30, 3) := by decide +kernel
theorem dX1_end_4 : decode cX1_end 4 = .ok (.ifCond .lt 35, 3) := by decide +kernel
theorem dX1_end_7 : decode cX1_end 7 = .ok (.aload_n 0, 1) := by decide +kernel
theorem dX1_end_8 : decode cX1_end 8 = .ok (.getfield 30, 3) := by decide +kernel
theorem dX1_end_11 : decode cX1_end 11 = .ok (.aload_n 0, 1) := by decide +kernel
theorem dX1_end_12 : decode cX1_end 12 = .ok (.getfield 11, 3) := by decide +kernel
theorem dX1_end_15 : decode cX1_end 15 = .ok (.arraylength, 1) := by decide +kernel
theorem dX1_end_16 : decode cX1_end 16 = .ok (.if_icmp .ge 23, 3) := by decide +kernel
theorem dX1_end_19 : decode cX1_end 19 = .ok (.aload_n 0, 1) := by decide +kernel
theorem dX1_end_20 : decode cX1_end 20 = .ok (.getfield 11, 3) := by decide +kernel
theorem dX1_end_23 : decode cX1_end 23 = .ok (.aload_n 0, 1) := by decide +kernel
theorem dX1_end_24 : decode cX1_end 24 = .ok (.getfield 30, 3) := by decide +kernel
theorem dX1_end_27 : decode cX1_end 27 = .ok (.aload_n 0, 1) := by decide +kernel
theorem dX1_end_28 : decode cX1_end 28 = .ok (.getfield 19, 3) := by decide +kernel
theorem dX1_end_31 : decode cX1_end 31 = .ok (.aload_n 0, 1) := by decide +kernel
theorem dX1_end_32 : decode cX1_end 32 = .ok (.getfield 30, 3) := by decide +kernel
theorem dX1_end_35 : decode cX1_end 35 = .ok (.isub, 1) := by decide +kernel
theorem dX1_end_36 : decode cX1_end 36 = .ok (.iconst 1, 1) := by decide +kernel
theorem dX1_end_37 : decode cX1_end 37 = .ok (.isub, 1) := by decide +kernel
theorem dX1_end_38 : decode cX1_end 38 = .ok (.iastore, 1) := by decide +kernel
theorem dX1_end_39 : decode cX1_end 39 = .ok (.iconst 0, 1) := by decide +kernel
theorem dX1_end_40 : decode cX1_end 40 = .ok (.istore_n 1, 1) := by decide +kernel
theorem dX1_end_41 : decode cX1_end 41 = .ok (.iconst 5, 1) := by decide +kernel
theorem dX1_end_42 : decode cX1_end 42 = .ok (.istore_n 2, 1) := by decide +kernel
theorem dX1_end_43 : decode cX1_end 43 = .ok (.iload_n 2, 1) := by decide +kernel
theorem dX1_end_44 : decode cX1_end 44 = .ok (.aload_n 0, 1) := by decide +kernel
theorem dX1_end_45 : decode cX1_end 45 = .ok (.getfield 19, 3) := by decide +kernel
theorem dX1_end_48 : decode cX1_end 48 = .ok (.if_icmp .ge 27, 3) := by decide +kernel
theorem dX1_end_51 : decode cX1_end 51 = .ok (.iload_n 2, 1) := by decide +kernel
theorem dX1_end_52 : decode cX1_end 52 = .ok (.aload_n 0, 1) := by decide +kernel
theorem dX1_end_53 : decode cX1_end 53 = .ok (.getfield 11, 3) := by decide +kernel
theorem dX1_end_56 : decode cX1_end 56 = .ok (.arraylength, 1) := by decide +kernel
theorem dX1_end_57 : decode cX1_end 57 = .ok (.if_icmp .ge 18, 3) := by decide +kernel
theorem dX1_end_60 : decode cX1_end 60 = .ok (.iload_n 1, 1) := by decide +kernel
theorem dX1_end_61 : decode cX1_end 61 = .ok (.aload_n 0, 1) := by decide +kernel
theorem dX1_end_62 : decode cX1_end 62 = .ok (.getfield 11, 3) := by decide +kernel
theorem dX1_end_65 : decode cX1_end 65 = .ok (.iload_n 2, 1) := by decide +kernel
theorem dX1_end_66 : decode cX1_end 66 = .ok (.iaload, 1) := by decide +kernel
theorem dX1_end_67 : decode cX1_end 67 = .ok (.ixor, 1) := by decide +kernel
theorem dX1_end_68 : decode cX1_end 68 = .ok (.istore_n 1, 1) := by decide +kernel
theorem dX1_end_69 : decode cX1_end 69 = .ok (.iinc 2 1, 3) := by decide +kernel
theorem dX1_end_72 : decode cX1_end 72 = .ok (.goto (-29), 3) := by decide +kernel
theorem dX1_end_75 : decode cX1_end 75 = .ok (.aload_n 0, 1) := by decide +kernel
theorem dX1_end_76 : decode cX1_end 76 = .ok (.iload_n 1, 1) := by decide +kernel
theorem dX1_end_77 : decode cX1_end 77 = .ok (.invokevirtual 26, 3) := by decide +kernel
theorem dX1_end_80 : decode cX1_end 80 = .ok (.return_, 1) := by decide +kernel
theorem dX1_waitOneTick_0 : decode cX1_waitOneTick 0 = .ok (.aload_n 0, 1) := by decide +kernel
theorem dX1_waitOneTick_1 : decode cX1_waitOneTick 1 = .ok (.iconst 1, 1) := by decide +kernel
theorem dX1_waitOneTick_2 : decode cX1_waitOneTick 2 = .ok (.putfield 22, 3) := by decide +kernel
theorem dX1_waitOneTick_5 : decode cX1_waitOneTick 5 = .ok (.return_, 1) := by decide +kernel
theorem dX1_takeNext_0 : decode cX1_takeNext 0 = .ok (.aload_n 0, 1) := by decide +kernel
theorem dX1_takeNext_1 : decode cX1_takeNext 1 = .ok (.getfield 22, 3) := by decide +kernel
theorem dX1_takeNext_4 : decode cX1_takeNext 4 = .ok (.ifCond .eq 10, 3) := by decide +kernel
theorem dX1_takeNext_7 : decode cX1_takeNext 7 = .ok (.aload_n 0, 1) := by decide +kernel
theorem dX1_takeNext_8 : decode cX1_takeNext 8 = .ok (.iconst 0, 1) := by decide +kernel
theorem dX1_takeNext_9 : decode cX1_takeNext 9 = .ok (.putfield 22, 3) := by decide +kernel
theorem dX1_takeNext_12 : decode cX1_takeNext 12 = .ok (.iconst (-1), 1) := by decide +kernel
theorem dX1_takeNext_13 : decode cX1_takeNext 13 = .ok (.ireturn, 1) := by decide +kernel
theorem dX1_takeNext_14 : decode cX1_takeNext 14 = .ok (.aload_n 0, 1) := by decide +kernel
theorem dX1_takeNext_15 : decode cX1_takeNext 15 = .ok (.getfield 15, 3) := by decide +kernel
theorem dX1_takeNext_18 : decode cX1_takeNext 18 = .ok (.ifCond .lt 26, 3) := by decide +kernel
theorem dX1_takeNext_21 : decode cX1_takeNext 21 = .ok (.aload_n 0, 1) := by decide +kernel
theorem dX1_takeNext_22 : decode cX1_takeNext 22 = .ok (.getfield 15, 3) := by decide +kernel
theorem dX1_takeNext_25 : decode cX1_takeNext 25 = .ok (.aload_n 0, 1) := by decide +kernel
theorem dX1_takeNext_26 : decode cX1_takeNext 26 = .ok (.getfield 19, 3) := by decide +kernel
theorem dX1_takeNext_29 : decode cX1_takeNext 29 = .ok (.if_icmp .ge 15, 3) := by decide +kernel
theorem dX1_takeNext_32 : decode cX1_takeNext 32 = .ok (.aload_n 0, 1) := by decide +kernel
theorem dX1_takeNext_33 : decode cX1_takeNext 33 = .ok (.getfield 15, 3) := by decide +kernel
theorem dX1_takeNext_36 : decode cX1_takeNext 36 = .ok (.aload_n 0, 1) := by decide +kernel
theorem dX1_takeNext_37 : decode cX1_takeNext 37 = .ok (.getfield 11, 3) := by decide +kernel
theorem dX1_takeNext_40 : decode cX1_takeNext 40 = .ok (.arraylength, 1) := by decide +kernel
theorem dX1_takeNext_41 : decode cX1_takeNext 41 = .ok (.if_icmp .lt 5, 3) := by decide +kernel
theorem dX1_takeNext_44 : decode cX1_takeNext 44 = .ok (.iconst (-1), 1) := by decide +kernel
theorem dX1_takeNext_45 : decode cX1_takeNext 45 = .ok (.ireturn, 1) := by decide +kernel
theorem dX1_takeNext_46 : decode cX1_takeNext 46 = .ok (.aload_n 0, 1) := by decide +kernel
theorem dX1_takeNext_47 : decode cX1_takeNext 47 = .ok (.getfield 11, 3) := by decide +kernel
theorem dX1_takeNext_50 : decode cX1_takeNext 50 = .ok (.aload_n 0, 1) := by decide +kernel
theorem dX1_takeNext_51 : decode cX1_takeNext 51 = .ok (.getfield 15, 3) := by decide +kernel
theorem dX1_takeNext_54 : decode cX1_takeNext 54 = .ok (.iaload, 1) := by decide +kernel
theorem dX1_takeNext_55 : decode cX1_takeNext 55 = .ok (.istore_n 1, 1) := by decide +kernel
theorem dX1_takeNext_56 : decode cX1_takeNext 56 = .ok (.aload_n 0, 1) := by decide +kernel
theorem dX1_takeNext_57 : decode cX1_takeNext 57 = .ok (.dup, 1) := by decide +kernel
theorem dX1_takeNext_58 : decode cX1_takeNext 58 = .ok (.getfield 15, 3) := by decide +kernel
theorem dX1_takeNext_61 : decode cX1_takeNext 61 = .ok (.iconst 1, 1) := by decide +kernel
theorem dX1_takeNext_62 : decode cX1_takeNext 62 = .ok (.iadd, 1) := by decide +kernel
theorem dX1_takeNext_63 : decode cX1_takeNext 63 = .ok (.putfield 15, 3) := by decide +kernel
theorem dX1_takeNext_66 : decode cX1_takeNext 66 = .ok (.iload_n 1, 1) := by decide +kernel
theorem dX1_takeNext_67 : decode cX1_takeNext 67 = .ok (.ireturn, 1) := by decide +kernel
theorem dX2_init_0 : decode cX2_init 0 = .ok (.aload_n 0, 1) := by decide +kernel
theorem dX2_init_1 : decode cX2_init 1 = .ok (.invokespecial 3, 3) := by decide +kernel
theorem dX2_init_4 : decode cX2_init 4 = .ok (.aload_n 0, 1) := by decide +kernel
theorem dX2_init_5 : decode cX2_init 5 = .ok (.iload_n 1, 1) := by decide +kernel
theorem dX2_init_6 : decode cX2_init 6 = .ok (.putfield 9, 3) := by decide +kernel
theorem dX2_init_9 : decode cX2_init 9 = .ok (.aload_n 0, 1) := by decide +kernel
theorem dX2_init_10 : decode cX2_init 10 = .ok (.iload_n 2, 1) := by decide +kernel
theorem dX2_init_11 : decode cX2_init 11 = .ok (.putfield 15, 3) := by decide +kernel
theorem dX2_init_14 : decode cX2_init 14 = .ok (.aload_n 0, 1) := by decide +kernel
theorem dX2_init_15 : decode cX2_init 15 = .ok (.iload_n 3, 1) := by decide +kernel
theorem dX2_init_16 : decode cX2_init 16 = .ok (.putfield 18, 3) := by decide +kernel
theorem dX2_init_19 : decode cX2_init 19 = .ok (.aload_n 0, 1) := by decide +kernel
theorem dX2_init_20 : decode cX2_init 20 = .ok (.sipush 10000, 3) := by decide +kernel
theorem dX2_init_23 : decode cX2_init 23 = .ok (.putfield 21, 3) := by decide +kernel
theorem dX2_init_26 : decode cX2_init 26 = .ok (.aload_n 0, 1) := by decide +kernel
theorem dX2_init_27 : decode cX2_init 27 = .ok (.iconst 3, 1) := by decide +kernel
theorem dX2_init_28 : decode cX2_init 28 = .ok (.putfield 24, 3) := by decide +kernel
theorem dX2_init_31 : decode cX2_init 31 = .ok (.aload_n 0, 1) := by decide +kernel
theorem dX2_init_32 : decode cX2_init 32 = .ok (.iconst 3, 1) := by decide +kernel
theorem dX2_init_33 : decode cX2_init 33 = .ok (.putfield 27, 3) := by decide +kernel
theorem dX2_init_36 : decode cX2_init 36 = .ok (.aload_n 0, 1) := by decide +kernel
theorem dX2_init_37 : decode cX2_init 37 = .ok (.iconst 1, 1) := by decide +kernel
theorem dX2_init_38 : decode cX2_init 38 = .ok (.putfield 30, 3) := by decide +kernel
theorem dX2_init_41 : decode cX2_init 41 = .ok (.aload_n 0, 1) := by decide +kernel
theorem dX2_init_42 : decode cX2_init 42 = .ok (.bipush 6, 2) := by decide +kernel
theorem dX2_init_44 : decode cX2_init 44 = .ok (.newarray .int, 2) := by decide +kernel
theorem dX2_init_46 : decode cX2_init 46 = .ok (.putfield 33, 3) := by decide +kernel
theorem dX2_init_49 : decode cX2_init 49 = .ok (.iconst 0, 1) := by decide +kernel
theorem dX2_init_50 : decode cX2_init 50 = .ok (.istore 4, 2) := by decide +kernel
theorem dX2_init_52 : decode cX2_init 52 = .ok (.iload 4, 2) := by decide +kernel
theorem dX2_init_54 : decode cX2_init 54 = .ok (.bipush 6, 2) := by decide +kernel
theorem dX2_init_56 : decode cX2_init 56 = .ok (.if_icmp .ge 18, 3) := by decide +kernel
theorem dX2_init_59 : decode cX2_init 59 = .ok (.aload_n 0, 1) := by decide +kernel
theorem dX2_init_60 : decode cX2_init 60 = .ok (.getfield 33, 3) := by decide +kernel
theorem dX2_init_63 : decode cX2_init 63 = .ok (.iload 4, 2) := by decide +kernel
theorem dX2_init_65 : decode cX2_init 65 = .ok (.bipush 32, 2) := by decide +kernel
theorem dX2_init_67 : decode cX2_init 67 = .ok (.iastore, 1) := by decide +kernel
theorem dX2_init_68 : decode cX2_init 68 = .ok (.iinc 4 1, 3) := by decide +kernel
theorem dX2_init_71 : decode cX2_init 71 = .ok (.goto (-19), 3) := by decide +kernel
theorem dX2_init_74 : decode cX2_init 74 = .ok (.aload_n 0, 1) := by decide +kernel
theorem dX2_init_75 : decode cX2_init 75 = .ok (.iconst 4, 1) := by decide +kernel
theorem dX2_init_76 : decode cX2_init 76 = .ok (.newarray .int, 2) := by decide +kernel
theorem dX2_init_78 : decode cX2_init 78 = .ok (.putfield 37, 3) := by decide +kernel
theorem dX2_init_81 : decode cX2_init 81 = .ok (.return_, 1) := by decide +kernel
theorem dX2_hasLongAddress_0 : decode cX2_hasLongAddress 0 = .ok (.iload_n 1, 1) := by decide +kernel
theorem dX2_hasLongAddress_1 : decode cX2_hasLongAddress 1 = .ok (.aload_n 0, 1) := by decide +kernel
theorem dX2_hasLongAddress_2 : decode cX2_hasLongAddress 2 = .ok (.getfield 9, 3) := by decide +kernel
theorem dX2_hasLongAddress_5 : decode cX2_hasLongAddress 5 = .ok (.if_icmp .ne 23, 3) := by decide +kernel
theorem dX2_hasLongAddress_8 : decode cX2_hasLongAddress 8 = .ok (.iload_n 2, 1) := by decide +kernel
theorem dX2_hasLongAddress_9 : decode cX2_hasLongAddress 9 = .ok (.aload_n 0, 1) := by decide +kernel
theorem dX2_hasLongAddress_10 : decode cX2_hasLongAddress 10 = .ok (.getfield 15, 3) := by decide +kernel
theorem dX2_hasLongAddress_13 : decode cX2_hasLongAddress 13 = .ok (.if_icmp .ne 15, 3) := by decide +kernel
theorem dX2_hasLongAddress_16 : decode cX2_hasLongAddress 16 = .ok (.iload_n 3, 1) := by decide +kernel
theorem dX2_hasLongAddress_17 : decode cX2_hasLongAddress 17 = .ok (.aload_n 0, 1) := by decide +kernel
theorem dX2_hasLongAddress_18 : decode cX2_hasLongAddress 18 = .ok (.getfield 18, 3) := by decide +kernel
theorem dX2_hasLongAddress_21 : decode cX2_hasLongAddress 21 = .ok (.if_icmp .ne 7, 3) := by decide +kernel
theorem dX2_hasLongAddress_24 : decode cX2_hasLongAddress 24 = .ok (.iconst 1, 1) := by decide +kernel
theorem dX2_hasLongAddress_25 : decode cX2_hasLongAddress 25 = .ok (.goto 4, 3) := by decide +kernel
theorem dX2_hasLongAddress_28 : decode cX2_hasLongAddress 28 = .ok (.iconst 0, 1) := by decide +kernel
theorem dX2_hasLongAddress_29 : decode cX2_hasLongAddress 29 = .ok (.ireturn, 1) := by decide +kernel
theorem dX2_tagByte_0 : decode cX2_tagByte 0 = .ok (.iload_n 1, 1) := by decide +kernel
theorem dX2_tagByte_1 : decode cX2_tagByte 1 = .ok (.ifCond .lt 21, 3) := by decide +kernel
theorem dX2_tagByte_4 : decode cX2_tagByte 4 = .ok (.iload_n 1, 1) := by decide +kernel
theorem dX2_tagByte_5 : decode cX2_tagByte 5 = .ok (.aload_n 0, 1) := by decide +kernel
theorem dX2_tagByte_6 : decode cX2_tagByte 6 = .ok (.getfield 33, 3) := by decide +kernel
theorem dX2_tagByte_9 : decode cX2_tagByte 9 = .ok (.arraylength, 1) := by decide +kernel
theorem dX2_tagByte_10 : decode cX2_tagByte 10 = .ok (.if_icmp .ge 12, 3) := by decide +kernel
theorem dX2_tagByte_13 : decode cX2_tagByte 13 = .ok (.aload_n 0, 1) := by decide +kernel
theorem dX2_tagByte_14 : decode cX2_tagByte 14 = .ok (.getfield 33, 3) := by decide +kernel
theorem dX2_tagByte_17 : decode cX2_tagByte 17 = .ok (.iload_n 1, 1) := by decide +kernel
theorem dX2_tagByte_18 : decode cX2_tagByte 18 = .ok (.iaload, 1) := by decide +kernel
theorem dX2_tagByte_19 : decode cX2_tagByte 19 = .ok (.goto 4, 3) := by decide +kernel
theorem dX2_tagByte_22 : decode cX2_tagByte 22 = .ok (.iconst (-1), 1) := by decide +kernel
theorem dX2_tagByte_23 : decode cX2_tagByte 23 = .ok (.ireturn, 1) := by decide +kernel
theorem dX2_setTagByte_0 : decode cX2_setTagByte 0 = .ok (.iload_n 1, 1) := by decide +kernel
theorem dX2_setTagByte_1 : decode cX2_setTagByte 1 = .ok (.ifCond .lt 19, 3) := by decide +kernel
theorem dX2_setTagByte_4 : decode cX2_setTagByte 4 = .ok (.iload_n 1, 1) := by decide +kernel
theorem dX2_setTagByte_5 : decode cX2_setTagByte 5 = .ok (.aload_n 0, 1) := by decide +kernel
theorem dX2_setTagByte_6 : decode cX2_setTagByte 6 = .ok (.getfield 33, 3) := by decide +kernel
theorem dX2_setTagByte_9 : decode cX2_setTagByte 9 = .ok (.arraylength, 1) := by decide +kernel
theorem dX2_setTagByte_10 : decode cX2_setTagByte 10 = .ok (.if_icmp .ge 10, 3) := by decide +kernel
theorem dX2_setTagByte_13 : decode cX2_setTagByte 13 = .ok (.aload_n 0, 1) := by decide +kernel
theorem dX2_setTagByte_14 : decode cX2_setTagByte 14 = .ok (.getfield 33, 3) := by decide +kernel
theorem dX2_setTagByte_17 : decode cX2_setTagByte 17 = .ok (.iload_n 1, 1) := by decide +kernel
theorem dX2_setTagByte_18 : decode cX2_setTagByte 18 = .ok (.iload_n 2, 1) := by decide +kernel
theorem dX2_setTagByte_19 : decode cX2_setTagByte 19 = .ok (.iastore, 1) := by decide +kernel
theorem dX2_setTagByte_20 : decode cX2_setTagByte 20 = .ok (.return_, 1) := by decide +kernel
theorem dX2_variableAt_0 : decode cX2_variableAt 0 = .ok (.iload_n 1, 1) := by decide +kernel
theorem dX2_variableAt_1 : decode cX2_variableAt 1 = .ok (.ifCond .lt 21, 3) := by decide +kernel
theorem dX2_variableAt_4 : decode cX2_variableAt 4 = .ok (.iload_n 1, 1) := by decide +kernel
theorem dX2_variableAt_5 : decode cX2_variableAt 5 = .ok (.aload_n 0, 1) := by decide +kernel
theorem dX2_variableAt_6 : decode cX2_variableAt 6 = .ok (.getfield 37, 3) := by decide +kernel
theorem dX2_variableAt_9 : decode cX2_variableAt 9 = .ok (.arraylength, 1) := by decide +kernel
theorem dX2_variableAt_10 : decode cX2_variableAt 10 = .ok (.if_icmp .ge 12, 3) := by decide +kernel
theorem dX2_variableAt_13 : decode cX2_variableAt 13 = .ok (.aload_n 0, 1) := by decide +kernel
theorem dX2_variableAt_14 : decode cX2_variableAt 14 = .ok (.getfield 37, 3) := by decide +kernel
theorem dX2_variableAt_17 : decode cX2_variableAt 17 = .ok (.iload_n 1, 1) := by decide +kernel
theorem dX2_variableAt_18 : decode cX2_variableAt 18 = .ok (.iaload, 1) := by decide +kernel
theorem dX2_variableAt_19 : decode cX2_variableAt 19 = .ok (.goto 4, 3) := by decide +kernel
theorem dX2_variableAt_22 : decode cX2_variableAt 22 = .ok (.iconst 0, 1) := by decide +kernel
theorem dX2_variableAt_23 : decode cX2_variableAt 23 = .ok (.ireturn, 1) := by decide +kernel
theorem dX2_setVariable_0 : decode cX2_setVariable 0 = .ok (.iload_n 1, 1) := by decide +kernel
theorem dX2_setVariable_1 : decode cX2_setVariable 1 = .ok (.ifCond .lt 19, 3) := by decide +kernel
theorem dX2_setVariable_4 : decode cX2_setVariable 4 = .ok (.iload_n 1, 1) := by decide +kernel
theorem dX2_setVariable_5 : decode cX2_setVariable 5 = .ok (.aload_n 0, 1) := by decide +kernel
theorem dX2_setVariable_6 : decode cX2_setVariable 6 = .ok (.getfield 37, 3) := by decide +kernel
theorem dX2_setVariable_9 : decode cX2_setVariable 9 = .ok (.arraylength, 1) := by decide +kernel
theorem dX2_setVariable_10 : decode cX2_setVariable 10 = .ok (.if_icmp .ge 10, 3) := by decide +kernel
theorem dX2_setVariable_13 : decode cX2_setVariable 13 = .ok (.aload_n 0, 1) := by decide +kernel
theorem dX2_setVariable_14 : decode cX2_setVariable 14 = .ok (.getfield 37, 3) := by decide +kernel
theorem dX2_setVariable_17 : decode cX2_setVariable 17 = .ok (.iload_n 1, 1) := by decide +kernel
theorem dX2_setVariable_18 : decode cX2_setVariable 18 = .ok (.iload_n 2, 1) := by decide +kernel
theorem dX2_setVariable_19 : decode cX2_setVariable 19 = .ok (.iastore, 1) := by decide +kernel
theorem dX2_setVariable_20 : decode cX2_setVariable 20 = .ok (.return_, 1) := by decide +kernel
theorem dX2_statusFor_0 : decode cX2_statusFor 0 = .ok (.aload_n 0, 1) := by decide +kernel
theorem dX2_statusFor_1 : decode cX2_statusFor 1 = .ok (.iconst 0, 1) := by decide +kernel
theorem dX2_statusFor_2 : decode cX2_statusFor 2 = .ok (.invokevirtual 40, 3) := by decide +kernel
theorem dX2_statusFor_5 : decode cX2_statusFor 5 = .ok (.istore_n 2, 1) := by decide +kernel
theorem dX2_statusFor_6 : decode cX2_statusFor 6 = .ok (.aload_n 0, 1) := by decide +kernel
theorem dX2_statusFor_7 : decode cX2_statusFor 7 = .ok (.getfield 44, 3) := by decide +kernel
theorem dX2_statusFor_10 : decode cX2_statusFor 10 = .ok (.ifCond .eq 9, 3) := by decide +kernel
theorem dX2_statusFor_13 : decode cX2_statusFor 13 = .ok (.sipush 128, 3) := by decide +kernel
theorem dX2_statusFor_16 : decode cX2_statusFor 16 = .ok (.goto 4, 3) := by decide +kernel
theorem dX2_statusFor_19 : decode cX2_statusFor 19 = .ok (.iconst 0, 1) := by decide +kernel
theorem dX2_statusFor_20 : decode cX2_statusFor 20 = .ok (.istore_n 3, 1) := by decide +kernel
theorem dX2_statusFor_21 : decode cX2_statusFor 21 = .ok (.iload_n 3, 1) := by decide +kernel
theorem dX2_statusFor_22 : decode cX2_statusFor 22 = .ok (.aload_n 0, 1) := by decide +kernel
theorem dX2_statusFor_23 : decode cX2_statusFor 23 = .ok (.getfield 24, 3) := by decide +kernel
theorem dX2_statusFor_26 : decode cX2_statusFor 26 = .ok (.iload_n 1, 1) := by decide +kernel
theorem dX2_statusFor_27 : decode cX2_statusFor 27 = .ok (.ishr, 1) := by decide +kernel
theorem dX2_statusFor_28 : decode cX2_statusFor 28 = .ok (.iconst 1, 1) := by decide +kernel
theorem dX2_statusFor_29 : decode cX2_statusFor 29 = .ok (.iand, 1) := by decide +kernel
theorem dX2_statusFor_30 : decode cX2_statusFor 30 = .ok (.ifCond .eq 8, 3) := by decide +kernel
theorem dX2_statusFor_33 : decode cX2_statusFor 33 = .ok (.bipush 64, 2) := by decide +kernel
theorem dX2_statusFor_35 : decode cX2_statusFor 35 = .ok (.goto 4, 3) := by decide +kernel
theorem dX2_statusFor_38 : decode cX2_statusFor 38 = .ok (.iconst 0, 1) := by decide +kernel
theorem dX2_statusFor_39 : decode cX2_statusFor 39 = .ok (.ior, 1) := by decide +kernel
theorem dX2_statusFor_40 : decode cX2_statusFor 40 = .ok (.istore_n 3, 1) := by decide +kernel
theorem dX2_statusFor_41 : decode cX2_statusFor 41 = .ok (.iload_n 3, 1) := by decide +kernel
theorem dX2_statusFor_42 : decode cX2_statusFor 42 = .ok (.aload_n 0, 1) := by decide +kernel
theorem dX2_statusFor_43 : decode cX2_statusFor 43 = .ok (.getfield 27, 3) := by decide +kernel
theorem dX2_statusFor_46 : decode cX2_statusFor 46 = .ok (.iload_n 1, 1) := by decide +kernel
theorem dX2_statusFor_47 : decode cX2_statusFor 47 = .ok (.ishr, 1) := by decide +kernel
theorem dX2_statusFor_48 : decode cX2_statusFor 48 = .ok (.iconst 1, 1) := by decide +kernel
theorem dX2_statusFor_49 : decode cX2_statusFor 49 = .ok (.iand, 1) := by decide +kernel
theorem dX2_statusFor_50 : decode cX2_statusFor 50 = .ok (.ifCond .eq 8, 3) := by decide +kernel
theorem dX2_statusFor_53 : decode cX2_statusFor 53 = .ok (.bipush 32, 2) := by decide +kernel
theorem dX2_statusFor_55 : decode cX2_statusFor 55 = .ok (.goto 4, 3) := by decide +kernel
theorem dX2_statusFor_58 : decode cX2_statusFor 58 = .ok (.iconst 0, 1) := by decide +kernel
theorem dX2_statusFor_59 : decode cX2_statusFor 59 = .ok (.ior, 1) := by decide +kernel
theorem dX2_statusFor_60 : decode cX2_statusFor 60 = .ok (.istore_n 3, 1) := by decide +kernel
theorem dX2_statusFor_61 : decode cX2_statusFor 61 = .ok (.iload_n 3, 1) := by decide +kernel
theorem dX2_statusFor_62 : decode cX2_statusFor 62 = .ok (.iload_n 2, 1) := by decide +kernel
theorem dX2_statusFor_63 : decode cX2_statusFor 63 = .ok (.aload_n 0, 1) := by decide +kernel
theorem dX2_statusFor_64 : decode cX2_statusFor 64 = .ok (.getfield 48, 3) := by decide +kernel
theorem dX2_statusFor_67 : decode cX2_statusFor 67 = .ok (.if_icmp .lt 11, 3) := by decide +kernel
theorem dX2_statusFor_70 : decode cX2_statusFor 70 = .ok (.iload_n 2, 1) := by decide +kernel
theorem dX2_statusFor_71 : decode cX2_statusFor 71 = .ok (.aload_n 0, 1) := by decide +kernel
theorem dX2_statusFor_72 : decode cX2_statusFor 72 = .ok (.getfield 21, 3) := by decide +kernel
theorem dX2_statusFor_75 : decode cX2_statusFor 75 = .ok (.if_icmp .le 8, 3) := by decide +kernel
theorem dX2_statusFor_78 : decode cX2_statusFor 78 = .ok (.bipush 8, 2) := by decide +kernel
theorem dX2_statusFor_80 : decode cX2_statusFor 80 = .ok (.goto 4, 3) := by decide +kernel
theorem dX2_statusFor_83 : decode cX2_statusFor 83 = .ok (.iconst 0, 1) := by decide +kernel
theorem dX2_statusFor_84 : decode cX2_statusFor 84 = .ok (.ior, 1) := by decide +kernel
theorem dX2_statusFor_85 : decode cX2_statusFor 85 = .ok (.istore_n 3, 1) := by decide +kernel
theorem dX2_statusFor_86 : decode cX2_statusFor 86 = .ok (.iload_n 3, 1) := by decide +kernel
theorem dX2_statusFor_87 : decode cX2_statusFor 87 = .ok (.ireturn, 1) := by decide +kernel
theorem dX2_level_0 : decode cX2_level 0 = .ok (.aload_n 0, 1) := by decide +kernel
theorem dX2_level_1 : decode cX2_level 1 = .ok (.getfield 21, 3) := by decide +kernel
theorem dX2_level_4 : decode cX2_level 4 = .ok (.i2l, 1) := by decide +kernel
theorem dX2_level_5 : decode cX2_level 5 = .ok (.aload_n 0, 1) := by decide +kernel
theorem dX2_level_6 : decode cX2_level 6 = .ok (.getfield 48, 3) := by decide +kernel
theorem dX2_level_9 : decode cX2_level 9 = .ok (.i2l, 1) := by decide +kernel
theorem dX2_level_10 : decode cX2_level 10 = .ok (.lsub, 1) := by decide +kernel
theorem dX2_level_11 : decode cX2_level 11 = .ok (.lstore_n 1, 1) := by decide +kernel
theorem dX2_level_12 : decode cX2_level 12 = .ok (.lload_n 1, 1) := by decide +kernel
theorem dX2_level_13 : decode cX2_level 13 = .ok (.lconst 0, 1) := by decide +kernel
theorem dX2_level_14 : decode cX2_level 14 = .ok (.lcmp, 1) := by decide +kernel
theorem dX2_level_15 : decode cX2_level 15 = .ok (.ifCond .gt 7, 3) := by decide +kernel
theorem dX2_level_18 : decode cX2_level 18 = .ok (.sipush 3800, 3) := by decide +kernel
theorem dX2_level_21 : decode cX2_level 21 = .ok (.ireturn, 1) := by decide +kernel
theorem dX2_level_22 : decode cX2_level 22 = .ok (.aload_n 0, 1) := by decide +kernel
theorem dX2_level_23 : decode cX2_level 23 = .ok (.iconst 0, 1) := by decide +kernel
theorem dX2_level_24 : decode cX2_level 24 = .ok (.invokevirtual 40, 3) := by decide +kernel
theorem dX2_level_27 : decode cX2_level 27 = .ok (.i2l, 1) := by decide +kernel
theorem dX2_level_28 : decode cX2_level 28 = .ok (.aload_n 0, 1) := by decide +kernel
theorem dX2_level_29 : decode cX2_level 29 = .ok (.getfield 48, 3) := by decide +kernel
theorem dX2_level_32 : decode cX2_level 32 = .ok (.i2l, 1) := by decide +kernel
theorem dX2_level_33 : decode cX2_level 33 = .ok (.lsub, 1) := by decide +kernel
theorem dX2_level_34 : decode cX2_level 34 = .ok (.ldc2_w 51, 3) := by decide +kernel
theorem dX2_level_37 : decode cX2_level 37 = .ok (.lmul, 1) := by decide +kernel
theorem dX2_level_38 : decode cX2_level 38 = .ok (.lload_n 1, 1) := by decide +kernel
theorem dX2_level_39 : decode cX2_level 39 = .ok (.ldiv, 1) := by decide +kernel
theorem dX2_level_40 : decode cX2_level 40 = .ok (.ldc2_w 53, 3) := by decide +kernel
theorem dX2_level_43 : decode cX2_level 43 = .ok (.ladd, 1) := by decide +kernel
theorem dX2_level_44 : decode cX2_level 44 = .ok (.lstore_n 3, 1) := by decide +kernel
theorem dX2_level_45 : decode cX2_level 45 = .ok (.ldc2_w 55, 3) := by decide +kernel
theorem dX2_level_48 : decode cX2_level 48 = .ok (.ldc2_w 57, 3) := by decide +kernel
theorem dX2_level_51 : decode cX2_level 51 = .ok (.lload_n 3, 1) := by decide +kernel
theorem dX2_level_52 : decode cX2_level 52 = .ok (.invokestatic 59, 3) := by decide +kernel
theorem dX2_level_55 : decode cX2_level 55 = .ok (.invokestatic 65, 3) := by decide +kernel
theorem dX2_level_58 : decode cX2_level 58 = .ok (.l2i, 1) := by decide +kernel
theorem dX2_level_59 : decode cX2_level 59 = .ok (.ireturn, 1) := by decide +kernel
theorem dX3_init_0 : decode cX3_init 0 = .ok (.aload_n 0, 1) := by decide +kernel
theorem dX3_init_1 : decode cX3_init 1 = .ok (.invokespecial 3, 3) := by decide +kernel
theorem dX3_init_4 : decode cX3_init 4 = .ok (.aload_n 0, 1) := by decide +kernel
theorem dX3_init_5 : decode cX3_init 5 = .ok (.sipush 2000, 3) := by decide +kernel
theorem dX3_init_8 : decode cX3_init 8 = .ok (.newarray .int, 2) := by decide +kernel
theorem dX3_init_10 : decode cX3_init 10 = .ok (.putfield 11, 3) := by decide +kernel
theorem dX3_init_13 : decode cX3_init 13 = .ok (.aload_n 0, 1) := by decide +kernel
theorem dX3_init_14 : decode cX3_init 14 = .ok (.sipush 2000, 3) := by decide +kernel
theorem dX3_init_17 : decode cX3_init 17 = .ok (.newarray .int, 2) := by decide +kernel
theorem dX3_init_19 : decode cX3_init 19 = .ok (.putfield 15, 3) := by decide +kernel
theorem dX3_init_22 : decode cX3_init 22 = .ok (.return_, 1) := by decide +kernel
theorem dX3_add_0 : decode cX3_add 0 = .ok (.aload_n 0, 1) := by decide +kernel
theorem dX3_add_1 : decode cX3_add 1 = .ok (.getfield 18, 3) := by decide +kernel
theorem dX3_add_4 : decode cX3_add 4 = .ok (.sipush 2000, 3) := by decide +kernel
theorem dX3_add_7 : decode cX3_add 7 = .ok (.irem, 1) := by decide +kernel
theorem dX3_add_8 : decode cX3_add 8 = .ok (.istore_n 3, 1) := by decide +kernel
theorem dX3_add_9 : decode cX3_add 9 = .ok (.iload_n 3, 1) := by decide +kernel
theorem dX3_add_10 : decode cX3_add 10 = .ok (.ifCond .lt 45, 3) := by decide +kernel
theorem dX3_add_13 : decode cX3_add 13 = .ok (.iload_n 3, 1) := by decide +kernel
theorem dX3_add_14 : decode cX3_add 14 = .ok (.aload_n 0, 1) := by decide +kernel
theorem dX3_add_15 : decode cX3_add 15 = .ok (.getfield 11, 3) := by decide +kernel
theorem dX3_add_18 : decode cX3_add 18 = .ok (.arraylength, 1) := by decide +kernel
theorem dX3_add_19 : decode cX3_add 19 = .ok (.if_icmp .ge 36, 3) := by decide +kernel
theorem dX3_add_22 : decode cX3_add 22 = .ok (.iload_n 3, 1) := by decide +kernel
theorem dX3_add_23 : decode cX3_add 23 = .ok (.aload_n 0, 1) := by decide +kernel
theorem dX3_add_24 : decode cX3_add 24 = .ok (.getfield 15, 3) := by decide +kernel
theorem dX3_add_27 : decode cX3_add 27 = .ok (.arraylength, 1) := by decide +kernel
theorem dX3_add_28 : decode cX3_add 28 = .ok (.if_icmp .ge 27, 3) := by decide +kernel
theorem dX3_add_31 : decode cX3_add 31 = .ok (.aload_n 0, 1) := by decide +kernel
theorem dX3_add_32 : decode cX3_add 32 = .ok (.getfield 11, 3) := by decide +kernel
theorem dX3_add_35 : decode cX3_add 35 = .ok (.iload_n 3, 1) := by decide +kernel
theorem dX3_add_36 : decode cX3_add 36 = .ok (.iload_n 1, 1) := by decide +kernel
theorem dX3_add_37 : decode cX3_add 37 = .ok (.iastore, 1) := by decide +kernel
theorem dX3_add_38 : decode cX3_add 38 = .ok (.aload_n 0, 1) := by decide +kernel
theorem dX3_add_39 : decode cX3_add 39 = .ok (.getfield 15, 3) := by decide +kernel
theorem dX3_add_42 : decode cX3_add 42 = .ok (.iload_n 3, 1) := by decide +kernel
theorem dX3_add_43 : decode cX3_add 43 = .ok (.iload_n 2, 1) := by decide +kernel
theorem dX3_add_44 : decode cX3_add 44 = .ok (.iastore, 1) := by decide +kernel
theorem dX3_add_45 : decode cX3_add 45 = .ok (.aload_n 0, 1) := by decide +kernel
theorem dX3_add_46 : decode cX3_add 46 = .ok (.dup, 1) := by decide +kernel
theorem dX3_add_47 : decode cX3_add 47 = .ok (.getfield 18, 3) := by decide +kernel
theorem dX3_add_50 : decode cX3_add 50 = .ok (.iconst 1, 1) := by decide +kernel
theorem dX3_add_51 : decode cX3_add 51 = .ok (.iadd, 1) := by decide +kernel
theorem dX3_add_52 : decode cX3_add 52 = .ok (.putfield 18, 3) := by decide +kernel
theorem dX3_add_55 : decode cX3_add 55 = .ok (.return_, 1) := by decide +kernel
theorem dX3_byteAt_0 : decode cX3_byteAt 0 = .ok (.aload_n 0, 1) := by decide +kernel
theorem dX3_byteAt_1 : decode cX3_byteAt 1 = .ok (.iload_n 1, 1) := by decide +kernel
theorem dX3_byteAt_2 : decode cX3_byteAt 2 = .ok (.invokevirtual 22, 3) := by decide +kernel
theorem dX3_byteAt_5 : decode cX3_byteAt 5 = .ok (.istore_n 2, 1) := by decide +kernel
theorem dX3_byteAt_6 : decode cX3_byteAt 6 = .ok (.iload_n 2, 1) := by decide +kernel
theorem dX3_byteAt_7 : decode cX3_byteAt 7 = .ok (.ifCond .lt 21, 3) := by decide +kernel
theorem dX3_byteAt_10 : decode cX3_byteAt 10 = .ok (.iload_n 2, 1) := by decide +kernel
theorem dX3_byteAt_11 : decode cX3_byteAt 11 = .ok (.aload_n 0, 1) := by decide +kernel
theorem dX3_byteAt_12 : decode cX3_byteAt 12 = .ok (.getfield 11, 3) := by decide +kernel
theorem dX3_byteAt_15 : decode cX3_byteAt 15 = .ok (.arraylength, 1) := by decide +kernel
theorem dX3_byteAt_16 : decode cX3_byteAt 16 = .ok (.if_icmp .ge 12, 3) := by decide +kernel
theorem dX3_byteAt_19 : decode cX3_byteAt 19 = .ok (.aload_n 0, 1) := by decide +kernel
theorem dX3_byteAt_20 : decode cX3_byteAt 20 = .ok (.getfield 11, 3) := by decide +kernel
theorem dX3_byteAt_23 : decode cX3_byteAt 23 = .ok (.iload_n 2, 1) := by decide +kernel
theorem dX3_byteAt_24 : decode cX3_byteAt 24 = .ok (.iaload, 1) := by decide +kernel
theorem dX3_byteAt_25 : decode cX3_byteAt 25 = .ok (.goto 4, 3) := by decide +kernel
theorem dX3_byteAt_28 : decode cX3_byteAt 28 = .ok (.iconst (-1), 1) := by decide +kernel
theorem dX3_byteAt_29 : decode cX3_byteAt 29 = .ok (.ireturn, 1) := by decide +kernel
theorem dX3_tickAt_0 : decode cX3_tickAt 0 = .ok (.aload_n 0, 1) := by decide +kernel
theorem dX3_tickAt_1 : decode cX3_tickAt 1 = .ok (.iload_n 1, 1) := by decide +kernel
theorem dX3_tickAt_2 : decode cX3_tickAt 2 = .ok (.invokevirtual 22, 3) := by decide +kernel
theorem dX3_tickAt_5 : decode cX3_tickAt 5 = .ok (.istore_n 2, 1) := by decide +kernel
theorem dX3_tickAt_6 : decode cX3_tickAt 6 = .ok (.iload_n 2, 1) := by decide +kernel
theorem dX3_tickAt_7 : decode cX3_tickAt 7 = .ok (.ifCond .lt 21, 3) := by decide +kernel
theorem dX3_tickAt_10 : decode cX3_tickAt 10 = .ok (.iload_n 2, 1) := by decide +kernel
theorem dX3_tickAt_11 : decode cX3_tickAt 11 = .ok (.aload_n 0, 1) := by decide +kernel
theorem dX3_tickAt_12 : decode cX3_tickAt 12 = .ok (.getfield 15, 3) := by decide +kernel
theorem dX3_tickAt_15 : decode cX3_tickAt 15 = .ok (.arraylength, 1) := by decide +kernel
theorem dX3_tickAt_16 : decode cX3_tickAt 16 = .ok (.if_icmp .ge 12, 3) := by decide +kernel
theorem dX3_tickAt_19 : decode cX3_tickAt 19 = .ok (.aload_n 0, 1) := by decide +kernel
theorem dX3_tickAt_20 : decode cX3_tickAt 20 = .ok (.getfield 15, 3) := by decide +kernel
theorem dX3_tickAt_23 : decode cX3_tickAt 23 = .ok (.iload_n 2, 1) := by decide +kernel
theorem dX3_tickAt_24 : decode cX3_tickAt 24 = .ok (.iaload, 1) := by decide +kernel
theorem dX3_tickAt_25 : decode cX3_tickAt 25 = .ok (.goto 4, 3) := by decide +kernel
theorem dX3_tickAt_28 : decode cX3_tickAt 28 = .ok (.iconst (-1), 1) := by decide +kernel
theorem dX3_tickAt_29 : decode cX3_tickAt 29 = .ok (.ireturn, 1) := by decide +kernel
theorem dX3_placeOf_0 : decode cX3_placeOf 0 = .ok (.iload_n 1, 1) := by decide +kernel
theorem dX3_placeOf_1 : decode cX3_placeOf 1 = .ok (.ifCond .lt 23, 3) := by decide +kernel
theorem dX3_placeOf_4 : decode cX3_placeOf 4 = .ok (.iload_n 1, 1) := by decide +kernel
theorem dX3_placeOf_5 : decode cX3_placeOf 5 = .ok (.aload_n 0, 1) := by decide +kernel
theorem dX3_placeOf_6 : decode cX3_placeOf 6 = .ok (.getfield 18, 3) := by decide +kernel
theorem dX3_placeOf_9 : decode cX3_placeOf 9 = .ok (.if_icmp .ge 15, 3) := by decide +kernel
theorem dX3_placeOf_12 : decode cX3_placeOf 12 = .ok (.iload_n 1, 1) := by decide +kernel
theorem dX3_placeOf_13 : decode cX3_placeOf 13 = .ok (.aload_n 0, 1) := by decide +kernel
theorem dX3_placeOf_14 : decode cX3_placeOf 14 = .ok (.getfield 18, 3) := by decide +kernel
theorem dX3_placeOf_17 : decode cX3_placeOf 17 = .ok (.sipush 2000, 3) := by decide +kernel
theorem dX3_placeOf_20 : decode cX3_placeOf 20 = .ok (.isub, 1) := by decide +kernel
theorem dX3_placeOf_21 : decode cX3_placeOf 21 = .ok (.if_icmp .ge 7, 3) := by decide +kernel
theorem dX3_placeOf_24 : decode cX3_placeOf 24 = .ok (.iconst (-1), 1) := by decide +kernel
theorem dX3_placeOf_25 : decode cX3_placeOf 25 = .ok (.goto 8, 3) := by decide +kernel
theorem dX3_placeOf_28 : decode cX3_placeOf 28 = .ok (.iload_n 1, 1) := by decide +kernel
theorem dX3_placeOf_29 : decode cX3_placeOf 29 = .ok (.sipush 2000, 3) := by decide +kernel
theorem dX3_placeOf_32 : decode cX3_placeOf 32 = .ok (.irem, 1) := by decide +kernel
theorem dX3_placeOf_33 : decode cX3_placeOf 33 = .ok (.ireturn, 1) := by decide +kernel
end
section
theorem dX4_init_0 : decode cX4_init 0 = .ok (.aload_n 0, 1) := by decide +kernel
theorem dX4_init_1 : decode cX4_init 1 = .ok (.invokespecial 1, 3) := by decide +kernel
theorem dX4_init_4 : decode cX4_init 4 = .ok (.aload_n 0, 1) := by decide +kernel
theorem dX4_init_5 : decode cX4_init 5 = .ok (.new 7, 3) := by decide +kernel
theorem dX4_init_8 : decode cX4_init 8 = .ok (.dup, 1) := by decide +kernel
theorem dX4_init_9 : decode cX4_init 9 = .ok (.iload_n 1, 1) := by decide +kernel
theorem dX4_init_10 : decode cX4_init 10 = .ok (.bipush 63, 2) := by decide +kernel
theorem dX4_init_12 : decode cX4_init 12 = .ok (.iand, 1) := by decide +kernel
theorem dX4_init_13 : decode cX4_init 13 = .ok (.iload_n 2, 1) := by decide +kernel
theorem dX4_init_14 : decode cX4_init 14 = .ok (.sipush 255, 3) := by decide +kernel
theorem dX4_init_17 : decode cX4_init 17 = .ok (.iand, 1) := by decide +kernel
theorem dX4_init_18 : decode cX4_init 18 = .ok (.iload_n 3, 1) := by decide +kernel
theorem dX4_init_19 : decode cX4_init 19 = .ok (.ldc 11, 2) := by decide +kernel
theorem dX4_init_21 : decode cX4_init 21 = .ok (.iand, 1) := by decide +kernel
theorem dX4_init_22 : decode cX4_init 22 = .ok (.invokespecial 12, 3) := by decide +kernel
theorem dX4_init_25 : decode cX4_init 25 = .ok (.putfield 15, 3) := by decide +kernel
theorem dX4_init_28 : decode cX4_init 28 = .ok (.aload_n 0, 1) := by decide +kernel
theorem dX4_init_29 : decode cX4_init 29 = .ok (.new 19, 3) := by decide +kernel
theorem dX4_init_32 : decode cX4_init 32 = .ok (.dup, 1) := by decide +kernel
theorem dX4_init_33 : decode cX4_init 33 = .ok (.invokespecial 21, 3) := by decide +kernel
theorem dX4_init_36 : decode cX4_init 36 = .ok (.putfield 22, 3) := by decide +kernel
theorem dX4_init_39 : decode cX4_init 39 = .ok (.aload_n 0, 1) := by decide +kernel
theorem dX4_init_40 : decode cX4_init 40 = .ok (.new 26, 3) := by decide +kernel
theorem dX4_init_43 : decode cX4_init 43 = .ok (.dup, 1) := by decide +kernel
theorem dX4_init_44 : decode cX4_init 44 = .ok (.invokespecial 28, 3) := by decide +kernel
theorem dX4_init_47 : decode cX4_init 47 = .ok (.putfield 29, 3) := by decide +kernel
theorem dX4_init_50 : decode cX4_init 50 = .ok (.aload_n 0, 1) := by decide +kernel
theorem dX4_init_51 : decode cX4_init 51 = .ok (.new 33, 3) := by decide +kernel
theorem dX4_init_54 : decode cX4_init 54 = .ok (.dup, 1) := by decide +kernel
theorem dX4_init_55 : decode cX4_init 55 = .ok (.invokespecial 35, 3) := by decide +kernel
theorem dX4_init_58 : decode cX4_init 58 = .ok (.putfield 36, 3) := by decide +kernel
theorem dX4_init_61 : decode cX4_init 61 = .ok (.return_, 1) := by decide +kernel
theorem dX4_octet_0 : decode cX4_octet 0 = .ok (.aload_n 0, 1) := by decide +kernel
theorem dX4_octet_1 : decode cX4_octet 1 = .ok (.iload_n 1, 1) := by decide +kernel
theorem dX4_octet_2 : decode cX4_octet 2 = .ok (.sipush 255, 3) := by decide +kernel
theorem dX4_octet_5 : decode cX4_octet 5 = .ok (.iand, 1) := by decide +kernel
theorem dX4_octet_6 : decode cX4_octet 6 = .ok (.invokevirtual 40, 3) := by decide +kernel
theorem dX4_octet_9 : decode cX4_octet 9 = .ok (.aload_n 0, 1) := by decide +kernel
theorem dX4_octet_10 : decode cX4_octet 10 = .ok (.getfield 36, 3) := by decide +kernel
theorem dX4_octet_13 : decode cX4_octet 13 = .ok (.getfield 44, 3) := by decide +kernel
theorem dX4_octet_16 : decode cX4_octet 16 = .ok (.ireturn, 1) := by decide +kernel
theorem dX4_octets_0 : decode cX4_octets 0 = .ok (.bipush 24, 2) := by decide +kernel
theorem dX4_octets_2 : decode cX4_octets 2 = .ok (.istore_n 2, 1) := by decide +kernel
theorem dX4_octets_3 : decode cX4_octets 3 = .ok (.iload_n 2, 1) := by decide +kernel
theorem dX4_octets_4 : decode cX4_octets 4 = .ok (.ifCond .lt 20, 3) := by decide +kernel
theorem dX4_octets_7 : decode cX4_octets 7 = .ok (.aload_n 0, 1) := by decide +kernel
theorem dX4_octets_8 : decode cX4_octets 8 = .ok (.iload_n 1, 1) := by decide +kernel
theorem dX4_octets_9 : decode cX4_octets 9 = .ok (.iload_n 2, 1) := by decide +kernel
theorem dX4_octets_10 : decode cX4_octets 10 = .ok (.iushr, 1) := by decide +kernel
theorem dX4_octets_11 : decode cX4_octets 11 = .ok (.sipush 255, 3) := by decide +kernel
theorem dX4_octets_14 : decode cX4_octets 14 = .ok (.iand, 1) := by decide +kernel
theorem dX4_octets_15 : decode cX4_octets 15 = .ok (.invokevirtual 40, 3) := by decide +kernel
theorem dX4_octets_18 : decode cX4_octets 18 = .ok (.iinc 2 (-8), 3) := by decide +kernel
theorem dX4_octets_21 : decode cX4_octets 21 = .ok (.goto (-18), 3) := by decide +kernel
theorem dX4_octets_24 : decode cX4_octets 24 = .ok (.aload_n 0, 1) := by decide +kernel
theorem dX4_octets_25 : decode cX4_octets 25 = .ok (.getfield 36, 3) := by decide +kernel
theorem dX4_octets_28 : decode cX4_octets 28 = .ok (.getfield 44, 3) := by decide +kernel
theorem dX4_octets_31 : decode cX4_octets 31 = .ok (.ireturn, 1) := by decide +kernel
theorem dX4_tick_0 : decode cX4_tick 0 = .ok (.iload_n 1, 1) := by decide +kernel
theorem dX4_tick_1 : decode cX4_tick 1 = .ok (.iconst 1, 1) := by decide +kernel
theorem dX4_tick_2 : decode cX4_tick 2 = .ok (.if_icmp .lt 10, 3) := by decide +kernel
theorem dX4_tick_5 : decode cX4_tick 5 = .ok (.iload_n 1, 1) := by decide +kernel
theorem dX4_tick_6 : decode cX4_tick 6 = .ok (.sipush 1000, 3) := by decide +kernel
theorem dX4_tick_9 : decode cX4_tick 9 = .ok (.if_icmp .le 5, 3) := by decide +kernel
theorem dX4_tick_12 : decode cX4_tick 12 = .ok (.iconst (-1), 1) := by decide +kernel
theorem dX4_tick_13 : decode cX4_tick 13 = .ok (.ireturn, 1) := by decide +kernel
theorem dX4_tick_14 : decode cX4_tick 14 = .ok (.iconst 0, 1) := by decide +kernel
theorem dX4_tick_15 : decode cX4_tick 15 = .ok (.istore_n 2, 1) := by decide +kernel
theorem dX4_tick_16 : decode cX4_tick 16 = .ok (.iload_n 2, 1) := by decide +kernel
theorem dX4_tick_17 : decode cX4_tick 17 = .ok (.iload_n 1, 1) := by decide +kernel
theorem dX4_tick_18 : decode cX4_tick 18 = .ok (.if_icmp .ge 14, 3) := by decide +kernel
theorem dX4_tick_21 : decode cX4_tick 21 = .ok (.aload_n 0, 1) := by decide +kernel
theorem dX4_tick_22 : decode cX4_tick 22 = .ok (.iconst (-1), 1) := by decide +kernel
theorem dX4_tick_23 : decode cX4_tick 23 = .ok (.invokevirtual 40, 3) := by decide +kernel
theorem dX4_tick_26 : decode cX4_tick 26 = .ok (.iinc 2 1, 3) := by decide +kernel
theorem dX4_tick_29 : decode cX4_tick 29 = .ok (.goto (-13), 3) := by decide +kernel
theorem dX4_tick_32 : decode cX4_tick 32 = .ok (.aload_n 0, 1) := by decide +kernel
theorem dX4_tick_33 : decode cX4_tick 33 = .ok (.getfield 36, 3) := by decide +kernel
theorem dX4_tick_36 : decode cX4_tick 36 = .ok (.getfield 44, 3) := by decide +kernel
theorem dX4_tick_39 : decode cX4_tick 39 = .ok (.ireturn, 1) := by decide +kernel
theorem dX4_sent_0 : decode cX4_sent 0 = .ok (.aload_n 0, 1) := by decide +kernel
theorem dX4_sent_1 : decode cX4_sent 1 = .ok (.getfield 36, 3) := by decide +kernel
theorem dX4_sent_4 : decode cX4_sent 4 = .ok (.iload_n 1, 1) := by decide +kernel
theorem dX4_sent_5 : decode cX4_sent 5 = .ok (.invokevirtual 48, 3) := by decide +kernel
theorem dX4_sent_8 : decode cX4_sent 8 = .ok (.ireturn, 1) := by decide +kernel
theorem dX4_when_0 : decode cX4_when 0 = .ok (.aload_n 0, 1) := by decide +kernel
theorem dX4_when_1 : decode cX4_when 1 = .ok (.getfield 36, 3) := by decide +kernel
theorem dX4_when_4 : decode cX4_when 4 = .ok (.iload_n 1, 1) := by decide +kernel
theorem dX4_when_5 : decode cX4_when 5 = .ok (.invokevirtual 52, 3) := by decide +kernel
theorem dX4_when_8 : decode cX4_when 8 = .ok (.ireturn, 1) := by decide +kernel
theorem dX4_variable_0 : decode cX4_variable 0 = .ok (.iload_n 1, 1) := by decide +kernel
theorem dX4_variable_1 : decode cX4_variable 1 = .ok (.ifCond .lt 8, 3) := by decide +kernel
theorem dX4_variable_4 : decode cX4_variable 4 = .ok (.iload_n 1, 1) := by decide +kernel
theorem dX4_variable_5 : decode cX4_variable 5 = .ok (.iconst 4, 1) := by decide +kernel
theorem dX4_variable_6 : decode cX4_variable 6 = .ok (.if_icmp .lt 7, 3) := by decide +kernel
theorem dX4_variable_9 : decode cX4_variable 9 = .ok (.ldc2_w 55, 3) := by decide +kernel
theorem dX4_variable_12 : decode cX4_variable 12 = .ok (.lreturn, 1) := by decide +kernel
theorem dX4_variable_13 : decode cX4_variable 13 = .ok (.aload_n 0, 1) := by decide +kernel
theorem dX4_variable_14 : decode cX4_variable 14 = .ok (.getfield 15, 3) := by decide +kernel
theorem dX4_variable_17 : decode cX4_variable 17 = .ok (.iload_n 1, 1) := by decide +kernel
theorem dX4_variable_18 : decode cX4_variable 18 = .ok (.invokevirtual 57, 3) := by decide +kernel
theorem dX4_variable_21 : decode cX4_variable 21 = .ok (.i2l, 1) := by decide +kernel
theorem dX4_variable_22 : decode cX4_variable 22 = .ok (.lstore_n 3, 1) := by decide +kernel
theorem dX4_variable_23 : decode cX4_variable 23 = .ok (.aload_n 0, 1) := by decide +kernel
theorem dX4_variable_24 : decode cX4_variable 24 = .ok (.getfield 15, 3) := by decide +kernel
theorem dX4_variable_27 : decode cX4_variable 27 = .ok (.iload_n 1, 1) := by decide +kernel
theorem dX4_variable_28 : decode cX4_variable 28 = .ok (.iload_n 2, 1) := by decide +kernel
theorem dX4_variable_29 : decode cX4_variable 29 = .ok (.invokevirtual 60, 3) := by decide +kernel
theorem dX4_variable_32 : decode cX4_variable 32 = .ok (.lload_n 3, 1) := by decide +kernel
theorem dX4_variable_33 : decode cX4_variable 33 = .ok (.lreturn, 1) := by decide +kernel
theorem dX4_failure_0 : decode cX4_failure 0 = .ok (.aload_n 0, 1) := by decide +kernel
theorem dX4_failure_1 : decode cX4_failure 1 = .ok (.getfield 15, 3) := by decide +kernel
theorem dX4_failure_4 : decode cX4_failure 4 = .ok (.getfield 64, 3) := by decide +kernel
theorem dX4_failure_7 : decode cX4_failure 7 = .ok (.iload_n 1, 1) := by decide +kernel
theorem dX4_failure_8 : decode cX4_failure 8 = .ok (.if_icmp .ne 5, 3) := by decide +kernel
theorem dX4_failure_11 : decode cX4_failure 11 = .ok (.iconst 0, 1) := by decide +kernel
theorem dX4_failure_12 : decode cX4_failure 12 = .ok (.ireturn, 1) := by decide +kernel
theorem dX4_failure_13 : decode cX4_failure 13 = .ok (.aload_n 0, 1) := by decide +kernel
theorem dX4_failure_14 : decode cX4_failure 14 = .ok (.getfield 15, 3) := by decide +kernel
theorem dX4_failure_17 : decode cX4_failure 17 = .ok (.iload_n 1, 1) := by decide +kernel
theorem dX4_failure_18 : decode cX4_failure 18 = .ok (.putfield 64, 3) := by decide +kernel
theorem dX4_failure_21 : decode cX4_failure 21 = .ok (.iconst 1, 1) := by decide +kernel
theorem dX4_failure_22 : decode cX4_failure 22 = .ok (.ireturn, 1) := by decide +kernel
theorem dX4_has_0 : decode cX4_has 0 = .ok (.iload_n 1, 1) := by decide +kernel
theorem dX4_has_1 : decode cX4_has 1 = .ok (.tableswitch 140 0 9 #[55, 64, 73, 82, 91, 107, 116, 122, 128, 134], 55) := by decide +kernel
theorem dX4_has_56 : decode cX4_has 56 = .ok (.aload_n 0, 1) := by decide +kernel
theorem dX4_has_57 : decode cX4_has 57 = .ok (.getfield 15, 3) := by decide +kernel
theorem dX4_has_60 : decode cX4_has 60 = .ok (.getfield 68, 3) := by decide +kernel
theorem dX4_has_63 : decode cX4_has 63 = .ok (.i2l, 1) := by decide +kernel
theorem dX4_has_64 : decode cX4_has 64 = .ok (.lreturn, 1) := by decide +kernel
theorem dX4_has_65 : decode cX4_has 65 = .ok (.aload_n 0, 1) := by decide +kernel
theorem dX4_has_66 : decode cX4_has 66 = .ok (.getfield 15, 3) := by decide +kernel
theorem dX4_has_69 : decode cX4_has 69 = .ok (.getfield 71, 3) := by decide +kernel
theorem dX4_has_72 : decode cX4_has 72 = .ok (.i2l, 1) := by decide +kernel
theorem dX4_has_73 : decode cX4_has 73 = .ok (.lreturn, 1) := by decide +kernel
theorem dX4_has_74 : decode cX4_has 74 = .ok (.aload_n 0, 1) := by decide +kernel
theorem dX4_has_75 : decode cX4_has 75 = .ok (.getfield 15, 3) := by decide +kernel
theorem dX4_has_78 : decode cX4_has 78 = .ok (.getfield 74, 3) := by decide +kernel
theorem dX4_has_81 : decode cX4_has 81 = .ok (.i2l, 1) := by decide +kernel
theorem dX4_has_82 : decode cX4_has 82 = .ok (.lreturn, 1) := by decide +kernel
theorem dX4_has_83 : decode cX4_has 83 = .ok (.aload_n 0, 1) := by decide +kernel
theorem dX4_has_84 : decode cX4_has 84 = .ok (.getfield 15, 3) := by decide +kernel
theorem dX4_has_87 : decode cX4_has 87 = .ok (.getfield 77, 3) := by decide +kernel
theorem dX4_has_90 : decode cX4_has 90 = .ok (.i2l, 1) := by decide +kernel
theorem dX4_has_91 : decode cX4_has 91 = .ok (.lreturn, 1) := by decide +kernel
theorem dX4_has_92 : decode cX4_has 92 = .ok (.aload_n 0, 1) := by decide +kernel
theorem dX4_has_93 : decode cX4_has 93 = .ok (.getfield 15, 3) := by decide +kernel
theorem dX4_has_96 : decode cX4_has 96 = .ok (.getfield 80, 3) := by decide +kernel
theorem dX4_has_99 : decode cX4_has 99 = .ok (.ifCond .eq 7, 3) := by decide +kernel
theorem dX4_has_102 : decode cX4_has 102 = .ok (.lconst 1, 1) := by decide +kernel
theorem dX4_has_103 : decode cX4_has 103 = .ok (.goto 4, 3) := by decide +kernel
theorem dX4_has_106 : decode cX4_has 106 = .ok (.lconst 0, 1) := by decide +kernel
theorem dX4_has_107 : decode cX4_has 107 = .ok (.lreturn, 1) := by decide +kernel
theorem dX4_has_108 : decode cX4_has 108 = .ok (.aload_n 0, 1) := by decide +kernel
theorem dX4_has_109 : decode cX4_has 109 = .ok (.getfield 15, 3) := by decide +kernel
theorem dX4_has_112 : decode cX4_has 112 = .ok (.getfield 83, 3) := by decide +kernel
theorem dX4_has_115 : decode cX4_has 115 = .ok (.i2l, 1) := by decide +kernel
theorem dX4_has_116 : decode cX4_has 116 = .ok (.lreturn, 1) := by decide +kernel
theorem dX4_has_117 : decode cX4_has 117 = .ok (.aload_n 0, 1) := by decide +kernel
theorem dX4_has_118 : decode cX4_has 118 = .ok (.getfield 86, 3) := by decide +kernel
theorem dX4_has_121 : decode cX4_has 121 = .ok (.i2l, 1) := by decide +kernel
theorem dX4_has_122 : decode cX4_has 122 = .ok (.lreturn, 1) := by decide +kernel
theorem dX4_has_123 : decode cX4_has 123 = .ok (.aload_n 0, 1) := by decide +kernel
theorem dX4_has_124 : decode cX4_has 124 = .ok (.getfield 89, 3) := by decide +kernel
theorem dX4_has_127 : decode cX4_has 127 = .ok (.i2l, 1) := by decide +kernel
theorem dX4_has_128 : decode cX4_has 128 = .ok (.lreturn, 1) := by decide +kernel
theorem dX4_has_129 : decode cX4_has 129 = .ok (.aload_n 0, 1) := by decide +kernel
theorem dX4_has_130 : decode cX4_has 130 = .ok (.getfield 92, 3) := by decide +kernel
theorem dX4_has_133 : decode cX4_has 133 = .ok (.i2l, 1) := by decide +kernel
theorem dX4_has_134 : decode cX4_has 134 = .ok (.lreturn, 1) := by decide +kernel
theorem dX4_has_135 : decode cX4_has 135 = .ok (.aload_n 0, 1) := by decide +kernel
theorem dX4_has_136 : decode cX4_has 136 = .ok (.getfield 95, 3) := by decide +kernel
theorem dX4_has_139 : decode cX4_has 139 = .ok (.i2l, 1) := by decide +kernel
theorem dX4_has_140 : decode cX4_has 140 = .ok (.lreturn, 1) := by decide +kernel
theorem dX4_has_141 : decode cX4_has 141 = .ok (.ldc2_w 55, 3) := by decide +kernel
theorem dX4_has_144 : decode cX4_has 144 = .ok (.lreturn, 1) := by decide +kernel
theorem dX4_tag_0 : decode cX4_tag 0 = .ok (.aload_n 0, 1) := by decide +kernel
theorem dX4_tag_1 : decode cX4_tag 1 = .ok (.getfield 15, 3) := by decide +kernel
theorem dX4_tag_4 : decode cX4_tag 4 = .ok (.iload_n 1, 1) := by decide +kernel
theorem dX4_tag_5 : decode cX4_tag 5 = .ok (.invokevirtual 98, 3) := by decide +kernel
theorem dX4_tag_8 : decode cX4_tag 8 = .ok (.ireturn, 1) := by decide +kernel
theorem dX4_now_0 : decode cX4_now 0 = .ok (.aload_n 0, 1) := by decide +kernel
theorem dX4_now_1 : decode cX4_now 1 = .ok (.getfield 101, 3) := by decide +kernel
theorem dX4_now_4 : decode cX4_now 4 = .ok (.ireturn, 1) := by decide +kernel
theorem dX4_passTick_0 : decode cX4_passTick 0 = .ok (.aload_n 0, 1) := by decide +kernel
theorem dX4_passTick_1 : decode cX4_passTick 1 = .ok (.invokevirtual 104, 3) := by decide +kernel
theorem dX4_passTick_4 : decode cX4_passTick 4 = .ok (.ifCond .eq 7, 3) := by decide +kernel
theorem dX4_passTick_7 : decode cX4_passTick 7 = .ok (.aload_n 0, 1) := by decide +kernel
theorem dX4_passTick_8 : decode cX4_passTick 8 = .ok (.invokevirtual 108, 3) := by decide +kernel
theorem dX4_passTick_11 : decode cX4_passTick 11 = .ok (.aload_n 0, 1) := by decide +kernel
theorem dX4_passTick_12 : decode cX4_passTick 12 = .ok (.getfield 29, 3) := by decide +kernel
theorem dX4_passTick_15 : decode cX4_passTick 15 = .ok (.invokevirtual 111, 3) := by decide +kernel
theorem dX4_passTick_18 : decode cX4_passTick 18 = .ok (.istore_n 2, 1) := by decide +kernel
theorem dX4_passTick_19 : decode cX4_passTick 19 = .ok (.aload_n 0, 1) := by decide +kernel
theorem dX4_passTick_20 : decode cX4_passTick 20 = .ok (.getfield 29, 3) := by decide +kernel
theorem dX4_passTick_23 : decode cX4_passTick 23 = .ok (.invokevirtual 114, 3) := by decide +kernel
theorem dX4_passTick_26 : decode cX4_passTick 26 = .ok (.istore_n 3, 1) := by decide +kernel
theorem dX4_passTick_27 : decode cX4_passTick 27 = .ok (.iload_n 3, 1) := by decide +kernel
theorem dX4_passTick_28 : decode cX4_passTick 28 = .ok (.iconst (-1), 1) := by decide +kernel
theorem dX4_passTick_29 : decode cX4_passTick 29 = .ok (.if_icmp .eq 15, 3) := by decide +kernel
theorem dX4_passTick_32 : decode cX4_passTick 32 = .ok (.aload_n 0, 1) := by decide +kernel
theorem dX4_passTick_33 : decode cX4_passTick 33 = .ok (.getfield 36, 3) := by decide +kernel
theorem dX4_passTick_36 : decode cX4_passTick 36 = .ok (.iload_n 3, 1) := by decide +kernel
theorem dX4_passTick_37 : decode cX4_passTick 37 = .ok (.aload_n 0, 1) := by decide +kernel
theorem dX4_passTick_38 : decode cX4_passTick 38 = .ok (.getfield 101, 3) := by decide +kernel
theorem dX4_passTick_41 : decode cX4_passTick 41 = .ok (.invokevirtual 118, 3) := by decide +kernel
theorem dX4_passTick_44 : decode cX4_passTick 44 = .ok (.iload_n 2, 1) := by decide +kernel
theorem dX4_passTick_45 : decode cX4_passTick 45 = .ok (.ifCond .ne 8, 3) := by decide +kernel
theorem dX4_passTick_48 : decode cX4_passTick 48 = .ok (.iload_n 1, 1) := by decide +kernel
theorem dX4_passTick_49 : decode cX4_passTick 49 = .ok (.iconst (-1), 1) := by decide +kernel
theorem dX4_passTick_50 : decode cX4_passTick 50 = .ok (.if_icmp .ne 13, 3) := by decide +kernel
theorem dX4_passTick_53 : decode cX4_passTick 53 = .ok (.aload_n 0, 1) := by decide +kernel
theorem dX4_passTick_54 : decode cX4_passTick 54 = .ok (.getfield 22, 3) := by decide +kernel
theorem dX4_passTick_57 : decode cX4_passTick 57 = .ok (.invokevirtual 121, 3) := by decide +kernel
theorem dX4_passTick_60 : decode cX4_passTick 60 = .ok (.goto 25, 3) := by decide +kernel
theorem dX4_passTick_63 : decode cX4_passTick 63 = .ok (.aload_n 0, 1) := by decide +kernel
theorem dX4_passTick_64 : decode cX4_passTick 64 = .ok (.getfield 22, 3) := by decide +kernel
theorem dX4_passTick_67 : decode cX4_passTick 67 = .ok (.iload_n 1, 1) := by decide +kernel
theorem dX4_passTick_68 : decode cX4_passTick 68 = .ok (.invokevirtual 124, 3) := by decide +kernel
theorem dX4_passTick_71 : decode cX4_passTick 71 = .ok (.ifCond .eq 14, 3) := by decide +kernel
theorem dX4_passTick_74 : decode cX4_passTick 74 = .ok (.aload_n 0, 1) := by decide +kernel
theorem dX4_passTick_75 : decode cX4_passTick 75 = .ok (.invokevirtual 128, 3) := by decide +kernel
theorem dX4_passTick_78 : decode cX4_passTick 78 = .ok (.ifCond .eq 7, 3) := by decide +kernel
theorem dX4_passTick_81 : decode cX4_passTick 81 = .ok (.aload_n 0, 1) := by decide +kernel
theorem dX4_passTick_82 : decode cX4_passTick 82 = .ok (.invokevirtual 131, 3) := by decide +kernel
theorem dX4_passTick_85 : decode cX4_passTick 85 = .ok (.aload_n 0, 1) := by decide +kernel
theorem dX4_passTick_86 : decode cX4_passTick 86 = .ok (.iload_n 1, 1) := by decide +kernel
theorem dX4_passTick_87 : decode cX4_passTick 87 = .ok (.iconst (-1), 1) := by decide +kernel
theorem dX4_passTick_88 : decode cX4_passTick 88 = .ok (.if_icmp .ne 17, 3) := by decide +kernel
theorem dX4_passTick_91 : decode cX4_passTick 91 = .ok (.iload_n 3, 1) := by decide +kernel
theorem dX4_passTick_92 : decode cX4_passTick 92 = .ok (.iconst (-1), 1) := by decide +kernel
theorem dX4_passTick_93 : decode cX4_passTick 93 = .ok (.if_icmp .ne 12, 3) := by decide +kernel
theorem dX4_passTick_96 : decode cX4_passTick 96 = .ok (.aload_n 0, 1) := by decide +kernel
theorem dX4_passTick_97 : decode cX4_passTick 97 = .ok (.getfield 134, 3) := by decide +kernel
theorem dX4_passTick_100 : decode cX4_passTick 100 = .ok (.iconst 1, 1) := by decide +kernel
theorem dX4_passTick_101 : decode cX4_passTick 101 = .ok (.iadd, 1) := by decide +kernel
theorem dX4_passTick_102 : decode cX4_passTick 102 = .ok (.goto 4, 3) := by decide +kernel
theorem dX4_passTick_105 : decode cX4_passTick 105 = .ok (.iconst 0, 1) := by decide +kernel
theorem dX4_passTick_106 : decode cX4_passTick 106 = .ok (.putfield 134, 3) := by decide +kernel
theorem dX4_passTick_109 : decode cX4_passTick 109 = .ok (.aload_n 0, 1) := by decide +kernel
theorem dX4_passTick_110 : decode cX4_passTick 110 = .ok (.dup, 1) := by decide +kernel
theorem dX4_passTick_111 : decode cX4_passTick 111 = .ok (.getfield 101, 3) := by decide +kernel
theorem dX4_passTick_114 : decode cX4_passTick 114 = .ok (.iconst 1, 1) := by decide +kernel
theorem dX4_passTick_115 : decode cX4_passTick 115 = .ok (.iadd, 1) := by decide +kernel
theorem dX4_passTick_116 : decode cX4_passTick 116 = .ok (.putfield 101, 3) := by decide +kernel
theorem dX4_passTick_119 : decode cX4_passTick 119 = .ok (.return_, 1) := by decide +kernel
theorem dX4_burstIsDue_0 : decode cX4_burstIsDue 0 = .ok (.aload_n 0, 1) := by decide +kernel
theorem dX4_burstIsDue_1 : decode cX4_burstIsDue 1 = .ok (.getfield 15, 3) := by decide +kernel
theorem dX4_burstIsDue_4 : decode cX4_burstIsDue 4 = .ok (.getfield 80, 3) := by decide +kernel
theorem dX4_burstIsDue_7 : decode cX4_burstIsDue 7 = .ok (.ifCond .eq 26, 3) := by decide +kernel
theorem dX4_burstIsDue_10 : decode cX4_burstIsDue 10 = .ok (.aload_n 0, 1) := by decide +kernel
theorem dX4_burstIsDue_11 : decode cX4_burstIsDue 11 = .ok (.getfield 134, 3) := by decide +kernel
theorem dX4_burstIsDue_14 : decode cX4_burstIsDue 14 = .ok (.bipush 8, 2) := by decide +kernel
theorem dX4_burstIsDue_16 : decode cX4_burstIsDue 16 = .ok (.if_icmp .lt 17, 3) := by decide +kernel
theorem dX4_burstIsDue_19 : decode cX4_burstIsDue 19 = .ok (.aload_n 0, 1) := by decide +kernel
theorem dX4_burstIsDue_20 : decode cX4_burstIsDue 20 = .ok (.getfield 29, 3) := by decide +kernel
theorem dX4_burstIsDue_23 : decode cX4_burstIsDue 23 = .ok (.invokevirtual 111, 3) := by decide +kernel
theorem dX4_burstIsDue_26 : decode cX4_burstIsDue 26 = .ok (.ifCond .ne 7, 3) := by decide +kernel
theorem dX4_burstIsDue_29 : decode cX4_burstIsDue 29 = .ok (.iconst 1, 1) := by decide +kernel
theorem dX4_burstIsDue_30 : decode cX4_burstIsDue 30 = .ok (.goto 4, 3) := by decide +kernel
theorem dX4_burstIsDue_33 : decode cX4_burstIsDue 33 = .ok (.iconst 0, 1) := by decide +kernel
theorem dX4_burstIsDue_34 : decode cX4_burstIsDue 34 = .ok (.ireturn, 1) := by decide +kernel
theorem dX4_beginBurst_0 : decode cX4_beginBurst 0 = .ok (.aload_n 0, 1) := by decide +kernel
theorem dX4_beginBurst_1 : decode cX4_beginBurst 1 = .ok (.dup, 1) := by decide +kernel
theorem dX4_beginBurst_2 : decode cX4_beginBurst 2 = .ok (.getfield 89, 3) := by decide +kernel
theorem dX4_beginBurst_5 : decode cX4_beginBurst 5 = .ok (.iconst 1, 1) := by decide +kernel
theorem dX4_beginBurst_6 : decode cX4_beginBurst 6 = .ok (.iadd, 1) := by decide +kernel
theorem dX4_beginBurst_7 : decode cX4_beginBurst 7 = .ok (.putfield 89, 3) := by decide +kernel
theorem dX4_beginBurst_10 : decode cX4_beginBurst 10 = .ok (.aload_n 0, 1) := by decide +kernel
theorem dX4_beginBurst_11 : decode cX4_beginBurst 11 = .ok (.sipush 129, 3) := by decide +kernel
theorem dX4_beginBurst_14 : decode cX4_beginBurst 14 = .ok (.aload_n 0, 1) := by decide +kernel
theorem dX4_beginBurst_15 : decode cX4_beginBurst 15 = .ok (.getfield 137, 3) := by decide +kernel
theorem dX4_beginBurst_18 : decode cX4_beginBurst 18 = .ok (.aload_n 0, 1) := by decide +kernel
theorem dX4_beginBurst_19 : decode cX4_beginBurst 19 = .ok (.getfield 15, 3) := by decide +kernel
theorem dX4_beginBurst_22 : decode cX4_beginBurst 22 = .ok (.getfield 83, 3) := by decide +kernel
theorem dX4_beginBurst_25 : decode cX4_beginBurst 25 = .ok (.iconst 0, 1) := by decide +kernel
theorem dX4_beginBurst_26 : decode cX4_beginBurst 26 = .ok (.invokevirtual 140, 3) := by decide +kernel
theorem dX4_beginBurst_29 : decode cX4_beginBurst 29 = .ok (.aload_n 0, 1) := by decide +kernel
theorem dX4_beginBurst_30 : decode cX4_beginBurst 30 = .ok (.iconst 1, 1) := by decide +kernel
theorem dX4_beginBurst_31 : decode cX4_beginBurst 31 = .ok (.aload_n 0, 1) := by decide +kernel
theorem dX4_beginBurst_32 : decode cX4_beginBurst 32 = .ok (.getfield 137, 3) := by decide +kernel
theorem dX4_beginBurst_35 : decode cX4_beginBurst 35 = .ok (.isub, 1) := by decide +kernel
theorem dX4_beginBurst_36 : decode cX4_beginBurst 36 = .ok (.putfield 137, 3) := by decide +kernel
theorem dX4_beginBurst_39 : decode cX4_beginBurst 39 = .ok (.return_, 1) := by decide +kernel
theorem dX4_countFrame_0 : decode cX4_countFrame 0 = .ok (.aload_n 0, 1) := by decide +kernel
theorem dX4_countFrame_1 : decode cX4_countFrame 1 = .ok (.getfield 22, 3) := by decide +kernel
theorem dX4_countFrame_4 : decode cX4_countFrame 4 = .ok (.getfield 144, 3) := by decide +kernel
theorem dX4_countFrame_7 : decode cX4_countFrame 7 = .ok (.ifCond .eq 14, 3) := by decide +kernel
theorem dX4_countFrame_10 : decode cX4_countFrame 10 = .ok (.aload_n 0, 1) := by decide +kernel
theorem dX4_countFrame_11 : decode cX4_countFrame 11 = .ok (.invokevirtual 147, 3) := by decide +kernel
theorem dX4_countFrame_14 : decode cX4_countFrame 14 = .ok (.ifCond .eq 7, 3) := by decide +kernel
theorem dX4_countFrame_17 : decode cX4_countFrame 17 = .ok (.iconst 1, 1) := by decide +kernel
theorem dX4_countFrame_18 : decode cX4_countFrame 18 = .ok (.goto 4, 3) := by decide +kernel
theorem dX4_countFrame_21 : decode cX4_countFrame 21 = .ok (.iconst 0, 1) := by decide +kernel
theorem dX4_countFrame_22 : decode cX4_countFrame 22 = .ok (.istore_n 1, 1) := by decide +kernel
theorem dX4_countFrame_23 : decode cX4_countFrame 23 = .ok (.iload_n 1, 1) := by decide +kernel
theorem dX4_countFrame_24 : decode cX4_countFrame 24 = .ok (.ifCond .eq 16, 3) := by decide +kernel
theorem dX4_countFrame_27 : decode cX4_countFrame 27 = .ok (.aload_n 0, 1) := by decide +kernel
theorem dX4_countFrame_28 : decode cX4_countFrame 28 = .ok (.dup, 1) := by decide +kernel
theorem dX4_countFrame_29 : decode cX4_countFrame 29 = .ok (.getfield 92, 3) := by decide +kernel
theorem dX4_countFrame_32 : decode cX4_countFrame 32 = .ok (.iconst 1, 1) := by decide +kernel
theorem dX4_countFrame_33 : decode cX4_countFrame 33 = .ok (.iadd, 1) := by decide +kernel
theorem dX4_countFrame_34 : decode cX4_countFrame 34 = .ok (.putfield 92, 3) := by decide +kernel
theorem dX4_countFrame_37 : decode cX4_countFrame 37 = .ok (.goto 13, 3) := by decide +kernel
theorem dX4_countFrame_40 : decode cX4_countFrame 40 = .ok (.aload_n 0, 1) := by decide +kernel
theorem dX4_countFrame_41 : decode cX4_countFrame 41 = .ok (.dup, 1) := by decide +kernel
theorem dX4_countFrame_42 : decode cX4_countFrame 42 = .ok (.getfield 95, 3) := by decide +kernel
theorem dX4_countFrame_45 : decode cX4_countFrame 45 = .ok (.iconst 1, 1) := by decide +kernel
theorem dX4_countFrame_46 : decode cX4_countFrame 46 = .ok (.iadd, 1) := by decide +kernel
theorem dX4_countFrame_47 : decode cX4_countFrame 47 = .ok (.putfield 95, 3) := by decide +kernel
theorem dX4_countFrame_50 : decode cX4_countFrame 50 = .ok (.iload_n 1, 1) := by decide +kernel
theorem dX4_countFrame_51 : decode cX4_countFrame 51 = .ok (.ireturn, 1) := by decide +kernel
theorem dX4_isForDevice_0 : decode cX4_isForDevice 0 = .ok (.aload_n 0, 1) := by decide +kernel
theorem dX4_isForDevice_1 : decode cX4_isForDevice 1 = .ok (.getfield 22, 3) := by decide +kernel
theorem dX4_isForDevice_4 : decode cX4_isForDevice 4 = .ok (.getfield 150, 3) := by decide +kernel
theorem dX4_isForDevice_7 : decode cX4_isForDevice 7 = .ok (.ifCond .ne 26, 3) := by decide +kernel
theorem dX4_isForDevice_10 : decode cX4_isForDevice 10 = .ok (.aload_n 0, 1) := by decide +kernel
theorem dX4_isForDevice_11 : decode cX4_isForDevice 11 = .ok (.getfield 22, 3) := by decide +kernel
theorem dX4_isForDevice_14 : decode cX4_isForDevice 14 = .ok (.invokevirtual 153, 3) := by decide +kernel
theorem dX4_isForDevice_17 : decode cX4_isForDevice 17 = .ok (.aload_n 0, 1) := by decide +kernel
theorem dX4_isForDevice_18 : decode cX4_isForDevice 18 = .ok (.getfield 15, 3) := by decide +kernel
theorem dX4_isForDevice_21 : decode cX4_isForDevice 21 = .ok (.getfield 68, 3) := by decide +kernel
theorem dX4_isForDevice_24 : decode cX4_isForDevice 24 = .ok (.if_icmp .ne 7, 3) := by decide +kernel
theorem dX4_isForDevice_27 : decode cX4_isForDevice 27 = .ok (.iconst 1, 1) := by decide +kernel
theorem dX4_isForDevice_28 : decode cX4_isForDevice 28 = .ok (.goto 4, 3) := by decide +kernel
theorem dX4_isForDevice_31 : decode cX4_isForDevice 31 = .ok (.iconst 0, 1) := by decide +kernel
theorem dX4_isForDevice_32 : decode cX4_isForDevice 32 = .ok (.ireturn, 1) := by decide +kernel
theorem dX4_isForDevice_33 : decode cX4_isForDevice 33 = .ok (.aload_n 0, 1) := by decide +kernel
theorem dX4_isForDevice_34 : decode cX4_isForDevice 34 = .ok (.invokevirtual 156, 3) := by decide +kernel
theorem dX4_isForDevice_37 : decode cX4_isForDevice 37 = .ok (.ifCond .ne 34, 3) := by decide +kernel
theorem dX4_isForDevice_40 : decode cX4_isForDevice 40 = .ok (.aload_n 0, 1) := by decide +kernel
theorem dX4_isForDevice_41 : decode cX4_isForDevice 41 = .ok (.getfield 15, 3) := by decide +kernel
theorem dX4_isForDevice_44 : decode cX4_isForDevice 44 = .ok (.aload_n 0, 1) := by decide +kernel
theorem dX4_isForDevice_45 : decode cX4_isForDevice 45 = .ok (.getfield 22, 3) := by decide +kernel
theorem dX4_isForDevice_48 : decode cX4_isForDevice 48 = .ok (.invokevirtual 153, 3) := by decide +kernel
theorem dX4_isForDevice_51 : decode cX4_isForDevice 51 = .ok (.aload_n 0, 1) := by decide +kernel
theorem dX4_isForDevice_52 : decode cX4_isForDevice 52 = .ok (.getfield 22, 3) := by decide +kernel
theorem dX4_isForDevice_55 : decode cX4_isForDevice 55 = .ok (.invokevirtual 159, 3) := by decide +kernel
theorem dX4_isForDevice_58 : decode cX4_isForDevice 58 = .ok (.aload_n 0, 1) := by decide +kernel
theorem dX4_isForDevice_59 : decode cX4_isForDevice 59 = .ok (.getfield 22, 3) := by decide +kernel
theorem dX4_isForDevice_62 : decode cX4_isForDevice 62 = .ok (.invokevirtual 162, 3) := by decide +kernel
theorem dX4_isForDevice_65 : decode cX4_isForDevice 65 = .ok (.invokevirtual 165, 3) := by decide +kernel
theorem dX4_isForDevice_68 : decode cX4_isForDevice 68 = .ok (.ifCond .eq 7, 3) := by decide +kernel
theorem dX4_isForDevice_71 : decode cX4_isForDevice 71 = .ok (.iconst 1, 1) := by decide +kernel
theorem dX4_isForDevice_72 : decode cX4_isForDevice 72 = .ok (.goto 4, 3) := by decide +kernel
theorem dX4_isForDevice_75 : decode cX4_isForDevice 75 = .ok (.iconst 0, 1) := by decide +kernel
theorem dX4_isForDevice_76 : decode cX4_isForDevice 76 = .ok (.ireturn, 1) := by decide +kernel
theorem dX4_isBroadcast_0 : decode cX4_isBroadcast 0 = .ok (.aload_n 0, 1) := by decide +kernel
theorem dX4_isBroadcast_1 : decode cX4_isBroadcast 1 = .ok (.getfield 22, 3) := by decide +kernel
theorem dX4_isBroadcast_4 : decode cX4_isBroadcast 4 = .ok (.getfield 150, 3) := by decide +kernel
theorem dX4_isBroadcast_7 : decode cX4_isBroadcast 7 = .ok (.ifCond .eq 49, 3) := by decide +kernel
theorem dX4_isBroadcast_10 : decode cX4_isBroadcast 10 = .ok (.aload_n 0, 1) := by decide +kernel
theorem dX4_isBroadcast_11 : decode cX4_isBroadcast 11 = .ok (.getfield 22, 3) := by decide +kernel
theorem dX4_isBroadcast_14 : decode cX4_isBroadcast 14 = .ok (.getfield 169, 3) := by decide +kernel
theorem dX4_isBroadcast_17 : decode cX4_isBroadcast 17 = .ok (.bipush 11, 2) := by decide +kernel
theorem dX4_isBroadcast_19 : decode cX4_isBroadcast 19 = .ok (.if_icmp .ne 37, 3) := by decide +kernel
theorem dX4_isBroadcast_22 : decode cX4_isBroadcast 22 = .ok (.aload_n 0, 1) := by decide +kernel
theorem dX4_isBroadcast_23 : decode cX4_isBroadcast 23 = .ok (.getfield 22, 3) := by decide +kernel
theorem dX4_isBroadcast_26 : decode cX4_isBroadcast 26 = .ok (.invokevirtual 153, 3) := by decide +kernel
theorem dX4_isBroadcast_29 : decode cX4_isBroadcast 29 = .ok (.ifCond .ne 27, 3) := by decide +kernel
theorem dX4_isBroadcast_32 : decode cX4_isBroadcast 32 = .ok (.aload_n 0, 1) := by decide +kernel
theorem dX4_isBroadcast_33 : decode cX4_isBroadcast 33 = .ok (.getfield 22, 3) := by decide +kernel
theorem dX4_isBroadcast_36 : decode cX4_isBroadcast 36 = .ok (.invokevirtual 159, 3) := by decide +kernel
theorem dX4_isBroadcast_39 : decode cX4_isBroadcast 39 = .ok (.ifCond .ne 17, 3) := by decide +kernel
theorem dX4_isBroadcast_42 : decode cX4_isBroadcast 42 = .ok (.aload_n 0, 1) := by decide +kernel
theorem dX4_isBroadcast_43 : decode cX4_isBroadcast 43 = .ok (.getfield 22, 3) := by decide +kernel
theorem dX4_isBroadcast_46 : decode cX4_isBroadcast 46 = .ok (.invokevirtual 162, 3) := by decide +kernel
theorem dX4_isBroadcast_49 : decode cX4_isBroadcast 49 = .ok (.ifCond .ne 7, 3) := by decide +kernel
theorem dX4_isBroadcast_52 : decode cX4_isBroadcast 52 = .ok (.iconst 1, 1) := by decide +kernel
theorem dX4_isBroadcast_53 : decode cX4_isBroadcast 53 = .ok (.goto 4, 3) := by decide +kernel
theorem dX4_isBroadcast_56 : decode cX4_isBroadcast 56 = .ok (.iconst 0, 1) := by decide +kernel
theorem dX4_isBroadcast_57 : decode cX4_isBroadcast 57 = .ok (.ireturn, 1) := by decide +kernel
theorem dX4_answerFrame_0 : decode cX4_answerFrame 0 = .ok (.aload_n 0, 1) := by decide +kernel
theorem dX4_answerFrame_1 : decode cX4_answerFrame 1 = .ok (.invokevirtual 172, 3) := by decide +kernel
theorem dX4_answerFrame_4 : decode cX4_answerFrame 4 = .ok (.istore_n 1, 1) := by decide +kernel
theorem dX4_answerFrame_5 : decode cX4_answerFrame 5 = .ok (.iload_n 1, 1) := by decide +kernel
theorem dX4_answerFrame_6 : decode cX4_answerFrame 6 = .ok (.ifCond .eq 11, 3) := by decide +kernel
theorem dX4_answerFrame_9 : decode cX4_answerFrame 9 = .ok (.aload_n 0, 1) := by decide +kernel
theorem dX4_answerFrame_10 : decode cX4_answerFrame 10 = .ok (.invokevirtual 156, 3) := by decide +kernel
theorem dX4_answerFrame_13 : decode cX4_answerFrame 13 = .ok (.ifCond .eq 4, 3) := by decide +kernel
theorem dX4_answerFrame_16 : decode cX4_answerFrame 16 = .ok (.return_, 1) := by decide +kernel
theorem dX4_answerFrame_17 : decode cX4_answerFrame 17 = .ok (.aload_n 0, 1) := by decide +kernel
theorem dX4_answerFrame_18 : decode cX4_answerFrame 18 = .ok (.dup, 1) := by decide +kernel
theorem dX4_answerFrame_19 : decode cX4_answerFrame 19 = .ok (.getfield 86, 3) := by decide +kernel
theorem dX4_answerFrame_22 : decode cX4_answerFrame 22 = .ok (.iconst 1, 1) := by decide +kernel
theorem dX4_answerFrame_23 : decode cX4_answerFrame 23 = .ok (.iadd, 1) := by decide +kernel
theorem dX4_answerFrame_24 : decode cX4_answerFrame 24 = .ok (.putfield 86, 3) := by decide +kernel
theorem dX4_answerFrame_27 : decode cX4_answerFrame 27 = .ok (.aload_n 0, 1) := by decide +kernel
theorem dX4_answerFrame_28 : decode cX4_answerFrame 28 = .ok (.getfield 22, 3) := by decide +kernel
theorem dX4_answerFrame_31 : decode cX4_answerFrame 31 = .ok (.invokevirtual 175, 3) := by decide +kernel
theorem dX4_answerFrame_34 : decode cX4_answerFrame 34 = .ok (.istore_n 2, 1) := by decide +kernel
theorem dX4_answerFrame_35 : decode cX4_answerFrame 35 = .ok (.iload_n 1, 1) := by decide +kernel
theorem dX4_answerFrame_36 : decode cX4_answerFrame 36 = .ok (.ifCond .ne 15, 3) := by decide +kernel
theorem dX4_answerFrame_39 : decode cX4_answerFrame 39 = .ok (.aload_n 0, 1) := by decide +kernel
theorem dX4_answerFrame_40 : decode cX4_answerFrame 40 = .ok (.aload_n 0, 1) := by decide +kernel
theorem dX4_answerFrame_41 : decode cX4_answerFrame 41 = .ok (.getfield 22, 3) := by decide +kernel
theorem dX4_answerFrame_44 : decode cX4_answerFrame 44 = .ok (.getfield 169, 3) := by decide +kernel
theorem dX4_answerFrame_47 : decode cX4_answerFrame 47 = .ok (.iload_n 2, 1) := by decide +kernel
theorem dX4_answerFrame_48 : decode cX4_answerFrame 48 = .ok (.invokevirtual 178, 3) := by decide +kernel
theorem dX4_answerFrame_51 : decode cX4_answerFrame 51 = .ok (.aload_n 0, 1) := by decide +kernel
theorem dX4_answerFrame_52 : decode cX4_answerFrame 52 = .ok (.aload_n 0, 1) := by decide +kernel
theorem dX4_answerFrame_53 : decode cX4_answerFrame 53 = .ok (.getfield 22, 3) := by decide +kernel
theorem dX4_answerFrame_56 : decode cX4_answerFrame 56 = .ok (.getfield 150, 3) := by decide +kernel
theorem dX4_answerFrame_59 : decode cX4_answerFrame 59 = .ok (.ifCond .eq 9, 3) := by decide +kernel
theorem dX4_answerFrame_62 : decode cX4_answerFrame 62 = .ok (.sipush 134, 3) := by decide +kernel
theorem dX4_answerFrame_65 : decode cX4_answerFrame 65 = .ok (.goto 5, 3) := by decide +kernel
theorem dX4_answerFrame_68 : decode cX4_answerFrame 68 = .ok (.bipush 6, 2) := by decide +kernel
theorem dX4_answerFrame_70 : decode cX4_answerFrame 70 = .ok (.iload_n 2, 1) := by decide +kernel
theorem dX4_answerFrame_71 : decode cX4_answerFrame 71 = .ok (.aload_n 0, 1) := by decide +kernel
theorem dX4_answerFrame_72 : decode cX4_answerFrame 72 = .ok (.getfield 22, 3) := by decide +kernel
theorem dX4_answerFrame_75 : decode cX4_answerFrame 75 = .ok (.getfield 169, 3) := by decide +kernel
theorem dX4_answerFrame_78 : decode cX4_answerFrame 78 = .ok (.iload_n 1, 1) := by decide +kernel
theorem dX4_answerFrame_79 : decode cX4_answerFrame 79 = .ok (.invokevirtual 140, 3) := by decide +kernel
theorem dX4_answerFrame_82 : decode cX4_answerFrame 82 = .ok (.aload_n 0, 1) := by decide +kernel
theorem dX4_answerFrame_83 : decode cX4_answerFrame 83 = .ok (.getfield 29, 3) := by decide +kernel
theorem dX4_answerFrame_86 : decode cX4_answerFrame 86 = .ok (.invokevirtual 181, 3) := by decide +kernel
theorem dX4_answerFrame_89 : decode cX4_answerFrame 89 = .ok (.aload_n 0, 1) := by decide +kernel
theorem dX4_answerFrame_90 : decode cX4_answerFrame 90 = .ok (.getfield 15, 3) := by decide +kernel
theorem dX4_answerFrame_93 : decode cX4_answerFrame 93 = .ok (.dup, 1) := by decide +kernel
theorem dX4_answerFrame_94 : decode cX4_answerFrame 94 = .ok (.getfield 184, 3) := by decide +kernel
theorem dX4_answerFrame_97 : decode cX4_answerFrame 97 = .ok (.iconst 1, 1) := by decide +kernel
theorem dX4_answerFrame_98 : decode cX4_answerFrame 98 = .ok (.iload_n 2, 1) := by decide +kernel
theorem dX4_answerFrame_99 : decode cX4_answerFrame 99 = .ok (.ishl, 1) := by decide +kernel
theorem dX4_answerFrame_100 : decode cX4_answerFrame 100 = .ok (.iconst (-1), 1) := by decide +kernel
theorem dX4_answerFrame_101 : decode cX4_answerFrame 101 = .ok (.ixor, 1) := by decide +kernel
theorem dX4_answerFrame_102 : decode cX4_answerFrame 102 = .ok (.iand, 1) := by decide +kernel
theorem dX4_answerFrame_103 : decode cX4_answerFrame 103 = .ok (.putfield 184, 3) := by decide +kernel
theorem dX4_answerFrame_106 : decode cX4_answerFrame 106 = .ok (.return_, 1) := by decide +kernel
theorem dX4_countOfCommand_0 : decode cX4_countOfCommand 0 = .ok (.iload_n 0, 1) := by decide +kernel
theorem dX4_countOfCommand_1 : decode cX4_countOfCommand 1 = .ok (.lookupswitch 125 #[(0, 115), (1, 115), (2, 115), (3, 115), (6, 117), (11, 119), (13, 115), (18, 119), (35, 122), (38, 115), (48, 115), (108, 117), (109, 117)], 115) := by decide +kernel
theorem dX4_countOfCommand_116 : decode cX4_countOfCommand 116 = .ok (.iconst 0, 1) := by decide +kernel
theorem dX4_countOfCommand_117 : decode cX4_countOfCommand 117 = .ok (.ireturn, 1) := by decide +kernel
theorem dX4_countOfCommand_118 : decode cX4_countOfCommand 118 = .ok (.iconst 1, 1) := by decide +kernel
theorem dX4_countOfCommand_119 : decode cX4_countOfCommand 119 = .ok (.ireturn, 1) := by decide +kernel
theorem dX4_countOfCommand_120 : decode cX4_countOfCommand 120 = .ok (.bipush 6, 2) := by decide +kernel
theorem dX4_countOfCommand_122 : decode cX4_countOfCommand 122 = .ok (.ireturn, 1) := by decide +kernel
theorem dX4_countOfCommand_123 : decode cX4_countOfCommand 123 = .ok (.bipush 9, 2) := by decide +kernel
theorem dX4_countOfCommand_125 : decode cX4_countOfCommand 125 = .ok (.ireturn, 1) := by decide +kernel
theorem dX4_countOfCommand_126 : decode cX4_countOfCommand 126 = .ok (.iconst (-1), 1) := by decide +kernel
theorem dX4_countOfCommand_127 : decode cX4_countOfCommand 127 = .ok (.ireturn, 1) := by decide +kernel
theorem dX4_codeOfFrame_0 : decode cX4_codeOfFrame 0 = .ok (.aload_n 0, 1) := by decide +kernel
theorem dX4_codeOfFrame_1 : decode cX4_codeOfFrame 1 = .ok (.getfield 22, 3) := by decide +kernel
theorem dX4_codeOfFrame_4 : decode cX4_codeOfFrame 4 = .ok (.getfield 169, 3) := by decide +kernel
theorem dX4_codeOfFrame_7 : decode cX4_codeOfFrame 7 = .ok (.invokestatic 187, 3) := by decide +kernel
theorem dX4_codeOfFrame_10 : decode cX4_codeOfFrame 10 = .ok (.istore_n 1, 1) := by decide +kernel
theorem dX4_codeOfFrame_11 : decode cX4_codeOfFrame 11 = .ok (.iload_n 1, 1) := by decide +kernel
theorem dX4_codeOfFrame_12 : decode cX4_codeOfFrame 12 = .ok (.iconst (-1), 1) := by decide +kernel
theorem dX4_codeOfFrame_13 : decode cX4_codeOfFrame 13 = .ok (.if_icmp .ne 6, 3) := by decide +kernel
theorem dX4_codeOfFrame_16 : decode cX4_codeOfFrame 16 = .ok (.bipush 64, 2) := by decide +kernel
theorem dX4_codeOfFrame_18 : decode cX4_codeOfFrame 18 = .ok (.ireturn, 1) := by decide +kernel
theorem dX4_codeOfFrame_19 : decode cX4_codeOfFrame 19 = .ok (.aload_n 0, 1) := by decide +kernel
theorem dX4_codeOfFrame_20 : decode cX4_codeOfFrame 20 = .ok (.getfield 22, 3) := by decide +kernel
theorem dX4_codeOfFrame_23 : decode cX4_codeOfFrame 23 = .ok (.getfield 190, 3) := by decide +kernel
theorem dX4_codeOfFrame_26 : decode cX4_codeOfFrame 26 = .ok (.iload_n 1, 1) := by decide +kernel
theorem dX4_codeOfFrame_27 : decode cX4_codeOfFrame 27 = .ok (.if_icmp .eq 5, 3) := by decide +kernel
theorem dX4_codeOfFrame_30 : decode cX4_codeOfFrame 30 = .ok (.iconst 5, 1) := by decide +kernel
theorem dX4_codeOfFrame_31 : decode cX4_codeOfFrame 31 = .ok (.ireturn, 1) := by decide +kernel
theorem dX4_codeOfFrame_32 : decode cX4_codeOfFrame 32 = .ok (.aload_n 0, 1) := by decide +kernel
theorem dX4_codeOfFrame_33 : decode cX4_codeOfFrame 33 = .ok (.getfield 22, 3) := by decide +kernel
theorem dX4_codeOfFrame_36 : decode cX4_codeOfFrame 36 = .ok (.iconst 0, 1) := by decide +kernel
theorem dX4_codeOfFrame_37 : decode cX4_codeOfFrame 37 = .ok (.invokevirtual 193, 3) := by decide +kernel
theorem dX4_codeOfFrame_40 : decode cX4_codeOfFrame 40 = .ok (.istore_n 2, 1) := by decide +kernel
theorem dX4_codeOfFrame_41 : decode cX4_codeOfFrame 41 = .ok (.aload_n 0, 1) := by decide +kernel
theorem dX4_codeOfFrame_42 : decode cX4_codeOfFrame 42 = .ok (.getfield 22, 3) := by decide +kernel
theorem dX4_codeOfFrame_45 : decode cX4_codeOfFrame 45 = .ok (.getfield 169, 3) := by decide +kernel
theorem dX4_codeOfFrame_48 : decode cX4_codeOfFrame 48 = .ok (.lookupswitch 125 #[(6, 52), (11, 64), (35, 78), (108, 98), (109, 114)], 52) := by decide +kernel
theorem dX4_codeOfFrame_100 : decode cX4_codeOfFrame 100 = .ok (.iload_n 2, 1) := by decide +kernel
theorem dX4_codeOfFrame_101 : decode cX4_codeOfFrame 101 = .ok (.bipush 15, 2) := by decide +kernel
theorem dX4_codeOfFrame_103 : decode cX4_codeOfFrame 103 = .ok (.if_icmp .le 7, 3) := by decide +kernel
theorem dX4_codeOfFrame_106 : decode cX4_codeOfFrame 106 = .ok (.iconst 2, 1) := by decide +kernel
theorem dX4_codeOfFrame_107 : decode cX4_codeOfFrame 107 = .ok (.goto 4, 3) := by decide +kernel
theorem dX4_codeOfFrame_110 : decode cX4_codeOfFrame 110 = .ok (.iconst 0, 1) := by decide +kernel
theorem dX4_codeOfFrame_111 : decode cX4_codeOfFrame 111 = .ok (.ireturn, 1) := by decide +kernel
theorem dX4_codeOfFrame_112 : decode cX4_codeOfFrame 112 = .ok (.aload_n 0, 1) := by decide +kernel
theorem dX4_codeOfFrame_113 : decode cX4_codeOfFrame 113 = .ok (.invokevirtual 196, 3) := by decide +kernel
theorem dX4_codeOfFrame_116 : decode cX4_codeOfFrame 116 = .ok (.ifCond .eq 7, 3) := by decide +kernel
theorem dX4_codeOfFrame_119 : decode cX4_codeOfFrame 119 = .ok (.iconst 0, 1) := by decide +kernel
theorem dX4_codeOfFrame_120 : decode cX4_codeOfFrame 120 = .ok (.goto 5, 3) := by decide +kernel
theorem dX4_codeOfFrame_123 : decode cX4_codeOfFrame 123 = .ok (.bipush 65, 2) := by decide +kernel
theorem dX4_codeOfFrame_125 : decode cX4_codeOfFrame 125 = .ok (.ireturn, 1) := by decide +kernel
theorem dX4_codeOfFrame_126 : decode cX4_codeOfFrame 126 = .ok (.aload_n 0, 1) := by decide +kernel
theorem dX4_codeOfFrame_127 : decode cX4_codeOfFrame 127 = .ok (.getfield 22, 3) := by decide +kernel
theorem dX4_codeOfFrame_130 : decode cX4_codeOfFrame 130 = .ok (.iconst 1, 1) := by decide +kernel
theorem dX4_codeOfFrame_131 : decode cX4_codeOfFrame 131 = .ok (.invokevirtual 199, 3) := by decide +kernel
theorem dX4_codeOfFrame_134 : decode cX4_codeOfFrame 134 = .ok (.aload_n 0, 1) := by decide +kernel
theorem dX4_codeOfFrame_135 : decode cX4_codeOfFrame 135 = .ok (.getfield 22, 3) := by decide +kernel
theorem dX4_codeOfFrame_138 : decode cX4_codeOfFrame 138 = .ok (.iconst 5, 1) := by decide +kernel
theorem dX4_codeOfFrame_139 : decode cX4_codeOfFrame 139 = .ok (.invokevirtual 199, 3) := by decide +kernel
theorem dX4_codeOfFrame_142 : decode cX4_codeOfFrame 142 = .ok (.invokestatic 202, 3) := by decide +kernel
theorem dX4_codeOfFrame_145 : decode cX4_codeOfFrame 145 = .ok (.ireturn, 1) := by decide +kernel
theorem dX4_codeOfFrame_146 : decode cX4_codeOfFrame 146 = .ok (.iload_n 2, 1) := by decide +kernel
theorem dX4_codeOfFrame_147 : decode cX4_codeOfFrame 147 = .ok (.iconst 1, 1) := by decide +kernel
theorem dX4_codeOfFrame_148 : decode cX4_codeOfFrame 148 = .ok (.if_icmp .lt 8, 3) := by decide +kernel
theorem dX4_codeOfFrame_151 : decode cX4_codeOfFrame 151 = .ok (.iload_n 2, 1) := by decide +kernel
theorem dX4_codeOfFrame_152 : decode cX4_codeOfFrame 152 = .ok (.iconst 3, 1) := by decide +kernel
theorem dX4_codeOfFrame_153 : decode cX4_codeOfFrame 153 = .ok (.if_icmp .le 7, 3) := by decide +kernel
theorem dX4_codeOfFrame_156 : decode cX4_codeOfFrame 156 = .ok (.iconst 2, 1) := by decide +kernel
theorem dX4_codeOfFrame_157 : decode cX4_codeOfFrame 157 = .ok (.goto 4, 3) := by decide +kernel
theorem dX4_codeOfFrame_160 : decode cX4_codeOfFrame 160 = .ok (.iconst 0, 1) := by decide +kernel
theorem dX4_codeOfFrame_161 : decode cX4_codeOfFrame 161 = .ok (.ireturn, 1) := by decide +kernel
theorem dX4_codeOfFrame_162 : decode cX4_codeOfFrame 162 = .ok (.iload_n 2, 1) := by decide +kernel
theorem dX4_codeOfFrame_163 : decode cX4_codeOfFrame 163 = .ok (.iconst 1, 1) := by decide +kernel
theorem dX4_codeOfFrame_164 : decode cX4_codeOfFrame 164 = .ok (.if_icmp .le 7, 3) := by decide +kernel
theorem dX4_codeOfFrame_167 : decode cX4_codeOfFrame 167 = .ok (.iconst 2, 1) := by decide +kernel
theorem dX4_codeOfFrame_168 : decode cX4_codeOfFrame 168 = .ok (.goto 4, 3) := by decide +kernel
theorem dX4_codeOfFrame_171 : decode cX4_codeOfFrame 171 = .ok (.iconst 0, 1) := by decide +kernel
theorem dX4_codeOfFrame_172 : decode cX4_codeOfFrame 172 = .ok (.ireturn, 1) := by decide +kernel
theorem dX4_codeOfFrame_173 : decode cX4_codeOfFrame 173 = .ok (.iconst 0, 1) := by decide +kernel
theorem dX4_codeOfFrame_174 : decode cX4_codeOfFrame 174 = .ok (.ireturn, 1) := by decide +kernel
theorem dX4_codeOfEnds_0 : decode cX4_codeOfEnds 0 = .ok (.iload_n 0, 1) := by decide +kernel
theorem dX4_codeOfEnds_1 : decode cX4_codeOfEnds 1 = .ok (.iload_n 1, 1) := by decide +kernel
theorem dX4_codeOfEnds_2 : decode cX4_codeOfEnds 2 = .ok (.if_icmp .ne 6, 3) := by decide +kernel
theorem dX4_codeOfEnds_5 : decode cX4_codeOfEnds 5 = .ok (.bipush 9, 2) := by decide +kernel
theorem dX4_codeOfEnds_7 : decode cX4_codeOfEnds 7 = .ok (.ireturn, 1) := by decide +kernel
theorem dX4_codeOfEnds_8 : decode cX4_codeOfEnds 8 = .ok (.iload_n 0, 1) := by decide +kernel
theorem dX4_codeOfEnds_9 : decode cX4_codeOfEnds 9 = .ok (.iload_n 1, 1) := by decide +kernel
theorem dX4_codeOfEnds_10 : decode cX4_codeOfEnds 10 = .ok (.if_icmp .ge 8, 3) := by decide +kernel
theorem dX4_codeOfEnds_13 : decode cX4_codeOfEnds 13 = .ok (.bipush 11, 2) := by decide +kernel
theorem dX4_codeOfEnds_15 : decode cX4_codeOfEnds 15 = .ok (.goto 4, 3) := by decide +kernel
theorem dX4_codeOfEnds_18 : decode cX4_codeOfEnds 18 = .ok (.iconst 0, 1) := by decide +kernel
theorem dX4_codeOfEnds_19 : decode cX4_codeOfEnds 19 = .ok (.ireturn, 1) := by decide +kernel
theorem dX4_tagIsInFrame_0 : decode cX4_tagIsInFrame 0 = .ok (.iconst 0, 1) := by decide +kernel
theorem dX4_tagIsInFrame_1 : decode cX4_tagIsInFrame 1 = .ok (.istore_n 1, 1) := by decide +kernel
theorem dX4_tagIsInFrame_2 : decode cX4_tagIsInFrame 2 = .ok (.iload_n 1, 1) := by decide +kernel
theorem dX4_tagIsInFrame_3 : decode cX4_tagIsInFrame 3 = .ok (.bipush 6, 2) := by decide +kernel
theorem dX4_tagIsInFrame_5 : decode cX4_tagIsInFrame 5 = .ok (.if_icmp .ge 30, 3) := by decide +kernel
theorem dX4_tagIsInFrame_8 : decode cX4_tagIsInFrame 8 = .ok (.aload_n 0, 1) := by decide +kernel
theorem dX4_tagIsInFrame_9 : decode cX4_tagIsInFrame 9 = .ok (.getfield 22, 3) := by decide +kernel
theorem dX4_tagIsInFrame_12 : decode cX4_tagIsInFrame 12 = .ok (.iload_n 1, 1) := by decide +kernel
theorem dX4_tagIsInFrame_13 : decode cX4_tagIsInFrame 13 = .ok (.invokevirtual 193, 3) := by decide +kernel
theorem dX4_tagIsInFrame_16 : decode cX4_tagIsInFrame 16 = .ok (.aload_n 0, 1) := by decide +kernel
theorem dX4_tagIsInFrame_17 : decode cX4_tagIsInFrame 17 = .ok (.getfield 15, 3) := by decide +kernel
theorem dX4_tagIsInFrame_20 : decode cX4_tagIsInFrame 20 = .ok (.iload_n 1, 1) := by decide +kernel
theorem dX4_tagIsInFrame_21 : decode cX4_tagIsInFrame 21 = .ok (.invokevirtual 98, 3) := by decide +kernel
theorem dX4_tagIsInFrame_24 : decode cX4_tagIsInFrame 24 = .ok (.if_icmp .eq 5, 3) := by decide +kernel
theorem dX4_tagIsInFrame_27 : decode cX4_tagIsInFrame 27 = .ok (.iconst 0, 1) := by decide +kernel
theorem dX4_tagIsInFrame_28 : decode cX4_tagIsInFrame 28 = .ok (.ireturn, 1) := by decide +kernel
theorem dX4_tagIsInFrame_29 : decode cX4_tagIsInFrame 29 = .ok (.iinc 1 1, 3) := by decide +kernel
theorem dX4_tagIsInFrame_32 : decode cX4_tagIsInFrame 32 = .ok (.goto (-30), 3) := by decide +kernel
theorem dX4_tagIsInFrame_35 : decode cX4_tagIsInFrame 35 = .ok (.iconst 1, 1) := by decide +kernel
theorem dX4_tagIsInFrame_36 : decode cX4_tagIsInFrame 36 = .ok (.ireturn, 1) := by decide +kernel
theorem dX4_carryOut_0 : decode cX4_carryOut 0 = .ok (.iload_n 1, 1) := by decide +kernel
theorem dX4_carryOut_1 : decode cX4_carryOut 1 = .ok (.lookupswitch 223 #[(6, 59), (18, 77), (35, 110), (38, 203), (108, 158), (109, 176)], 59) := by decide +kernel
theorem dX4_carryOut_60 : decode cX4_carryOut 60 = .ok (.aload_n 0, 1) := by decide +kernel
theorem dX4_carryOut_61 : decode cX4_carryOut 61 = .ok (.getfield 15, 3) := by decide +kernel
theorem dX4_carryOut_64 : decode cX4_carryOut 64 = .ok (.aload_n 0, 1) := by decide +kernel
theorem dX4_carryOut_65 : decode cX4_carryOut 65 = .ok (.getfield 22, 3) := by decide +kernel
theorem dX4_carryOut_68 : decode cX4_carryOut 68 = .ok (.iconst 0, 1) := by decide +kernel
theorem dX4_carryOut_69 : decode cX4_carryOut 69 = .ok (.invokevirtual 193, 3) := by decide +kernel
theorem dX4_carryOut_72 : decode cX4_carryOut 72 = .ok (.putfield 68, 3) := by decide +kernel
theorem dX4_carryOut_75 : decode cX4_carryOut 75 = .ok (.goto 149, 3) := by decide +kernel
theorem dX4_carryOut_78 : decode cX4_carryOut 78 = .ok (.iconst 0, 1) := by decide +kernel
theorem dX4_carryOut_79 : decode cX4_carryOut 79 = .ok (.istore_n 3, 1) := by decide +kernel
theorem dX4_carryOut_80 : decode cX4_carryOut 80 = .ok (.iload_n 3, 1) := by decide +kernel
theorem dX4_carryOut_81 : decode cX4_carryOut 81 = .ok (.bipush 6, 2) := by decide +kernel
theorem dX4_carryOut_83 : decode cX4_carryOut 83 = .ok (.if_icmp .ge 25, 3) := by decide +kernel
theorem dX4_carryOut_86 : decode cX4_carryOut 86 = .ok (.aload_n 0, 1) := by decide +kernel
theorem dX4_carryOut_87 : decode cX4_carryOut 87 = .ok (.getfield 15, 3) := by decide +kernel
theorem dX4_carryOut_90 : decode cX4_carryOut 90 = .ok (.iload_n 3, 1) := by decide +kernel
theorem dX4_carryOut_91 : decode cX4_carryOut 91 = .ok (.aload_n 0, 1) := by decide +kernel
theorem dX4_carryOut_92 : decode cX4_carryOut 92 = .ok (.getfield 22, 3) := by decide +kernel
theorem dX4_carryOut_95 : decode cX4_carryOut 95 = .ok (.iload_n 3, 1) := by decide +kernel
theorem dX4_carryOut_96 : decode cX4_carryOut 96 = .ok (.invokevirtual 193, 3) := by decide +kernel
theorem dX4_carryOut_99 : decode cX4_carryOut 99 = .ok (.invokevirtual 206, 3) := by decide +kernel
theorem dX4_carryOut_102 : decode cX4_carryOut 102 = .ok (.iinc 3 1, 3) := by decide +kernel
theorem dX4_carryOut_105 : decode cX4_carryOut 105 = .ok (.goto (-25), 3) := by decide +kernel
theorem dX4_carryOut_108 : decode cX4_carryOut 108 = .ok (.goto 116, 3) := by decide +kernel
theorem dX4_carryOut_111 : decode cX4_carryOut 111 = .ok (.aload_n 0, 1) := by decide +kernel
theorem dX4_carryOut_112 : decode cX4_carryOut 112 = .ok (.getfield 15, 3) := by decide +kernel
theorem dX4_carryOut_115 : decode cX4_carryOut 115 = .ok (.aload_n 0, 1) := by decide +kernel
theorem dX4_carryOut_116 : decode cX4_carryOut 116 = .ok (.getfield 22, 3) := by decide +kernel
theorem dX4_carryOut_119 : decode cX4_carryOut 119 = .ok (.iconst 0, 1) := by decide +kernel
theorem dX4_carryOut_120 : decode cX4_carryOut 120 = .ok (.invokevirtual 193, 3) := by decide +kernel
theorem dX4_carryOut_123 : decode cX4_carryOut 123 = .ok (.putfield 71, 3) := by decide +kernel
theorem dX4_carryOut_126 : decode cX4_carryOut 126 = .ok (.aload_n 0, 1) := by decide +kernel
theorem dX4_carryOut_127 : decode cX4_carryOut 127 = .ok (.getfield 15, 3) := by decide +kernel
theorem dX4_carryOut_130 : decode cX4_carryOut 130 = .ok (.aload_n 0, 1) := by decide +kernel
theorem dX4_carryOut_131 : decode cX4_carryOut 131 = .ok (.getfield 22, 3) := by decide +kernel
theorem dX4_carryOut_134 : decode cX4_carryOut 134 = .ok (.iconst 1, 1) := by decide +kernel
theorem dX4_carryOut_135 : decode cX4_carryOut 135 = .ok (.invokevirtual 199, 3) := by decide +kernel
theorem dX4_carryOut_138 : decode cX4_carryOut 138 = .ok (.putfield 77, 3) := by decide +kernel
theorem dX4_carryOut_141 : decode cX4_carryOut 141 = .ok (.aload_n 0, 1) := by decide +kernel
theorem dX4_carryOut_142 : decode cX4_carryOut 142 = .ok (.getfield 15, 3) := by decide +kernel
theorem dX4_carryOut_145 : decode cX4_carryOut 145 = .ok (.aload_n 0, 1) := by decide +kernel
theorem dX4_carryOut_146 : decode cX4_carryOut 146 = .ok (.getfield 22, 3) := by decide +kernel
theorem dX4_carryOut_149 : decode cX4_carryOut 149 = .ok (.iconst 5, 1) := by decide +kernel
theorem dX4_carryOut_150 : decode cX4_carryOut 150 = .ok (.invokevirtual 199, 3) := by decide +kernel
theorem dX4_carryOut_153 : decode cX4_carryOut 153 = .ok (.putfield 74, 3) := by decide +kernel
theorem dX4_carryOut_156 : decode cX4_carryOut 156 = .ok (.goto 68, 3) := by decide +kernel
theorem dX4_carryOut_159 : decode cX4_carryOut 159 = .ok (.aload_n 0, 1) := by decide +kernel
theorem dX4_carryOut_160 : decode cX4_carryOut 160 = .ok (.getfield 15, 3) := by decide +kernel
theorem dX4_carryOut_163 : decode cX4_carryOut 163 = .ok (.aload_n 0, 1) := by decide +kernel
theorem dX4_carryOut_164 : decode cX4_carryOut 164 = .ok (.getfield 22, 3) := by decide +kernel
theorem dX4_carryOut_167 : decode cX4_carryOut 167 = .ok (.iconst 0, 1) := by decide +kernel
theorem dX4_carryOut_168 : decode cX4_carryOut 168 = .ok (.invokevirtual 193, 3) := by decide +kernel
theorem dX4_carryOut_171 : decode cX4_carryOut 171 = .ok (.putfield 83, 3) := by decide +kernel
theorem dX4_carryOut_174 : decode cX4_carryOut 174 = .ok (.goto 50, 3) := by decide +kernel
theorem dX4_carryOut_177 : decode cX4_carryOut 177 = .ok (.aload_n 0, 1) := by decide +kernel
theorem dX4_carryOut_178 : decode cX4_carryOut 178 = .ok (.getfield 15, 3) := by decide +kernel
theorem dX4_carryOut_181 : decode cX4_carryOut 181 = .ok (.aload_n 0, 1) := by decide +kernel
theorem dX4_carryOut_182 : decode cX4_carryOut 182 = .ok (.getfield 22, 3) := by decide +kernel
theorem dX4_carryOut_185 : decode cX4_carryOut 185 = .ok (.iconst 0, 1) := by decide +kernel
theorem dX4_carryOut_186 : decode cX4_carryOut 186 = .ok (.invokevirtual 193, 3) := by decide +kernel
theorem dX4_carryOut_189 : decode cX4_carryOut 189 = .ok (.iconst 1, 1) := by decide +kernel
theorem dX4_carryOut_190 : decode cX4_carryOut 190 = .ok (.if_icmp .ne 7, 3) := by decide +kernel
theorem dX4_carryOut_193 : decode cX4_carryOut 193 = .ok (.iconst 1, 1) := by decide +kernel
theorem dX4_carryOut_194 : decode cX4_carryOut 194 = .ok (.goto 4, 3) := by decide +kernel
theorem dX4_carryOut_197 : decode cX4_carryOut 197 = .ok (.iconst 0, 1) := by decide +kernel
theorem dX4_carryOut_198 : decode cX4_carryOut 198 = .ok (.putfield 80, 3) := by decide +kernel
theorem dX4_carryOut_201 : decode cX4_carryOut 201 = .ok (.goto 23, 3) := by decide +kernel
theorem dX4_carryOut_204 : decode cX4_carryOut 204 = .ok (.aload_n 0, 1) := by decide +kernel
theorem dX4_carryOut_205 : decode cX4_carryOut 205 = .ok (.getfield 15, 3) := by decide +kernel
theorem dX4_carryOut_208 : decode cX4_carryOut 208 = .ok (.dup, 1) := by decide +kernel
theorem dX4_carryOut_209 : decode cX4_carryOut 209 = .ok (.getfield 209, 3) := by decide +kernel
theorem dX4_carryOut_212 : decode cX4_carryOut 212 = .ok (.iconst 1, 1) := by decide +kernel
theorem dX4_carryOut_213 : decode cX4_carryOut 213 = .ok (.iload_n 2, 1) := by decide +kernel
theorem dX4_carryOut_214 : decode cX4_carryOut 214 = .ok (.ishl, 1) := by decide +kernel
theorem dX4_carryOut_215 : decode cX4_carryOut 215 = .ok (.iconst (-1), 1) := by decide +kernel
theorem dX4_carryOut_216 : decode cX4_carryOut 216 = .ok (.ixor, 1) := by decide +kernel
theorem dX4_carryOut_217 : decode cX4_carryOut 217 = .ok (.iand, 1) := by decide +kernel
theorem dX4_carryOut_218 : decode cX4_carryOut 218 = .ok (.putfield 209, 3) := by decide +kernel
theorem dX4_carryOut_221 : decode cX4_carryOut 221 = .ok (.goto 3, 3) := by decide +kernel
theorem dX4_carryOut_224 : decode cX4_carryOut 224 = .ok (.iload_n 1, 1) := by decide +kernel
theorem dX4_carryOut_225 : decode cX4_carryOut 225 = .ok (.invokestatic 212, 3) := by decide +kernel
theorem dX4_carryOut_228 : decode cX4_carryOut 228 = .ok (.ifCond .eq 11, 3) := by decide +kernel
theorem dX4_carryOut_231 : decode cX4_carryOut 231 = .ok (.aload_n 0, 1) := by decide +kernel
theorem dX4_carryOut_232 : decode cX4_carryOut 232 = .ok (.getfield 15, 3) := by decide +kernel
theorem dX4_carryOut_235 : decode cX4_carryOut 235 = .ok (.iconst 3, 1) := by decide +kernel
theorem dX4_carryOut_236 : decode cX4_carryOut 236 = .ok (.putfield 209, 3) := by decide +kernel
theorem dX4_carryOut_239 : decode cX4_carryOut 239 = .ok (.return_, 1) := by decide +kernel
theorem dX4_setsSomething_0 : decode cX4_setsSomething 0 = .ok (.iload_n 0, 1) := by decide +kernel
theorem dX4_setsSomething_1 : decode cX4_setsSomething 1 = .ok (.bipush 6, 2) := by decide +kernel
theorem dX4_setsSomething_3 : decode cX4_setsSomething 3 = .ok (.if_icmp .eq 27, 3) := by decide +kernel
theorem dX4_setsSomething_6 : decode cX4_setsSomething 6 = .ok (.iload_n 0, 1) := by decide +kernel
theorem dX4_setsSomething_7 : decode cX4_setsSomething 7 = .ok (.bipush 18, 2) := by decide +kernel
theorem dX4_setsSomething_9 : decode cX4_setsSomething 9 = .ok (.if_icmp .eq 21, 3) := by decide +kernel
theorem dX4_setsSomething_12 : decode cX4_setsSomething 12 = .ok (.iload_n 0, 1) := by decide +kernel
theorem dX4_setsSomething_13 : decode cX4_setsSomething 13 = .ok (.bipush 35, 2) := by decide +kernel
theorem dX4_setsSomething_15 : decode cX4_setsSomething 15 = .ok (.if_icmp .eq 15, 3) := by decide +kernel
theorem dX4_setsSomething_18 : decode cX4_setsSomething 18 = .ok (.iload_n 0, 1) := by decide +kernel
theorem dX4_setsSomething_19 : decode cX4_setsSomething 19 = .ok (.bipush 108, 2) := by decide +kernel
theorem dX4_setsSomething_21 : decode cX4_setsSomething 21 = .ok (.if_icmp .eq 9, 3) := by decide +kernel
theorem dX4_setsSomething_24 : decode cX4_setsSomething 24 = .ok (.iload_n 0, 1) := by decide +kernel
theorem dX4_setsSomething_25 : decode cX4_setsSomething 25 = .ok (.bipush 109, 2) := by decide +kernel
theorem dX4_setsSomething_27 : decode cX4_setsSomething 27 = .ok (.if_icmp .ne 7, 3) := by decide +kernel
theorem dX4_setsSomething_30 : decode cX4_setsSomething 30 = .ok (.iconst 1, 1) := by decide +kernel
theorem dX4_setsSomething_31 : decode cX4_setsSomething 31 = .ok (.goto 4, 3) := by decide +kernel
theorem dX4_setsSomething_34 : decode cX4_setsSomething 34 = .ok (.iconst 0, 1) := by decide +kernel
theorem dX4_setsSomething_35 : decode cX4_setsSomething 35 = .ok (.ireturn, 1) := by decide +kernel
theorem dX4_compose_0 : decode cX4_compose 0 = .ok (.aload_n 0, 1) := by decide +kernel
theorem dX4_compose_1 : decode cX4_compose 1 = .ok (.getfield 29, 3) := by decide +kernel
theorem dX4_compose_4 : decode cX4_compose 4 = .ok (.iload_n 1, 1) := by decide +kernel
theorem dX4_compose_5 : decode cX4_compose 5 = .ok (.invokevirtual 215, 3) := by decide +kernel
theorem dX4_compose_8 : decode cX4_compose 8 = .ok (.aload_n 0, 1) := by decide +kernel
theorem dX4_compose_9 : decode cX4_compose 9 = .ok (.iload_n 1, 1) := by decide +kernel
theorem dX4_compose_10 : decode cX4_compose 10 = .ok (.bipush 6, 2) := by decide +kernel
theorem dX4_compose_12 : decode cX4_compose 12 = .ok (.if_icmp .eq 7, 3) := by decide +kernel
theorem dX4_compose_15 : decode cX4_compose 15 = .ok (.iconst 1, 1) := by decide +kernel
theorem dX4_compose_16 : decode cX4_compose 16 = .ok (.goto 4, 3) := by decide +kernel
theorem dX4_compose_19 : decode cX4_compose 19 = .ok (.iconst 0, 1) := by decide +kernel
theorem dX4_compose_20 : decode cX4_compose 20 = .ok (.iload_n 2, 1) := by decide +kernel
theorem dX4_compose_21 : decode cX4_compose 21 = .ok (.invokevirtual 218, 3) := by decide +kernel
theorem dX4_compose_24 : decode cX4_compose 24 = .ok (.aload_n 0, 1) := by decide +kernel
theorem dX4_compose_25 : decode cX4_compose 25 = .ok (.getfield 29, 3) := by decide +kernel
theorem dX4_compose_28 : decode cX4_compose 28 = .ok (.iload_n 3, 1) := by decide +kernel
theorem dX4_compose_29 : decode cX4_compose 29 = .ok (.invokevirtual 222, 3) := by decide +kernel
theorem dX4_compose_32 : decode cX4_compose 32 = .ok (.aload_n 0, 1) := by decide +kernel
theorem dX4_compose_33 : decode cX4_compose 33 = .ok (.getfield 29, 3) := by decide +kernel
theorem dX4_compose_36 : decode cX4_compose 36 = .ok (.invokevirtual 224, 3) := by decide +kernel
theorem dX4_compose_39 : decode cX4_compose 39 = .ok (.aload_n 0, 1) := by decide +kernel
theorem dX4_compose_40 : decode cX4_compose 40 = .ok (.getfield 29, 3) := by decide +kernel
theorem dX4_compose_43 : decode cX4_compose 43 = .ok (.iload 4, 2) := by decide +kernel
theorem dX4_compose_45 : decode cX4_compose 45 = .ok (.invokevirtual 222, 3) := by decide +kernel
theorem dX4_compose_48 : decode cX4_compose 48 = .ok (.aload_n 0, 1) := by decide +kernel
theorem dX4_compose_49 : decode cX4_compose 49 = .ok (.getfield 29, 3) := by decide +kernel
theorem dX4_compose_52 : decode cX4_compose 52 = .ok (.aload_n 0, 1) := by decide +kernel
theorem dX4_compose_53 : decode cX4_compose 53 = .ok (.getfield 15, 3) := by decide +kernel
theorem dX4_compose_56 : decode cX4_compose 56 = .ok (.iload_n 2, 1) := by decide +kernel
theorem dX4_compose_57 : decode cX4_compose 57 = .ok (.invokevirtual 227, 3) := by decide +kernel
theorem dX4_compose_60 : decode cX4_compose 60 = .ok (.invokevirtual 222, 3) := by decide +kernel
theorem dX4_compose_63 : decode cX4_compose 63 = .ok (.iload 4, 2) := by decide +kernel
theorem dX4_compose_65 : decode cX4_compose 65 = .ok (.ifCond .ne 8, 3) := by decide +kernel
theorem dX4_compose_68 : decode cX4_compose 68 = .ok (.aload_n 0, 1) := by decide +kernel
theorem dX4_compose_69 : decode cX4_compose 69 = .ok (.iload_n 3, 1) := by decide +kernel
theorem dX4_compose_70 : decode cX4_compose 70 = .ok (.invokevirtual 230, 3) := by decide +kernel
theorem dX4_compose_73 : decode cX4_compose 73 = .ok (.aload_n 0, 1) := by decide +kernel
theorem dX4_compose_74 : decode cX4_compose 74 = .ok (.getfield 29, 3) := by decide +kernel
theorem dX4_compose_77 : decode cX4_compose 77 = .ok (.invokevirtual 233, 3) := by decide +kernel
theorem dX4_compose_80 : decode cX4_compose 80 = .ok (.return_, 1) := by decide +kernel
theorem dX4_addAddress_0 : decode cX4_addAddress 0 = .ok (.iload_n 2, 1) := by decide +kernel
theorem dX4_addAddress_1 : decode cX4_addAddress 1 = .ok (.ifCond .ne 9, 3) := by decide +kernel
theorem dX4_addAddress_4 : decode cX4_addAddress 4 = .ok (.sipush 128, 3) := by decide +kernel
theorem dX4_addAddress_7 : decode cX4_addAddress 7 = .ok (.goto 4, 3) := by decide +kernel
theorem dX4_addAddress_10 : decode cX4_addAddress 10 = .ok (.iconst 0, 1) := by decide +kernel
theorem dX4_addAddress_11 : decode cX4_addAddress 11 = .ok (.aload_n 0, 1) := by decide +kernel
theorem dX4_addAddress_12 : decode cX4_addAddress 12 = .ok (.getfield 15, 3) := by decide +kernel
theorem dX4_addAddress_15 : decode cX4_addAddress 15 = .ok (.getfield 80, 3) := by decide +kernel
theorem dX4_addAddress_18 : decode cX4_addAddress 18 = .ok (.ifCond .eq 8, 3) := by decide +kernel
theorem dX4_addAddress_21 : decode cX4_addAddress 21 = .ok (.bipush 64, 2) := by decide +kernel
theorem dX4_addAddress_23 : decode cX4_addAddress 23 = .ok (.goto 4, 3) := by decide +kernel
theorem dX4_addAddress_26 : decode cX4_addAddress 26 = .ok (.iconst 0, 1) := by decide +kernel
theorem dX4_addAddress_27 : decode cX4_addAddress 27 = .ok (.ior, 1) := by decide +kernel
theorem dX4_addAddress_28 : decode cX4_addAddress 28 = .ok (.istore_n 3, 1) := by decide +kernel
theorem dX4_addAddress_29 : decode cX4_addAddress 29 = .ok (.iload_n 1, 1) := by decide +kernel
theorem dX4_addAddress_30 : decode cX4_addAddress 30 = .ok (.ifCond .eq 40, 3) := by decide +kernel
theorem dX4_addAddress_33 : decode cX4_addAddress 33 = .ok (.aload_n 0, 1) := by decide +kernel
theorem dX4_addAddress_34 : decode cX4_addAddress 34 = .ok (.getfield 29, 3) := by decide +kernel
theorem dX4_addAddress_37 : decode cX4_addAddress 37 = .ok (.iload_n 3, 1) := by decide +kernel
theorem dX4_addAddress_38 : decode cX4_addAddress 38 = .ok (.aload_n 0, 1) := by decide +kernel
theorem dX4_addAddress_39 : decode cX4_addAddress 39 = .ok (.getfield 15, 3) := by decide +kernel
theorem dX4_addAddress_42 : decode cX4_addAddress 42 = .ok (.getfield 236, 3) := by decide +kernel
theorem dX4_addAddress_45 : decode cX4_addAddress 45 = .ok (.ior, 1) := by decide +kernel
theorem dX4_addAddress_46 : decode cX4_addAddress 46 = .ok (.invokevirtual 222, 3) := by decide +kernel
theorem dX4_addAddress_49 : decode cX4_addAddress 49 = .ok (.aload_n 0, 1) := by decide +kernel
theorem dX4_addAddress_50 : decode cX4_addAddress 50 = .ok (.getfield 29, 3) := by decide +kernel
theorem dX4_addAddress_53 : decode cX4_addAddress 53 = .ok (.aload_n 0, 1) := by decide +kernel
theorem dX4_addAddress_54 : decode cX4_addAddress 54 = .ok (.getfield 15, 3) := by decide +kernel
theorem dX4_addAddress_57 : decode cX4_addAddress 57 = .ok (.getfield 239, 3) := by decide +kernel
theorem dX4_addAddress_60 : decode cX4_addAddress 60 = .ok (.invokevirtual 222, 3) := by decide +kernel
theorem dX4_addAddress_63 : decode cX4_addAddress 63 = .ok (.aload_n 0, 1) := by decide +kernel
theorem dX4_addAddress_64 : decode cX4_addAddress 64 = .ok (.invokevirtual 241, 3) := by decide +kernel
theorem dX4_addAddress_67 : decode cX4_addAddress 67 = .ok (.goto 19, 3) := by decide +kernel
theorem dX4_addAddress_70 : decode cX4_addAddress 70 = .ok (.aload_n 0, 1) := by decide +kernel
theorem dX4_addAddress_71 : decode cX4_addAddress 71 = .ok (.getfield 29, 3) := by decide +kernel
theorem dX4_addAddress_74 : decode cX4_addAddress 74 = .ok (.iload_n 3, 1) := by decide +kernel
theorem dX4_addAddress_75 : decode cX4_addAddress 75 = .ok (.aload_n 0, 1) := by decide +kernel
theorem dX4_addAddress_76 : decode cX4_addAddress 76 = .ok (.getfield 15, 3) := by decide +kernel
theorem dX4_addAddress_79 : decode cX4_addAddress 79 = .ok (.getfield 68, 3) := by decide +kernel
theorem dX4_addAddress_82 : decode cX4_addAddress 82 = .ok (.ior, 1) := by decide +kernel
theorem dX4_addAddress_83 : decode cX4_addAddress 83 = .ok (.invokevirtual 222, 3) := by decide +kernel
theorem dX4_addAddress_86 : decode cX4_addAddress 86 = .ok (.return_, 1) := by decide +kernel
theorem dX4_addData_0 : decode cX4_addData 0 = .ok (.iload_n 1, 1) := by decide +kernel
theorem dX4_addData_1 : decode cX4_addData 1 = .ok (.lookupswitch 236 #[(0, 67), (1, 74), (2, 106), (3, 123), (11, 67), (13, 168), (48, 200)], 67) := by decide +kernel
theorem dX4_addData_68 : decode cX4_addData 68 = .ok (.aload_n 0, 1) := by decide +kernel
theorem dX4_addData_69 : decode cX4_addData 69 = .ok (.invokevirtual 244, 3) := by decide +kernel
theorem dX4_addData_72 : decode cX4_addData 72 = .ok (.goto 170, 3) := by decide +kernel
theorem dX4_addData_75 : decode cX4_addData 75 = .ok (.aload_n 0, 1) := by decide +kernel
theorem dX4_addData_76 : decode cX4_addData 76 = .ok (.getfield 29, 3) := by decide +kernel
theorem dX4_addData_79 : decode cX4_addData 79 = .ok (.aload_n 0, 1) := by decide +kernel
theorem dX4_addData_80 : decode cX4_addData 80 = .ok (.getfield 15, 3) := by decide +kernel
theorem dX4_addData_83 : decode cX4_addData 83 = .ok (.getfield 71, 3) := by decide +kernel
theorem dX4_addData_86 : decode cX4_addData 86 = .ok (.invokevirtual 222, 3) := by decide +kernel
theorem dX4_addData_89 : decode cX4_addData 89 = .ok (.aload_n 0, 1) := by decide +kernel
theorem dX4_addData_90 : decode cX4_addData 90 = .ok (.getfield 29, 3) := by decide +kernel
theorem dX4_addData_93 : decode cX4_addData 93 = .ok (.aload_n 0, 1) := by decide +kernel
theorem dX4_addData_94 : decode cX4_addData 94 = .ok (.getfield 15, 3) := by decide +kernel
theorem dX4_addData_97 : decode cX4_addData 97 = .ok (.iconst 0, 1) := by decide +kernel
theorem dX4_addData_98 : decode cX4_addData 98 = .ok (.invokevirtual 57, 3) := by decide +kernel
theorem dX4_addData_101 : decode cX4_addData 101 = .ok (.invokevirtual 247, 3) := by decide +kernel
theorem dX4_addData_104 : decode cX4_addData 104 = .ok (.goto 138, 3) := by decide +kernel
theorem dX4_addData_107 : decode cX4_addData 107 = .ok (.aload_n 0, 1) := by decide +kernel
theorem dX4_addData_108 : decode cX4_addData 108 = .ok (.getfield 29, 3) := by decide +kernel
theorem dX4_addData_111 : decode cX4_addData 111 = .ok (.aload_n 0, 1) := by decide +kernel
theorem dX4_addData_112 : decode cX4_addData 112 = .ok (.getfield 15, 3) := by decide +kernel
theorem dX4_addData_115 : decode cX4_addData 115 = .ok (.invokevirtual 250, 3) := by decide +kernel
theorem dX4_addData_118 : decode cX4_addData 118 = .ok (.invokevirtual 247, 3) := by decide +kernel
theorem dX4_addData_121 : decode cX4_addData 121 = .ok (.goto 121, 3) := by decide +kernel
theorem dX4_addData_124 : decode cX4_addData 124 = .ok (.aload_n 0, 1) := by decide +kernel
theorem dX4_addData_125 : decode cX4_addData 125 = .ok (.getfield 29, 3) := by decide +kernel
theorem dX4_addData_128 : decode cX4_addData 128 = .ok (.aload_n 0, 1) := by decide +kernel
theorem dX4_addData_129 : decode cX4_addData 129 = .ok (.getfield 15, 3) := by decide +kernel
theorem dX4_addData_132 : decode cX4_addData 132 = .ok (.invokevirtual 250, 3) := by decide +kernel
theorem dX4_addData_135 : decode cX4_addData 135 = .ok (.invokevirtual 247, 3) := by decide +kernel
theorem dX4_addData_138 : decode cX4_addData 138 = .ok (.iconst 0, 1) := by decide +kernel
theorem dX4_addData_139 : decode cX4_addData 139 = .ok (.istore_n 2, 1) := by decide +kernel
theorem dX4_addData_140 : decode cX4_addData 140 = .ok (.iload_n 2, 1) := by decide +kernel
theorem dX4_addData_141 : decode cX4_addData 141 = .ok (.iconst 4, 1) := by decide +kernel
theorem dX4_addData_142 : decode cX4_addData 142 = .ok (.if_icmp .ge 24, 3) := by decide +kernel
theorem dX4_addData_145 : decode cX4_addData 145 = .ok (.aload_n 0, 1) := by decide +kernel
theorem dX4_addData_146 : decode cX4_addData 146 = .ok (.getfield 29, 3) := by decide +kernel
theorem dX4_addData_149 : decode cX4_addData 149 = .ok (.aload_n 0, 1) := by decide +kernel
theorem dX4_addData_150 : decode cX4_addData 150 = .ok (.getfield 15, 3) := by decide +kernel
theorem dX4_addData_153 : decode cX4_addData 153 = .ok (.iload_n 2, 1) := by decide +kernel
theorem dX4_addData_154 : decode cX4_addData 154 = .ok (.invokevirtual 57, 3) := by decide +kernel
theorem dX4_addData_157 : decode cX4_addData 157 = .ok (.invokevirtual 247, 3) := by decide +kernel
theorem dX4_addData_160 : decode cX4_addData 160 = .ok (.iinc 2 1, 3) := by decide +kernel
theorem dX4_addData_163 : decode cX4_addData 163 = .ok (.goto (-23), 3) := by decide +kernel
theorem dX4_addData_166 : decode cX4_addData 166 = .ok (.goto 76, 3) := by decide +kernel
theorem dX4_addData_169 : decode cX4_addData 169 = .ok (.iconst 0, 1) := by decide +kernel
theorem dX4_addData_170 : decode cX4_addData 170 = .ok (.istore_n 2, 1) := by decide +kernel
theorem dX4_addData_171 : decode cX4_addData 171 = .ok (.iload_n 2, 1) := by decide +kernel
theorem dX4_addData_172 : decode cX4_addData 172 = .ok (.bipush 6, 2) := by decide +kernel
theorem dX4_addData_174 : decode cX4_addData 174 = .ok (.if_icmp .ge 24, 3) := by decide +kernel
theorem dX4_addData_177 : decode cX4_addData 177 = .ok (.aload_n 0, 1) := by decide +kernel
theorem dX4_addData_178 : decode cX4_addData 178 = .ok (.getfield 29, 3) := by decide +kernel
theorem dX4_addData_181 : decode cX4_addData 181 = .ok (.aload_n 0, 1) := by decide +kernel
theorem dX4_addData_182 : decode cX4_addData 182 = .ok (.getfield 15, 3) := by decide +kernel
theorem dX4_addData_185 : decode cX4_addData 185 = .ok (.iload_n 2, 1) := by decide +kernel
theorem dX4_addData_186 : decode cX4_addData 186 = .ok (.invokevirtual 98, 3) := by decide +kernel
theorem dX4_addData_189 : decode cX4_addData 189 = .ok (.invokevirtual 222, 3) := by decide +kernel
theorem dX4_addData_192 : decode cX4_addData 192 = .ok (.iinc 2 1, 3) := by decide +kernel
theorem dX4_addData_195 : decode cX4_addData 195 = .ok (.goto (-24), 3) := by decide +kernel
theorem dX4_addData_198 : decode cX4_addData 198 = .ok (.goto 44, 3) := by decide +kernel
theorem dX4_addData_201 : decode cX4_addData 201 = .ok (.aload_n 0, 1) := by decide +kernel
theorem dX4_addData_202 : decode cX4_addData 202 = .ok (.getfield 29, 3) := by decide +kernel
theorem dX4_addData_205 : decode cX4_addData 205 = .ok (.aload_n 0, 1) := by decide +kernel
theorem dX4_addData_206 : decode cX4_addData 206 = .ok (.getfield 15, 3) := by decide +kernel
theorem dX4_addData_209 : decode cX4_addData 209 = .ok (.getfield 64, 3) := by decide +kernel
theorem dX4_addData_212 : decode cX4_addData 212 = .ok (.ifCond .eq 7, 3) := by decide +kernel
theorem dX4_addData_215 : decode cX4_addData 215 = .ok (.iconst 1, 1) := by decide +kernel
theorem dX4_addData_216 : decode cX4_addData 216 = .ok (.goto 4, 3) := by decide +kernel
theorem dX4_addData_219 : decode cX4_addData 219 = .ok (.iconst 0, 1) := by decide +kernel
theorem dX4_addData_220 : decode cX4_addData 220 = .ok (.invokevirtual 222, 3) := by decide +kernel
theorem dX4_addData_223 : decode cX4_addData 223 = .ok (.aload_n 0, 1) := by decide +kernel
theorem dX4_addData_224 : decode cX4_addData 224 = .ok (.getfield 29, 3) := by decide +kernel
theorem dX4_addData_227 : decode cX4_addData 227 = .ok (.aload_n 0, 1) := by decide +kernel
theorem dX4_addData_228 : decode cX4_addData 228 = .ok (.getfield 86, 3) := by decide +kernel
theorem dX4_addData_231 : decode cX4_addData 231 = .ok (.invokevirtual 222, 3) := by decide +kernel
theorem dX4_addData_234 : decode cX4_addData 234 = .ok (.goto 8, 3) := by decide +kernel
theorem dX4_addData_237 : decode cX4_addData 237 = .ok (.aload_n 0, 1) := by decide +kernel
theorem dX4_addData_238 : decode cX4_addData 238 = .ok (.iload_n 1, 1) := by decide +kernel
theorem dX4_addData_239 : decode cX4_addData 239 = .ok (.invokevirtual 253, 3) := by decide +kernel
theorem dX4_addData_242 : decode cX4_addData 242 = .ok (.return_, 1) := by decide +kernel
theorem dX4_addIdentity_0 : decode cX4_addIdentity 0 = .ok (.aload_n 0, 1) := by decide +kernel
theorem dX4_addIdentity_1 : decode cX4_addIdentity 1 = .ok (.getfield 29, 3) := by decide +kernel
theorem dX4_addIdentity_4 : decode cX4_addIdentity 4 = .ok (.sipush 254, 3) := by decide +kernel
theorem dX4_addIdentity_7 : decode cX4_addIdentity 7 = .ok (.invokevirtual 222, 3) := by decide +kernel
theorem dX4_addIdentity_10 : decode cX4_addIdentity 10 = .ok (.aload_n 0, 1) := by decide +kernel
theorem dX4_addIdentity_11 : decode cX4_addIdentity 11 = .ok (.getfield 29, 3) := by decide +kernel
theorem dX4_addIdentity_14 : decode cX4_addIdentity 14 = .ok (.aload_n 0, 1) := by decide +kernel
theorem dX4_addIdentity_15 : decode cX4_addIdentity 15 = .ok (.getfield 15, 3) := by decide +kernel
theorem dX4_addIdentity_18 : decode cX4_addIdentity 18 = .ok (.getfield 236, 3) := by decide +kernel
theorem dX4_addIdentity_21 : decode cX4_addIdentity 21 = .ok (.invokevirtual 222, 3) := by decide +kernel
theorem dX4_addIdentity_24 : decode cX4_addIdentity 24 = .ok (.aload_n 0, 1) := by decide +kernel
theorem dX4_addIdentity_25 : decode cX4_addIdentity 25 = .ok (.getfield 29, 3) := by decide +kernel
theorem dX4_addIdentity_28 : decode cX4_addIdentity 28 = .ok (.aload_n 0, 1) := by decide +kernel
theorem dX4_addIdentity_29 : decode cX4_addIdentity 29 = .ok (.getfield 15, 3) := by decide +kernel
theorem dX4_addIdentity_32 : decode cX4_addIdentity 32 = .ok (.getfield 239, 3) := by decide +kernel
theorem dX4_addIdentity_35 : decode cX4_addIdentity 35 = .ok (.invokevirtual 222, 3) := by decide +kernel
theorem dX4_addIdentity_38 : decode cX4_addIdentity 38 = .ok (.aload_n 0, 1) := by decide +kernel
theorem dX4_addIdentity_39 : decode cX4_addIdentity 39 = .ok (.getfield 29, 3) := by decide +kernel
theorem dX4_addIdentity_42 : decode cX4_addIdentity 42 = .ok (.iconst 5, 1) := by decide +kernel
theorem dX4_addIdentity_43 : decode cX4_addIdentity 43 = .ok (.invokevirtual 222, 3) := by decide +kernel
theorem dX4_addIdentity_46 : decode cX4_addIdentity 46 = .ok (.aload_n 0, 1) := by decide +kernel
theorem dX4_addIdentity_47 : decode cX4_addIdentity 47 = .ok (.invokevirtual 241, 3) := by decide +kernel
theorem dX4_addIdentity_50 : decode cX4_addIdentity 50 = .ok (.return_, 1) := by decide +kernel
theorem dX4_addNumber_0 : decode cX4_addNumber 0 = .ok (.aload_n 0, 1) := by decide +kernel
theorem dX4_addNumber_1 : decode cX4_addNumber 1 = .ok (.getfield 29, 3) := by decide +kernel
theorem dX4_addNumber_4 : decode cX4_addNumber 4 = .ok (.aload_n 0, 1) := by decide +kernel
theorem dX4_addNumber_5 : decode cX4_addNumber 5 = .ok (.getfield 15, 3) := by decide +kernel
theorem dX4_addNumber_8 : decode cX4_addNumber 8 = .ok (.getfield 256, 3) := by decide +kernel
theorem dX4_addNumber_11 : decode cX4_addNumber 11 = .ok (.bipush 16, 2) := by decide +kernel
theorem dX4_addNumber_13 : decode cX4_addNumber 13 = .ok (.iushr, 1) := by decide +kernel
theorem dX4_addNumber_14 : decode cX4_addNumber 14 = .ok (.invokevirtual 222, 3) := by decide +kernel
theorem dX4_addNumber_17 : decode cX4_addNumber 17 = .ok (.aload_n 0, 1) := by decide +kernel
theorem dX4_addNumber_18 : decode cX4_addNumber 18 = .ok (.getfield 29, 3) := by decide +kernel
theorem dX4_addNumber_21 : decode cX4_addNumber 21 = .ok (.aload_n 0, 1) := by decide +kernel
theorem dX4_addNumber_22 : decode cX4_addNumber 22 = .ok (.getfield 15, 3) := by decide +kernel
theorem dX4_addNumber_25 : decode cX4_addNumber 25 = .ok (.getfield 256, 3) := by decide +kernel
theorem dX4_addNumber_28 : decode cX4_addNumber 28 = .ok (.bipush 8, 2) := by decide +kernel
theorem dX4_addNumber_30 : decode cX4_addNumber 30 = .ok (.iushr, 1) := by decide +kernel
theorem dX4_addNumber_31 : decode cX4_addNumber 31 = .ok (.invokevirtual 222, 3) := by decide +kernel
theorem dX4_addNumber_34 : decode cX4_addNumber 34 = .ok (.aload_n 0, 1) := by decide +kernel
theorem dX4_addNumber_35 : decode cX4_addNumber 35 = .ok (.getfield 29, 3) := by decide +kernel
theorem dX4_addNumber_38 : decode cX4_addNumber 38 = .ok (.aload_n 0, 1) := by decide +kernel
theorem dX4_addNumber_39 : decode cX4_addNumber 39 = .ok (.getfield 15, 3) := by decide +kernel
theorem dX4_addNumber_42 : decode cX4_addNumber 42 = .ok (.getfield 256, 3) := by decide +kernel
theorem dX4_addNumber_45 : decode cX4_addNumber 45 = .ok (.invokevirtual 222, 3) := by decide +kernel
theorem dX4_addNumber_48 : decode cX4_addNumber 48 = .ok (.return_, 1) := by decide +kernel
theorem dX4_addEcho_0 : decode cX4_addEcho 0 = .ok (.iload_n 1, 1) := by decide +kernel
theorem dX4_addEcho_1 : decode cX4_addEcho 1 = .ok (.invokestatic 212, 3) := by decide +kernel
theorem dX4_addEcho_4 : decode cX4_addEcho 4 = .ok (.ifCond .ne 4, 3) := by decide +kernel
theorem dX4_addEcho_7 : decode cX4_addEcho 7 = .ok (.return_, 1) := by decide +kernel
theorem dX4_addEcho_8 : decode cX4_addEcho 8 = .ok (.iconst 0, 1) := by decide +kernel
theorem dX4_addEcho_9 : decode cX4_addEcho 9 = .ok (.istore_n 2, 1) := by decide +kernel
theorem dX4_addEcho_10 : decode cX4_addEcho 10 = .ok (.iload_n 2, 1) := by decide +kernel
theorem dX4_addEcho_11 : decode cX4_addEcho 11 = .ok (.aload_n 0, 1) := by decide +kernel
theorem dX4_addEcho_12 : decode cX4_addEcho 12 = .ok (.getfield 22, 3) := by decide +kernel
theorem dX4_addEcho_15 : decode cX4_addEcho 15 = .ok (.getfield 190, 3) := by decide +kernel
theorem dX4_addEcho_18 : decode cX4_addEcho 18 = .ok (.if_icmp .ge 24, 3) := by decide +kernel
theorem dX4_addEcho_21 : decode cX4_addEcho 21 = .ok (.aload_n 0, 1) := by decide +kernel
theorem dX4_addEcho_22 : decode cX4_addEcho 22 = .ok (.getfield 29, 3) := by decide +kernel
theorem dX4_addEcho_25 : decode cX4_addEcho 25 = .ok (.aload_n 0, 1) := by decide +kernel
theorem dX4_addEcho_26 : decode cX4_addEcho 26 = .ok (.getfield 22, 3) := by decide +kernel
theorem dX4_addEcho_29 : decode cX4_addEcho 29 = .ok (.iload_n 2, 1) := by decide +kernel
theorem dX4_addEcho_30 : decode cX4_addEcho 30 = .ok (.invokevirtual 193, 3) := by decide +kernel
theorem dX4_addEcho_33 : decode cX4_addEcho 33 = .ok (.invokevirtual 222, 3) := by decide +kernel
theorem dX4_addEcho_36 : decode cX4_addEcho 36 = .ok (.iinc 2 1, 3) := by decide +kernel
theorem dX4_addEcho_39 : decode cX4_addEcho 39 = .ok (.goto (-29), 3) := by decide +kernel
theorem dX4_addEcho_42 : decode cX4_addEcho 42 = .ok (.return_, 1) := by decide +kernel
end
section
theorem dX5_init_0 : decode cX5_init 0 = .ok (.aload_n 0, 1) := by decide +kernel
theorem dX5_init_1 : decode cX5_init 1 = .ok (.invokespecial 1, 3) := by decide +kernel
theorem dX5_init_4 : decode cX5_init 4 = .ok (.aload_n 0, 1) := by decide +kernel
theorem dX5_init_5 : decode cX5_init 5 = .ok (.iconst 5, 1) := by decide +kernel
theorem dX5_init_6 : decode cX5_init 6 = .ok (.newarray .int, 2) := by decide +kernel
theorem dX5_init_8 : decode cX5_init 8 = .ok (.putfield 7, 3) := by decide +kernel
theorem dX5_init_11 : decode cX5_init 11 = .ok (.aload_n 0, 1) := by decide +kernel
theorem dX5_init_12 : decode cX5_init 12 = .ok (.bipush 6, 2) := by decide +kernel
theorem dX5_init_14 : decode cX5_init 14 = .ok (.newarray .int, 2) := by decide +kernel
theorem dX5_init_16 : decode cX5_init 16 = .ok (.putfield 13, 3) := by decide +kernel
theorem dX5_init_19 : decode cX5_init 19 = .ok (.aload_n 0, 1) := by decide +kernel
theorem dX5_init_20 : decode cX5_init 20 = .ok (.iconst 4, 1) := by decide +kernel
theorem dX5_init_21 : decode cX5_init 21 = .ok (.newarray .int, 2) := by decide +kernel
theorem dX5_init_23 : decode cX5_init 23 = .ok (.putfield 16, 3) := by decide +kernel
theorem dX5_init_26 : decode cX5_init 26 = .ok (.aload_n 0, 1) := by decide +kernel
theorem dX5_init_27 : decode cX5_init 27 = .ok (.sipush 10000, 3) := by decide +kernel
theorem dX5_init_30 : decode cX5_init 30 = .ok (.putfield 19, 3) := by decide +kernel
theorem dX5_init_33 : decode cX5_init 33 = .ok (.aload_n 0, 1) := by decide +kernel
theorem dX5_init_34 : decode cX5_init 34 = .ok (.iconst 2, 1) := by decide +kernel
theorem dX5_init_35 : decode cX5_init 35 = .ok (.newarray .boolean, 2) := by decide +kernel
theorem dX5_init_37 : decode cX5_init 37 = .ok (.dup, 1) := by decide +kernel
theorem dX5_init_38 : decode cX5_init 38 = .ok (.iconst 0, 1) := by decide +kernel
theorem dX5_init_39 : decode cX5_init 39 = .ok (.iconst 1, 1) := by decide +kernel
theorem dX5_init_40 : decode cX5_init 40 = .ok (.bastore, 1) := by decide +kernel
theorem dX5_init_41 : decode cX5_init 41 = .ok (.dup, 1) := by decide +kernel
theorem dX5_init_42 : decode cX5_init 42 = .ok (.iconst 1, 1) := by decide +kernel
theorem dX5_init_43 : decode cX5_init 43 = .ok (.iconst 1, 1) := by decide +kernel
theorem dX5_init_44 : decode cX5_init 44 = .ok (.bastore, 1) := by decide +kernel
theorem dX5_init_45 : decode cX5_init 45 = .ok (.putfield 23, 3) := by decide +kernel
theorem dX5_init_48 : decode cX5_init 48 = .ok (.aload_n 0, 1) := by decide +kernel
theorem dX5_init_49 : decode cX5_init 49 = .ok (.iconst 2, 1) := by decide +kernel
theorem dX5_init_50 : decode cX5_init 50 = .ok (.newarray .boolean, 2) := by decide +kernel
theorem dX5_init_52 : decode cX5_init 52 = .ok (.dup, 1) := by decide +kernel
theorem dX5_init_53 : decode cX5_init 53 = .ok (.iconst 0, 1) := by decide +kernel
theorem dX5_init_54 : decode cX5_init 54 = .ok (.iconst 1, 1) := by decide +kernel
theorem dX5_init_55 : decode cX5_init 55 = .ok (.bastore, 1) := by decide +kernel
theorem dX5_init_56 : decode cX5_init 56 = .ok (.dup, 1) := by decide +kernel
theorem dX5_init_57 : decode cX5_init 57 = .ok (.iconst 1, 1) := by decide +kernel
theorem dX5_init_58 : decode cX5_init 58 = .ok (.iconst 1, 1) := by decide +kernel
theorem dX5_init_59 : decode cX5_init 59 = .ok (.bastore, 1) := by decide +kernel
theorem dX5_init_60 : decode cX5_init 60 = .ok (.putfield 27, 3) := by decide +kernel
theorem dX5_init_63 : decode cX5_init 63 = .ok (.aload_n 0, 1) := by decide +kernel
theorem dX5_init_64 : decode cX5_init 64 = .ok (.iconst 1, 1) := by decide +kernel
theorem dX5_init_65 : decode cX5_init 65 = .ok (.putfield 30, 3) := by decide +kernel
theorem dX5_init_68 : decode cX5_init 68 = .ok (.aload_n 0, 1) := by decide +kernel
theorem dX5_init_69 : decode cX5_init 69 = .ok (.bipush 40, 2) := by decide +kernel
theorem dX5_init_71 : decode cX5_init 71 = .ok (.newarray .int, 2) := by decide +kernel
theorem dX5_init_73 : decode cX5_init 73 = .ok (.putfield 33, 3) := by decide +kernel
theorem dX5_init_76 : decode cX5_init 76 = .ok (.aload_n 0, 1) := by decide +kernel
theorem dX5_init_77 : decode cX5_init 77 = .ok (.bipush 64, 2) := by decide +kernel
theorem dX5_init_79 : decode cX5_init 79 = .ok (.newarray .int, 2) := by decide +kernel
theorem dX5_init_81 : decode cX5_init 81 = .ok (.putfield 36, 3) := by decide +kernel
theorem dX5_init_84 : decode cX5_init 84 = .ok (.aload_n 0, 1) := by decide +kernel
theorem dX5_init_85 : decode cX5_init 85 = .ok (.ldc2_w 39, 3) := by decide +kernel
theorem dX5_init_88 : decode cX5_init 88 = .ok (.putfield 41, 3) := by decide +kernel
theorem dX5_init_91 : decode cX5_init 91 = .ok (.aload_n 0, 1) := by decide +kernel
theorem dX5_init_92 : decode cX5_init 92 = .ok (.ldc2_w 39, 3) := by decide +kernel
theorem dX5_init_95 : decode cX5_init 95 = .ok (.putfield 45, 3) := by decide +kernel
theorem dX5_init_98 : decode cX5_init 98 = .ok (.aload_n 0, 1) := by decide +kernel
theorem dX5_init_99 : decode cX5_init 99 = .ok (.sipush 2000, 3) := by decide +kernel
theorem dX5_init_102 : decode cX5_init 102 = .ok (.newarray .int, 2) := by decide +kernel
theorem dX5_init_104 : decode cX5_init 104 = .ok (.putfield 48, 3) := by decide +kernel
theorem dX5_init_107 : decode cX5_init 107 = .ok (.aload_n 0, 1) := by decide +kernel
theorem dX5_init_108 : decode cX5_init 108 = .ok (.sipush 2000, 3) := by decide +kernel
theorem dX5_init_111 : decode cX5_init 111 = .ok (.newarray .int, 2) := by decide +kernel
theorem dX5_init_113 : decode cX5_init 113 = .ok (.putfield 51, 3) := by decide +kernel
theorem dX5_init_116 : decode cX5_init 116 = .ok (.aload_n 0, 1) := by decide +kernel
theorem dX5_init_117 : decode cX5_init 117 = .ok (.getfield 7, 3) := by decide +kernel
theorem dX5_init_120 : decode cX5_init 120 = .ok (.iconst 0, 1) := by decide +kernel
theorem dX5_init_121 : decode cX5_init 121 = .ok (.iload_n 1, 1) := by decide +kernel
theorem dX5_init_122 : decode cX5_init 122 = .ok (.bipush 63, 2) := by decide +kernel
theorem dX5_init_124 : decode cX5_init 124 = .ok (.iand, 1) := by decide +kernel
theorem dX5_init_125 : decode cX5_init 125 = .ok (.iastore, 1) := by decide +kernel
theorem dX5_init_126 : decode cX5_init 126 = .ok (.aload_n 0, 1) := by decide +kernel
theorem dX5_init_127 : decode cX5_init 127 = .ok (.getfield 7, 3) := by decide +kernel
theorem dX5_init_130 : decode cX5_init 130 = .ok (.iconst 1, 1) := by decide +kernel
theorem dX5_init_131 : decode cX5_init 131 = .ok (.iload_n 2, 1) := by decide +kernel
theorem dX5_init_132 : decode cX5_init 132 = .ok (.sipush 255, 3) := by decide +kernel
theorem dX5_init_135 : decode cX5_init 135 = .ok (.iand, 1) := by decide +kernel
theorem dX5_init_136 : decode cX5_init 136 = .ok (.iastore, 1) := by decide +kernel
theorem dX5_init_137 : decode cX5_init 137 = .ok (.aload_n 0, 1) := by decide +kernel
theorem dX5_init_138 : decode cX5_init 138 = .ok (.getfield 7, 3) := by decide +kernel
theorem dX5_init_141 : decode cX5_init 141 = .ok (.iconst 2, 1) := by decide +kernel
theorem dX5_init_142 : decode cX5_init 142 = .ok (.iload_n 3, 1) := by decide +kernel
theorem dX5_init_143 : decode cX5_init 143 = .ok (.bipush 16, 2) := by decide +kernel
theorem dX5_init_145 : decode cX5_init 145 = .ok (.ishr, 1) := by decide +kernel
theorem dX5_init_146 : decode cX5_init 146 = .ok (.sipush 255, 3) := by decide +kernel
theorem dX5_init_149 : decode cX5_init 149 = .ok (.iand, 1) := by decide +kernel
theorem dX5_init_150 : decode cX5_init 150 = .ok (.iastore, 1) := by decide +kernel
theorem dX5_init_151 : decode cX5_init 151 = .ok (.aload_n 0, 1) := by decide +kernel
theorem dX5_init_152 : decode cX5_init 152 = .ok (.getfield 7, 3) := by decide +kernel
theorem dX5_init_155 : decode cX5_init 155 = .ok (.iconst 3, 1) := by decide +kernel
theorem dX5_init_156 : decode cX5_init 156 = .ok (.iload_n 3, 1) := by decide +kernel
theorem dX5_init_157 : decode cX5_init 157 = .ok (.bipush 8, 2) := by decide +kernel
theorem dX5_init_159 : decode cX5_init 159 = .ok (.ishr, 1) := by decide +kernel
theorem dX5_init_160 : decode cX5_init 160 = .ok (.sipush 255, 3) := by decide +kernel
theorem dX5_init_163 : decode cX5_init 163 = .ok (.iand, 1) := by decide +kernel
theorem dX5_init_164 : decode cX5_init 164 = .ok (.iastore, 1) := by decide +kernel
theorem dX5_init_165 : decode cX5_init 165 = .ok (.aload_n 0, 1) := by decide +kernel
theorem dX5_init_166 : decode cX5_init 166 = .ok (.getfield 7, 3) := by decide +kernel
theorem dX5_init_169 : decode cX5_init 169 = .ok (.iconst 4, 1) := by decide +kernel
theorem dX5_init_170 : decode cX5_init 170 = .ok (.iload_n 3, 1) := by decide +kernel
theorem dX5_init_171 : decode cX5_init 171 = .ok (.sipush 255, 3) := by decide +kernel
theorem dX5_init_174 : decode cX5_init 174 = .ok (.iand, 1) := by decide +kernel
theorem dX5_init_175 : decode cX5_init 175 = .ok (.iastore, 1) := by decide +kernel
theorem dX5_init_176 : decode cX5_init 176 = .ok (.iconst 0, 1) := by decide +kernel
theorem dX5_init_177 : decode cX5_init 177 = .ok (.istore 4, 2) := by decide +kernel
theorem dX5_init_179 : decode cX5_init 179 = .ok (.iload 4, 2) := by decide +kernel
theorem dX5_init_181 : decode cX5_init 181 = .ok (.bipush 6, 2) := by decide +kernel
theorem dX5_init_183 : decode cX5_init 183 = .ok (.if_icmp .ge 18, 3) := by decide +kernel
theorem dX5_init_186 : decode cX5_init 186 = .ok (.aload_n 0, 1) := by decide +kernel
theorem dX5_init_187 : decode cX5_init 187 = .ok (.getfield 13, 3) := by decide +kernel
theorem dX5_init_190 : decode cX5_init 190 = .ok (.iload 4, 2) := by decide +kernel
theorem dX5_init_192 : decode cX5_init 192 = .ok (.bipush 32, 2) := by decide +kernel
theorem dX5_init_194 : decode cX5_init 194 = .ok (.iastore, 1) := by decide +kernel
theorem dX5_init_195 : decode cX5_init 195 = .ok (.iinc 4 1, 3) := by decide +kernel
theorem dX5_init_198 : decode cX5_init 198 = .ok (.goto (-19), 3) := by decide +kernel
theorem dX5_init_201 : decode cX5_init 201 = .ok (.return_, 1) := by decide +kernel
theorem dX5_addressSize_0 : decode cX5_addressSize 0 = .ok (.aload_n 0, 1) := by decide +kernel
theorem dX5_addressSize_1 : decode cX5_addressSize 1 = .ok (.getfield 33, 3) := by decide +kernel
theorem dX5_addressSize_4 : decode cX5_addressSize 4 = .ok (.iconst 0, 1) := by decide +kernel
theorem dX5_addressSize_5 : decode cX5_addressSize 5 = .ok (.iaload, 1) := by decide +kernel
theorem dX5_addressSize_6 : decode cX5_addressSize 6 = .ok (.sipush 130, 3) := by decide +kernel
theorem dX5_addressSize_9 : decode cX5_addressSize 9 = .ok (.if_icmp .ne 7, 3) := by decide +kernel
theorem dX5_addressSize_12 : decode cX5_addressSize 12 = .ok (.iconst 5, 1) := by decide +kernel
theorem dX5_addressSize_13 : decode cX5_addressSize 13 = .ok (.goto 4, 3) := by decide +kernel
theorem dX5_addressSize_16 : decode cX5_addressSize 16 = .ok (.iconst 1, 1) := by decide +kernel
theorem dX5_addressSize_17 : decode cX5_addressSize 17 = .ok (.ireturn, 1) := by decide +kernel
theorem dX5_command_0 : decode cX5_command 0 = .ok (.aload_n 0, 1) := by decide +kernel
theorem dX5_command_1 : decode cX5_command 1 = .ok (.getfield 33, 3) := by decide +kernel
theorem dX5_command_4 : decode cX5_command 4 = .ok (.iconst 1, 1) := by decide +kernel
theorem dX5_command_5 : decode cX5_command 5 = .ok (.aload_n 0, 1) := by decide +kernel
theorem dX5_command_6 : decode cX5_command 6 = .ok (.invokevirtual 57, 3) := by decide +kernel
theorem dX5_command_9 : decode cX5_command 9 = .ok (.iadd, 1) := by decide +kernel
theorem dX5_command_10 : decode cX5_command 10 = .ok (.iaload, 1) := by decide +kernel
theorem dX5_command_11 : decode cX5_command 11 = .ok (.ireturn, 1) := by decide +kernel
theorem dX5_count_0 : decode cX5_count 0 = .ok (.aload_n 0, 1) := by decide +kernel
theorem dX5_count_1 : decode cX5_count 1 = .ok (.getfield 33, 3) := by decide +kernel
theorem dX5_count_4 : decode cX5_count 4 = .ok (.iconst 2, 1) := by decide +kernel
theorem dX5_count_5 : decode cX5_count 5 = .ok (.aload_n 0, 1) := by decide +kernel
theorem dX5_count_6 : decode cX5_count 6 = .ok (.invokevirtual 57, 3) := by decide +kernel
theorem dX5_count_9 : decode cX5_count 9 = .ok (.iadd, 1) := by decide +kernel
theorem dX5_count_10 : decode cX5_count 10 = .ok (.iaload, 1) := by decide +kernel
theorem dX5_count_11 : decode cX5_count 11 = .ok (.ireturn, 1) := by decide +kernel
theorem dX5_data_0 : decode cX5_data 0 = .ok (.aload_n 0, 1) := by decide +kernel
theorem dX5_data_1 : decode cX5_data 1 = .ok (.getfield 33, 3) := by decide +kernel
theorem dX5_data_4 : decode cX5_data 4 = .ok (.iconst 3, 1) := by decide +kernel
theorem dX5_data_5 : decode cX5_data 5 = .ok (.aload_n 0, 1) := by decide +kernel
theorem dX5_data_6 : decode cX5_data 6 = .ok (.invokevirtual 57, 3) := by decide +kernel
theorem dX5_data_9 : decode cX5_data 9 = .ok (.iadd, 1) := by decide +kernel
theorem dX5_data_10 : decode cX5_data 10 = .ok (.iload_n 1, 1) := by decide +kernel
theorem dX5_data_11 : decode cX5_data 11 = .ok (.iadd, 1) := by decide +kernel
theorem dX5_data_12 : decode cX5_data 12 = .ok (.iaload, 1) := by decide +kernel
theorem dX5_data_13 : decode cX5_data 13 = .ok (.ireturn, 1) := by decide +kernel
theorem dX5_word_0 : decode cX5_word 0 = .ok (.aload_n 0, 1) := by decide +kernel
theorem dX5_word_1 : decode cX5_word 1 = .ok (.iload_n 1, 1) := by decide +kernel
theorem dX5_word_2 : decode cX5_word 2 = .ok (.invokevirtual 61, 3) := by decide +kernel
theorem dX5_word_5 : decode cX5_word 5 = .ok (.bipush 24, 2) := by decide +kernel
theorem dX5_word_7 : decode cX5_word 7 = .ok (.ishl, 1) := by decide +kernel
theorem dX5_word_8 : decode cX5_word 8 = .ok (.aload_n 0, 1) := by decide +kernel
theorem dX5_word_9 : decode cX5_word 9 = .ok (.iload_n 1, 1) := by decide +kernel
theorem dX5_word_10 : decode cX5_word 10 = .ok (.iconst 1, 1) := by decide +kernel
theorem dX5_word_11 : decode cX5_word 11 = .ok (.iadd, 1) := by decide +kernel
theorem dX5_word_12 : decode cX5_word 12 = .ok (.invokevirtual 61, 3) := by decide +kernel
theorem dX5_word_15 : decode cX5_word 15 = .ok (.bipush 16, 2) := by decide +kernel
theorem dX5_word_17 : decode cX5_word 17 = .ok (.ishl, 1) := by decide +kernel
theorem dX5_word_18 : decode cX5_word 18 = .ok (.ior, 1) := by decide +kernel
theorem dX5_word_19 : decode cX5_word 19 = .ok (.aload_n 0, 1) := by decide +kernel
theorem dX5_word_20 : decode cX5_word 20 = .ok (.iload_n 1, 1) := by decide +kernel
theorem dX5_word_21 : decode cX5_word 21 = .ok (.iconst 2, 1) := by decide +kernel
theorem dX5_word_22 : decode cX5_word 22 = .ok (.iadd, 1) := by decide +kernel
theorem dX5_word_23 : decode cX5_word 23 = .ok (.invokevirtual 61, 3) := by decide +kernel
theorem dX5_word_26 : decode cX5_word 26 = .ok (.bipush 8, 2) := by decide +kernel
theorem dX5_word_28 : decode cX5_word 28 = .ok (.ishl, 1) := by decide +kernel
theorem dX5_word_29 : decode cX5_word 29 = .ok (.ior, 1) := by decide +kernel
theorem dX5_word_30 : decode cX5_word 30 = .ok (.aload_n 0, 1) := by decide +kernel
theorem dX5_word_31 : decode cX5_word 31 = .ok (.iload_n 1, 1) := by decide +kernel
theorem dX5_word_32 : decode cX5_word 32 = .ok (.iconst 3, 1) := by decide +kernel
theorem dX5_word_33 : decode cX5_word 33 = .ok (.iadd, 1) := by decide +kernel
theorem dX5_word_34 : decode cX5_word 34 = .ok (.invokevirtual 61, 3) := by decide +kernel
theorem dX5_word_37 : decode cX5_word 37 = .ok (.ior, 1) := by decide +kernel
theorem dX5_word_38 : decode cX5_word 38 = .ok (.ireturn, 1) := by decide +kernel
theorem dX5_master_0 : decode cX5_master 0 = .ok (.aload_n 0, 1) := by decide +kernel
theorem dX5_master_1 : decode cX5_master 1 = .ok (.getfield 33, 3) := by decide +kernel
theorem dX5_master_4 : decode cX5_master 4 = .ok (.iconst 1, 1) := by decide +kernel
theorem dX5_master_5 : decode cX5_master 5 = .ok (.iaload, 1) := by decide +kernel
theorem dX5_master_6 : decode cX5_master 6 = .ok (.bipush 127, 2) := by decide +kernel
theorem dX5_master_8 : decode cX5_master 8 = .ok (.if_icmp .le 7, 3) := by decide +kernel
theorem dX5_master_11 : decode cX5_master 11 = .ok (.iconst 0, 1) := by decide +kernel
theorem dX5_master_12 : decode cX5_master 12 = .ok (.goto 4, 3) := by decide +kernel
theorem dX5_master_15 : decode cX5_master 15 = .ok (.iconst 1, 1) := by decide +kernel
theorem dX5_master_16 : decode cX5_master 16 = .ok (.ireturn, 1) := by decide +kernel
theorem dX5_forget_0 : decode cX5_forget 0 = .ok (.aload_n 0, 1) := by decide +kernel
theorem dX5_forget_1 : decode cX5_forget 1 = .ok (.iconst 0, 1) := by decide +kernel
theorem dX5_forget_2 : decode cX5_forget 2 = .ok (.putfield 65, 3) := by decide +kernel
theorem dX5_forget_5 : decode cX5_forget 5 = .ok (.aload_n 0, 1) := by decide +kernel
theorem dX5_forget_6 : decode cX5_forget 6 = .ok (.iconst 0, 1) := by decide +kernel
theorem dX5_forget_7 : decode cX5_forget 7 = .ok (.putfield 68, 3) := by decide +kernel
theorem dX5_forget_10 : decode cX5_forget 10 = .ok (.return_, 1) := by decide +kernel
theorem dX5_keep_0 : decode cX5_keep 0 = .ok (.aload_n 0, 1) := by decide +kernel
theorem dX5_keep_1 : decode cX5_keep 1 = .ok (.getfield 68, 3) := by decide +kernel
theorem dX5_keep_4 : decode cX5_keep 4 = .ok (.ifCond .ne 68, 3) := by decide +kernel
theorem dX5_keep_7 : decode cX5_keep 7 = .ok (.aload_n 0, 1) := by decide +kernel
theorem dX5_keep_8 : decode cX5_keep 8 = .ok (.getfield 65, 3) := by decide +kernel
theorem dX5_keep_11 : decode cX5_keep 11 = .ok (.iconst 2, 1) := by decide +kernel
theorem dX5_keep_12 : decode cX5_keep 12 = .ok (.if_icmp .le 19, 3) := by decide +kernel
theorem dX5_keep_15 : decode cX5_keep 15 = .ok (.iload_n 1, 1) := by decide +kernel
theorem dX5_keep_16 : decode cX5_keep 16 = .ok (.iconst 2, 1) := by decide +kernel
theorem dX5_keep_17 : decode cX5_keep 17 = .ok (.if_icmp .eq 10, 3) := by decide +kernel
theorem dX5_keep_20 : decode cX5_keep 20 = .ok (.iload_n 1, 1) := by decide +kernel
theorem dX5_keep_21 : decode cX5_keep 21 = .ok (.sipush 130, 3) := by decide +kernel
theorem dX5_keep_24 : decode cX5_keep 24 = .ok (.if_icmp .ne 7, 3) := by decide +kernel
theorem dX5_keep_27 : decode cX5_keep 27 = .ok (.iconst 1, 1) := by decide +kernel
theorem dX5_keep_28 : decode cX5_keep 28 = .ok (.goto 4, 3) := by decide +kernel
theorem dX5_keep_31 : decode cX5_keep 31 = .ok (.iconst 0, 1) := by decide +kernel
theorem dX5_keep_32 : decode cX5_keep 32 = .ok (.istore_n 2, 1) := by decide +kernel
theorem dX5_keep_33 : decode cX5_keep 33 = .ok (.aload_n 0, 1) := by decide +kernel
theorem dX5_keep_34 : decode cX5_keep 34 = .ok (.iload_n 1, 1) := by decide +kernel
theorem dX5_keep_35 : decode cX5_keep 35 = .ok (.sipush 255, 3) := by decide +kernel
theorem dX5_keep_38 : decode cX5_keep 38 = .ok (.if_icmp .ne 12, 3) := by decide +kernel
theorem dX5_keep_41 : decode cX5_keep 41 = .ok (.aload_n 0, 1) := by decide +kernel
theorem dX5_keep_42 : decode cX5_keep 42 = .ok (.getfield 65, 3) := by decide +kernel
theorem dX5_keep_45 : decode cX5_keep 45 = .ok (.iconst 1, 1) := by decide +kernel
theorem dX5_keep_46 : decode cX5_keep 46 = .ok (.iadd, 1) := by decide +kernel
theorem dX5_keep_47 : decode cX5_keep 47 = .ok (.goto 4, 3) := by decide +kernel
theorem dX5_keep_50 : decode cX5_keep 50 = .ok (.iconst 0, 1) := by decide +kernel
theorem dX5_keep_51 : decode cX5_keep 51 = .ok (.putfield 65, 3) := by decide +kernel
theorem dX5_keep_54 : decode cX5_keep 54 = .ok (.iload_n 2, 1) := by decide +kernel
theorem dX5_keep_55 : decode cX5_keep 55 = .ok (.ifCond .eq 15, 3) := by decide +kernel
theorem dX5_keep_58 : decode cX5_keep 58 = .ok (.aload_n 0, 1) := by decide +kernel
theorem dX5_keep_59 : decode cX5_keep 59 = .ok (.getfield 33, 3) := by decide +kernel
theorem dX5_keep_62 : decode cX5_keep 62 = .ok (.iconst 0, 1) := by decide +kernel
theorem dX5_keep_63 : decode cX5_keep 63 = .ok (.iload_n 1, 1) := by decide +kernel
theorem dX5_keep_64 : decode cX5_keep 64 = .ok (.iastore, 1) := by decide +kernel
theorem dX5_keep_65 : decode cX5_keep 65 = .ok (.aload_n 0, 1) := by decide +kernel
theorem dX5_keep_66 : decode cX5_keep 66 = .ok (.iconst 1, 1) := by decide +kernel
theorem dX5_keep_67 : decode cX5_keep 67 = .ok (.putfield 68, 3) := by decide +kernel
theorem dX5_keep_70 : decode cX5_keep 70 = .ok (.iconst 0, 1) := by decide +kernel
theorem dX5_keep_71 : decode cX5_keep 71 = .ok (.ireturn, 1) := by decide +kernel
theorem dX5_keep_72 : decode cX5_keep 72 = .ok (.aload_n 0, 1) := by decide +kernel
theorem dX5_keep_73 : decode cX5_keep 73 = .ok (.getfield 33, 3) := by decide +kernel
theorem dX5_keep_76 : decode cX5_keep 76 = .ok (.aload_n 0, 1) := by decide +kernel
theorem dX5_keep_77 : decode cX5_keep 77 = .ok (.getfield 68, 3) := by decide +kernel
theorem dX5_keep_80 : decode cX5_keep 80 = .ok (.iload_n 1, 1) := by decide +kernel
theorem dX5_keep_81 : decode cX5_keep 81 = .ok (.iastore, 1) := by decide +kernel
theorem dX5_keep_82 : decode cX5_keep 82 = .ok (.aload_n 0, 1) := by decide +kernel
theorem dX5_keep_83 : decode cX5_keep 83 = .ok (.dup, 1) := by decide +kernel
theorem dX5_keep_84 : decode cX5_keep 84 = .ok (.getfield 68, 3) := by decide +kernel
theorem dX5_keep_87 : decode cX5_keep 87 = .ok (.iconst 1, 1) := by decide +kernel
theorem dX5_keep_88 : decode cX5_keep 88 = .ok (.iadd, 1) := by decide +kernel
theorem dX5_keep_89 : decode cX5_keep 89 = .ok (.putfield 68, 3) := by decide +kernel
theorem dX5_keep_92 : decode cX5_keep 92 = .ok (.iconst 3, 1) := by decide +kernel
theorem dX5_keep_93 : decode cX5_keep 93 = .ok (.aload_n 0, 1) := by decide +kernel
theorem dX5_keep_94 : decode cX5_keep 94 = .ok (.invokevirtual 57, 3) := by decide +kernel
theorem dX5_keep_97 : decode cX5_keep 97 = .ok (.iadd, 1) := by decide +kernel
theorem dX5_keep_98 : decode cX5_keep 98 = .ok (.istore_n 2, 1) := by decide +kernel
theorem dX5_keep_99 : decode cX5_keep 99 = .ok (.aload_n 0, 1) := by decide +kernel
theorem dX5_keep_100 : decode cX5_keep 100 = .ok (.getfield 68, 3) := by decide +kernel
theorem dX5_keep_103 : decode cX5_keep 103 = .ok (.iload_n 2, 1) := by decide +kernel
theorem dX5_keep_104 : decode cX5_keep 104 = .ok (.if_icmp .ne 18, 3) := by decide +kernel
theorem dX5_keep_107 : decode cX5_keep 107 = .ok (.aload_n 0, 1) := by decide +kernel
theorem dX5_keep_108 : decode cX5_keep 108 = .ok (.invokevirtual 71, 3) := by decide +kernel
theorem dX5_keep_111 : decode cX5_keep 111 = .ok (.bipush 20, 2) := by decide +kernel
theorem dX5_keep_113 : decode cX5_keep 113 = .ok (.if_icmp .le 9, 3) := by decide +kernel
theorem dX5_keep_116 : decode cX5_keep 116 = .ok (.aload_n 0, 1) := by decide +kernel
theorem dX5_keep_117 : decode cX5_keep 117 = .ok (.invokevirtual 74, 3) := by decide +kernel
theorem dX5_keep_120 : decode cX5_keep 120 = .ok (.iconst 0, 1) := by decide +kernel
theorem dX5_keep_121 : decode cX5_keep 121 = .ok (.ireturn, 1) := by decide +kernel
theorem dX5_keep_122 : decode cX5_keep 122 = .ok (.aload_n 0, 1) := by decide +kernel
theorem dX5_keep_123 : decode cX5_keep 123 = .ok (.getfield 68, 3) := by decide +kernel
theorem dX5_keep_126 : decode cX5_keep 126 = .ok (.iload_n 2, 1) := by decide +kernel
theorem dX5_keep_127 : decode cX5_keep 127 = .ok (.if_icmp .le 22, 3) := by decide +kernel
theorem dX5_keep_130 : decode cX5_keep 130 = .ok (.aload_n 0, 1) := by decide +kernel
theorem dX5_keep_131 : decode cX5_keep 131 = .ok (.getfield 68, 3) := by decide +kernel
theorem dX5_keep_134 : decode cX5_keep 134 = .ok (.iload_n 2, 1) := by decide +kernel
theorem dX5_keep_135 : decode cX5_keep 135 = .ok (.aload_n 0, 1) := by decide +kernel
theorem dX5_keep_136 : decode cX5_keep 136 = .ok (.invokevirtual 71, 3) := by decide +kernel
theorem dX5_keep_139 : decode cX5_keep 139 = .ok (.iadd, 1) := by decide +kernel
theorem dX5_keep_140 : decode cX5_keep 140 = .ok (.iconst 1, 1) := by decide +kernel
theorem dX5_keep_141 : decode cX5_keep 141 = .ok (.iadd, 1) := by decide +kernel
theorem dX5_keep_142 : decode cX5_keep 142 = .ok (.if_icmp .ne 7, 3) := by decide +kernel
theorem dX5_keep_145 : decode cX5_keep 145 = .ok (.iconst 1, 1) := by decide +kernel
theorem dX5_keep_146 : decode cX5_keep 146 = .ok (.goto 4, 3) := by decide +kernel
theorem dX5_keep_149 : decode cX5_keep 149 = .ok (.iconst 0, 1) := by decide +kernel
theorem dX5_keep_150 : decode cX5_keep 150 = .ok (.ireturn, 1) := by decide +kernel
theorem dX5_isRight_0 : decode cX5_isRight 0 = .ok (.iconst 0, 1) := by decide +kernel
theorem dX5_isRight_1 : decode cX5_isRight 1 = .ok (.istore_n 1, 1) := by decide +kernel
theorem dX5_isRight_2 : decode cX5_isRight 2 = .ok (.iconst 0, 1) := by decide +kernel
theorem dX5_isRight_3 : decode cX5_isRight 3 = .ok (.istore_n 2, 1) := by decide +kernel
theorem dX5_isRight_4 : decode cX5_isRight 4 = .ok (.iload_n 2, 1) := by decide +kernel
theorem dX5_isRight_5 : decode cX5_isRight 5 = .ok (.aload_n 0, 1) := by decide +kernel
theorem dX5_isRight_6 : decode cX5_isRight 6 = .ok (.getfield 68, 3) := by decide +kernel
theorem dX5_isRight_9 : decode cX5_isRight 9 = .ok (.if_icmp .ge 18, 3) := by decide +kernel
theorem dX5_isRight_12 : decode cX5_isRight 12 = .ok (.iload_n 1, 1) := by decide +kernel
theorem dX5_isRight_13 : decode cX5_isRight 13 = .ok (.aload_n 0, 1) := by decide +kernel
theorem dX5_isRight_14 : decode cX5_isRight 14 = .ok (.getfield 33, 3) := by decide +kernel
theorem dX5_isRight_17 : decode cX5_isRight 17 = .ok (.iload_n 2, 1) := by decide +kernel
theorem dX5_isRight_18 : decode cX5_isRight 18 = .ok (.iaload, 1) := by decide +kernel
theorem dX5_isRight_19 : decode cX5_isRight 19 = .ok (.ixor, 1) := by decide +kernel
theorem dX5_isRight_20 : decode cX5_isRight 20 = .ok (.istore_n 1, 1) := by decide +kernel
theorem dX5_isRight_21 : decode cX5_isRight 21 = .ok (.iinc 2 1, 3) := by decide +kernel
theorem dX5_isRight_24 : decode cX5_isRight 24 = .ok (.goto (-20), 3) := by decide +kernel
theorem dX5_isRight_27 : decode cX5_isRight 27 = .ok (.iload_n 1, 1) := by decide +kernel
theorem dX5_isRight_28 : decode cX5_isRight 28 = .ok (.ifCond .ne 7, 3) := by decide +kernel
theorem dX5_isRight_31 : decode cX5_isRight 31 = .ok (.iconst 1, 1) := by decide +kernel
theorem dX5_isRight_32 : decode cX5_isRight 32 = .ok (.goto 4, 3) := by decide +kernel
theorem dX5_isRight_35 : decode cX5_isRight 35 = .ok (.iconst 0, 1) := by decide +kernel
theorem dX5_isRight_36 : decode cX5_isRight 36 = .ok (.ireturn, 1) := by decide +kernel
theorem dX5_isBroadcast_0 : decode cX5_isBroadcast 0 = .ok (.aload_n 0, 1) := by decide +kernel
theorem dX5_isBroadcast_1 : decode cX5_isBroadcast 1 = .ok (.invokevirtual 57, 3) := by decide +kernel
theorem dX5_isBroadcast_4 : decode cX5_isBroadcast 4 = .ok (.iconst 5, 1) := by decide +kernel
theorem dX5_isBroadcast_5 : decode cX5_isBroadcast 5 = .ok (.if_icmp .ne 64, 3) := by decide +kernel
theorem dX5_isBroadcast_8 : decode cX5_isBroadcast 8 = .ok (.aload_n 0, 1) := by decide +kernel
theorem dX5_isBroadcast_9 : decode cX5_isBroadcast 9 = .ok (.getfield 33, 3) := by decide +kernel
theorem dX5_isBroadcast_12 : decode cX5_isBroadcast 12 = .ok (.iconst 1, 1) := by decide +kernel
theorem dX5_isBroadcast_13 : decode cX5_isBroadcast 13 = .ok (.iaload, 1) := by decide +kernel
theorem dX5_isBroadcast_14 : decode cX5_isBroadcast 14 = .ok (.bipush 64, 2) := by decide +kernel
theorem dX5_isBroadcast_16 : decode cX5_isBroadcast 16 = .ok (.irem, 1) := by decide +kernel
theorem dX5_isBroadcast_17 : decode cX5_isBroadcast 17 = .ok (.ifCond .ne 52, 3) := by decide +kernel
theorem dX5_isBroadcast_20 : decode cX5_isBroadcast 20 = .ok (.aload_n 0, 1) := by decide +kernel
theorem dX5_isBroadcast_21 : decode cX5_isBroadcast 21 = .ok (.getfield 33, 3) := by decide +kernel
theorem dX5_isBroadcast_24 : decode cX5_isBroadcast 24 = .ok (.iconst 2, 1) := by decide +kernel
theorem dX5_isBroadcast_25 : decode cX5_isBroadcast 25 = .ok (.iaload, 1) := by decide +kernel
theorem dX5_isBroadcast_26 : decode cX5_isBroadcast 26 = .ok (.ifCond .ne 43, 3) := by decide +kernel
theorem dX5_isBroadcast_29 : decode cX5_isBroadcast 29 = .ok (.aload_n 0, 1) := by decide +kernel
theorem dX5_isBroadcast_30 : decode cX5_isBroadcast 30 = .ok (.getfield 33, 3) := by decide +kernel
theorem dX5_isBroadcast_33 : decode cX5_isBroadcast 33 = .ok (.iconst 3, 1) := by decide +kernel
theorem dX5_isBroadcast_34 : decode cX5_isBroadcast 34 = .ok (.iaload, 1) := by decide +kernel
theorem dX5_isBroadcast_35 : decode cX5_isBroadcast 35 = .ok (.ifCond .ne 34, 3) := by decide +kernel
theorem dX5_isBroadcast_38 : decode cX5_isBroadcast 38 = .ok (.aload_n 0, 1) := by decide +kernel
theorem dX5_isBroadcast_39 : decode cX5_isBroadcast 39 = .ok (.getfield 33, 3) := by decide +kernel
theorem dX5_isBroadcast_42 : decode cX5_isBroadcast 42 = .ok (.iconst 4, 1) := by decide +kernel
theorem dX5_isBroadcast_43 : decode cX5_isBroadcast 43 = .ok (.iaload, 1) := by decide +kernel
theorem dX5_isBroadcast_44 : decode cX5_isBroadcast 44 = .ok (.ifCond .ne 25, 3) := by decide +kernel
theorem dX5_isBroadcast_47 : decode cX5_isBroadcast 47 = .ok (.aload_n 0, 1) := by decide +kernel
theorem dX5_isBroadcast_48 : decode cX5_isBroadcast 48 = .ok (.getfield 33, 3) := by decide +kernel
theorem dX5_isBroadcast_51 : decode cX5_isBroadcast 51 = .ok (.iconst 5, 1) := by decide +kernel
theorem dX5_isBroadcast_52 : decode cX5_isBroadcast 52 = .ok (.iaload, 1) := by decide +kernel
theorem dX5_isBroadcast_53 : decode cX5_isBroadcast 53 = .ok (.ifCond .ne 16, 3) := by decide +kernel
theorem dX5_isBroadcast_56 : decode cX5_isBroadcast 56 = .ok (.aload_n 0, 1) := by decide +kernel
theorem dX5_isBroadcast_57 : decode cX5_isBroadcast 57 = .ok (.invokevirtual 77, 3) := by decide +kernel
theorem dX5_isBroadcast_60 : decode cX5_isBroadcast 60 = .ok (.bipush 11, 2) := by decide +kernel
theorem dX5_isBroadcast_62 : decode cX5_isBroadcast 62 = .ok (.if_icmp .ne 7, 3) := by decide +kernel
theorem dX5_isBroadcast_65 : decode cX5_isBroadcast 65 = .ok (.iconst 1, 1) := by decide +kernel
theorem dX5_isBroadcast_66 : decode cX5_isBroadcast 66 = .ok (.goto 4, 3) := by decide +kernel
theorem dX5_isBroadcast_69 : decode cX5_isBroadcast 69 = .ok (.iconst 0, 1) := by decide +kernel
theorem dX5_isBroadcast_70 : decode cX5_isBroadcast 70 = .ok (.ireturn, 1) := by decide +kernel
theorem dX5_isOwn_0 : decode cX5_isOwn 0 = .ok (.aload_n 0, 1) := by decide +kernel
theorem dX5_isOwn_1 : decode cX5_isOwn 1 = .ok (.invokevirtual 57, 3) := by decide +kernel
theorem dX5_isOwn_4 : decode cX5_isOwn 4 = .ok (.iconst 1, 1) := by decide +kernel
theorem dX5_isOwn_5 : decode cX5_isOwn 5 = .ok (.if_icmp .ne 25, 3) := by decide +kernel
theorem dX5_isOwn_8 : decode cX5_isOwn 8 = .ok (.aload_n 0, 1) := by decide +kernel
theorem dX5_isOwn_9 : decode cX5_isOwn 9 = .ok (.getfield 33, 3) := by decide +kernel
theorem dX5_isOwn_12 : decode cX5_isOwn 12 = .ok (.iconst 1, 1) := by decide +kernel
theorem dX5_isOwn_13 : decode cX5_isOwn 13 = .ok (.iaload, 1) := by decide +kernel
theorem dX5_isOwn_14 : decode cX5_isOwn 14 = .ok (.bipush 64, 2) := by decide +kernel
theorem dX5_isOwn_16 : decode cX5_isOwn 16 = .ok (.irem, 1) := by decide +kernel
theorem dX5_isOwn_17 : decode cX5_isOwn 17 = .ok (.aload_n 0, 1) := by decide +kernel
theorem dX5_isOwn_18 : decode cX5_isOwn 18 = .ok (.getfield 80, 3) := by decide +kernel
theorem dX5_isOwn_21 : decode cX5_isOwn 21 = .ok (.if_icmp .ne 7, 3) := by decide +kernel
theorem dX5_isOwn_24 : decode cX5_isOwn 24 = .ok (.iconst 1, 1) := by decide +kernel
theorem dX5_isOwn_25 : decode cX5_isOwn 25 = .ok (.goto 4, 3) := by decide +kernel
theorem dX5_isOwn_28 : decode cX5_isOwn 28 = .ok (.iconst 0, 1) := by decide +kernel
theorem dX5_isOwn_29 : decode cX5_isOwn 29 = .ok (.ireturn, 1) := by decide +kernel
theorem dX5_isOwn_30 : decode cX5_isOwn 30 = .ok (.aload_n 0, 1) := by decide +kernel
theorem dX5_isOwn_31 : decode cX5_isOwn 31 = .ok (.getfield 33, 3) := by decide +kernel
theorem dX5_isOwn_34 : decode cX5_isOwn 34 = .ok (.iconst 1, 1) := by decide +kernel
theorem dX5_isOwn_35 : decode cX5_isOwn 35 = .ok (.iaload, 1) := by decide +kernel
theorem dX5_isOwn_36 : decode cX5_isOwn 36 = .ok (.bipush 64, 2) := by decide +kernel
theorem dX5_isOwn_38 : decode cX5_isOwn 38 = .ok (.irem, 1) := by decide +kernel
theorem dX5_isOwn_39 : decode cX5_isOwn 39 = .ok (.aload_n 0, 1) := by decide +kernel
theorem dX5_isOwn_40 : decode cX5_isOwn 40 = .ok (.getfield 7, 3) := by decide +kernel
theorem dX5_isOwn_43 : decode cX5_isOwn 43 = .ok (.iconst 0, 1) := by decide +kernel
theorem dX5_isOwn_44 : decode cX5_isOwn 44 = .ok (.iaload, 1) := by decide +kernel
theorem dX5_isOwn_45 : decode cX5_isOwn 45 = .ok (.if_icmp .ne 7, 3) := by decide +kernel
theorem dX5_isOwn_48 : decode cX5_isOwn 48 = .ok (.iconst 1, 1) := by decide +kernel
theorem dX5_isOwn_49 : decode cX5_isOwn 49 = .ok (.goto 4, 3) := by decide +kernel
theorem dX5_isOwn_52 : decode cX5_isOwn 52 = .ok (.iconst 0, 1) := by decide +kernel
theorem dX5_isOwn_53 : decode cX5_isOwn 53 = .ok (.istore_n 1, 1) := by decide +kernel
theorem dX5_isOwn_54 : decode cX5_isOwn 54 = .ok (.iconst 1, 1) := by decide +kernel
theorem dX5_isOwn_55 : decode cX5_isOwn 55 = .ok (.istore_n 2, 1) := by decide +kernel
theorem dX5_isOwn_56 : decode cX5_isOwn 56 = .ok (.iload_n 2, 1) := by decide +kernel
theorem dX5_isOwn_57 : decode cX5_isOwn 57 = .ok (.iconst 5, 1) := by decide +kernel
theorem dX5_isOwn_58 : decode cX5_isOwn 58 = .ok (.if_icmp .ge 36, 3) := by decide +kernel
theorem dX5_isOwn_61 : decode cX5_isOwn 61 = .ok (.iload_n 1, 1) := by decide +kernel
theorem dX5_isOwn_62 : decode cX5_isOwn 62 = .ok (.ifCond .eq 24, 3) := by decide +kernel
theorem dX5_isOwn_65 : decode cX5_isOwn 65 = .ok (.aload_n 0, 1) := by decide +kernel
theorem dX5_isOwn_66 : decode cX5_isOwn 66 = .ok (.getfield 33, 3) := by decide +kernel
theorem dX5_isOwn_69 : decode cX5_isOwn 69 = .ok (.iconst 1, 1) := by decide +kernel
theorem dX5_isOwn_70 : decode cX5_isOwn 70 = .ok (.iload_n 2, 1) := by decide +kernel
theorem dX5_isOwn_71 : decode cX5_isOwn 71 = .ok (.iadd, 1) := by decide +kernel
theorem dX5_isOwn_72 : decode cX5_isOwn 72 = .ok (.iaload, 1) := by decide +kernel
theorem dX5_isOwn_73 : decode cX5_isOwn 73 = .ok (.aload_n 0, 1) := by decide +kernel
theorem dX5_isOwn_74 : decode cX5_isOwn 74 = .ok (.getfield 7, 3) := by decide +kernel
theorem dX5_isOwn_77 : decode cX5_isOwn 77 = .ok (.iload_n 2, 1) := by decide +kernel
theorem dX5_isOwn_78 : decode cX5_isOwn 78 = .ok (.iaload, 1) := by decide +kernel
theorem dX5_isOwn_79 : decode cX5_isOwn 79 = .ok (.if_icmp .ne 7, 3) := by decide +kernel
theorem dX5_isOwn_82 : decode cX5_isOwn 82 = .ok (.iconst 1, 1) := by decide +kernel
theorem dX5_isOwn_83 : decode cX5_isOwn 83 = .ok (.goto 4, 3) := by decide +kernel
theorem dX5_isOwn_86 : decode cX5_isOwn 86 = .ok (.iconst 0, 1) := by decide +kernel
theorem dX5_isOwn_87 : decode cX5_isOwn 87 = .ok (.istore_n 1, 1) := by decide +kernel
theorem dX5_isOwn_88 : decode cX5_isOwn 88 = .ok (.iinc 2 1, 3) := by decide +kernel
theorem dX5_isOwn_91 : decode cX5_isOwn 91 = .ok (.goto (-35), 3) := by decide +kernel
theorem dX5_isOwn_94 : decode cX5_isOwn 94 = .ok (.iload_n 1, 1) := by decide +kernel
theorem dX5_isOwn_95 : decode cX5_isOwn 95 = .ok (.ifCond .ne 10, 3) := by decide +kernel
theorem dX5_isOwn_98 : decode cX5_isOwn 98 = .ok (.aload_n 0, 1) := by decide +kernel
theorem dX5_isOwn_99 : decode cX5_isOwn 99 = .ok (.invokevirtual 83, 3) := by decide +kernel
theorem dX5_isOwn_102 : decode cX5_isOwn 102 = .ok (.ifCond .eq 7, 3) := by decide +kernel
theorem dX5_isOwn_105 : decode cX5_isOwn 105 = .ok (.iconst 1, 1) := by decide +kernel
theorem dX5_isOwn_106 : decode cX5_isOwn 106 = .ok (.goto 4, 3) := by decide +kernel
theorem dX5_isOwn_109 : decode cX5_isOwn 109 = .ok (.iconst 0, 1) := by decide +kernel
theorem dX5_isOwn_110 : decode cX5_isOwn 110 = .ok (.ireturn, 1) := by decide +kernel
theorem dX5_countWanted_0 : decode cX5_countWanted 0 = .ok (.iload_n 0, 1) := by decide +kernel
theorem dX5_countWanted_1 : decode cX5_countWanted 1 = .ok (.ifCond .lt 8, 3) := by decide +kernel
theorem dX5_countWanted_4 : decode cX5_countWanted 4 = .ok (.iload_n 0, 1) := by decide +kernel
theorem dX5_countWanted_5 : decode cX5_countWanted 5 = .ok (.iconst 3, 1) := by decide +kernel
theorem dX5_countWanted_6 : decode cX5_countWanted 6 = .ok (.if_icmp .le 21, 3) := by decide +kernel
theorem dX5_countWanted_9 : decode cX5_countWanted 9 = .ok (.iload_n 0, 1) := by decide +kernel
theorem dX5_countWanted_10 : decode cX5_countWanted 10 = .ok (.bipush 13, 2) := by decide +kernel
theorem dX5_countWanted_12 : decode cX5_countWanted 12 = .ok (.if_icmp .eq 15, 3) := by decide +kernel
theorem dX5_countWanted_15 : decode cX5_countWanted 15 = .ok (.iload_n 0, 1) := by decide +kernel
theorem dX5_countWanted_16 : decode cX5_countWanted 16 = .ok (.bipush 38, 2) := by decide +kernel
theorem dX5_countWanted_18 : decode cX5_countWanted 18 = .ok (.if_icmp .eq 9, 3) := by decide +kernel
theorem dX5_countWanted_21 : decode cX5_countWanted 21 = .ok (.iload_n 0, 1) := by decide +kernel
theorem dX5_countWanted_22 : decode cX5_countWanted 22 = .ok (.bipush 48, 2) := by decide +kernel
theorem dX5_countWanted_24 : decode cX5_countWanted 24 = .ok (.if_icmp .ne 5, 3) := by decide +kernel
theorem dX5_countWanted_27 : decode cX5_countWanted 27 = .ok (.iconst 0, 1) := by decide +kernel
theorem dX5_countWanted_28 : decode cX5_countWanted 28 = .ok (.ireturn, 1) := by decide +kernel
theorem dX5_countWanted_29 : decode cX5_countWanted 29 = .ok (.iload_n 0, 1) := by decide +kernel
theorem dX5_countWanted_30 : decode cX5_countWanted 30 = .ok (.bipush 6, 2) := by decide +kernel
theorem dX5_countWanted_32 : decode cX5_countWanted 32 = .ok (.if_icmp .eq 15, 3) := by decide +kernel
theorem dX5_countWanted_35 : decode cX5_countWanted 35 = .ok (.iload_n 0, 1) := by decide +kernel
theorem dX5_countWanted_36 : decode cX5_countWanted 36 = .ok (.bipush 108, 2) := by decide +kernel
theorem dX5_countWanted_38 : decode cX5_countWanted 38 = .ok (.if_icmp .eq 9, 3) := by decide +kernel
theorem dX5_countWanted_41 : decode cX5_countWanted 41 = .ok (.iload_n 0, 1) := by decide +kernel
theorem dX5_countWanted_42 : decode cX5_countWanted 42 = .ok (.bipush 109, 2) := by decide +kernel
theorem dX5_countWanted_44 : decode cX5_countWanted 44 = .ok (.if_icmp .ne 5, 3) := by decide +kernel
theorem dX5_countWanted_47 : decode cX5_countWanted 47 = .ok (.iconst 1, 1) := by decide +kernel
theorem dX5_countWanted_48 : decode cX5_countWanted 48 = .ok (.ireturn, 1) := by decide +kernel
theorem dX5_countWanted_49 : decode cX5_countWanted 49 = .ok (.iload_n 0, 1) := by decide +kernel
theorem dX5_countWanted_50 : decode cX5_countWanted 50 = .ok (.bipush 11, 2) := by decide +kernel
theorem dX5_countWanted_52 : decode cX5_countWanted 52 = .ok (.if_icmp .eq 9, 3) := by decide +kernel
theorem dX5_countWanted_55 : decode cX5_countWanted 55 = .ok (.iload_n 0, 1) := by decide +kernel
theorem dX5_countWanted_56 : decode cX5_countWanted 56 = .ok (.bipush 18, 2) := by decide +kernel
theorem dX5_countWanted_58 : decode cX5_countWanted 58 = .ok (.if_icmp .ne 8, 3) := by decide +kernel
theorem dX5_countWanted_61 : decode cX5_countWanted 61 = .ok (.bipush 6, 2) := by decide +kernel
theorem dX5_countWanted_63 : decode cX5_countWanted 63 = .ok (.goto 15, 3) := by decide +kernel
theorem dX5_countWanted_66 : decode cX5_countWanted 66 = .ok (.iload_n 0, 1) := by decide +kernel
theorem dX5_countWanted_67 : decode cX5_countWanted 67 = .ok (.bipush 35, 2) := by decide +kernel
theorem dX5_countWanted_69 : decode cX5_countWanted 69 = .ok (.if_icmp .ne 8, 3) := by decide +kernel
theorem dX5_countWanted_72 : decode cX5_countWanted 72 = .ok (.bipush 9, 2) := by decide +kernel
theorem dX5_countWanted_74 : decode cX5_countWanted 74 = .ok (.goto 4, 3) := by decide +kernel
theorem dX5_countWanted_77 : decode cX5_countWanted 77 = .ok (.iconst (-1), 1) := by decide +kernel
theorem dX5_countWanted_78 : decode cX5_countWanted 78 = .ok (.ireturn, 1) := by decide +kernel
theorem dX5_hasTag_0 : decode cX5_hasTag 0 = .ok (.iconst 1, 1) := by decide +kernel
theorem dX5_hasTag_1 : decode cX5_hasTag 1 = .ok (.istore_n 1, 1) := by decide +kernel
theorem dX5_hasTag_2 : decode cX5_hasTag 2 = .ok (.iconst 0, 1) := by decide +kernel
theorem dX5_hasTag_3 : decode cX5_hasTag 3 = .ok (.istore_n 2, 1) := by decide +kernel
theorem dX5_hasTag_4 : decode cX5_hasTag 4 = .ok (.iload_n 2, 1) := by decide +kernel
theorem dX5_hasTag_5 : decode cX5_hasTag 5 = .ok (.bipush 6, 2) := by decide +kernel
theorem dX5_hasTag_7 : decode cX5_hasTag 7 = .ok (.if_icmp .ge 33, 3) := by decide +kernel
theorem dX5_hasTag_10 : decode cX5_hasTag 10 = .ok (.iload_n 1, 1) := by decide +kernel
theorem dX5_hasTag_11 : decode cX5_hasTag 11 = .ok (.ifCond .eq 21, 3) := by decide +kernel
theorem dX5_hasTag_14 : decode cX5_hasTag 14 = .ok (.aload_n 0, 1) := by decide +kernel
theorem dX5_hasTag_15 : decode cX5_hasTag 15 = .ok (.iload_n 2, 1) := by decide +kernel
theorem dX5_hasTag_16 : decode cX5_hasTag 16 = .ok (.invokevirtual 61, 3) := by decide +kernel
theorem dX5_hasTag_19 : decode cX5_hasTag 19 = .ok (.aload_n 0, 1) := by decide +kernel
theorem dX5_hasTag_20 : decode cX5_hasTag 20 = .ok (.getfield 13, 3) := by decide +kernel
theorem dX5_hasTag_23 : decode cX5_hasTag 23 = .ok (.iload_n 2, 1) := by decide +kernel
theorem dX5_hasTag_24 : decode cX5_hasTag 24 = .ok (.iaload, 1) := by decide +kernel
theorem dX5_hasTag_25 : decode cX5_hasTag 25 = .ok (.if_icmp .ne 7, 3) := by decide +kernel
theorem dX5_hasTag_28 : decode cX5_hasTag 28 = .ok (.iconst 1, 1) := by decide +kernel
theorem dX5_hasTag_29 : decode cX5_hasTag 29 = .ok (.goto 4, 3) := by decide +kernel
theorem dX5_hasTag_32 : decode cX5_hasTag 32 = .ok (.iconst 0, 1) := by decide +kernel
theorem dX5_hasTag_33 : decode cX5_hasTag 33 = .ok (.istore_n 1, 1) := by decide +kernel
theorem dX5_hasTag_34 : decode cX5_hasTag 34 = .ok (.iinc 2 1, 3) := by decide +kernel
theorem dX5_hasTag_37 : decode cX5_hasTag 37 = .ok (.goto (-33), 3) := by decide +kernel
theorem dX5_hasTag_40 : decode cX5_hasTag 40 = .ok (.iload_n 1, 1) := by decide +kernel
theorem dX5_hasTag_41 : decode cX5_hasTag 41 = .ok (.ireturn, 1) := by decide +kernel
theorem dX5_codeOf_0 : decode cX5_codeOf 0 = .ok (.aload_n 0, 1) := by decide +kernel
theorem dX5_codeOf_1 : decode cX5_codeOf 1 = .ok (.invokevirtual 77, 3) := by decide +kernel
theorem dX5_codeOf_4 : decode cX5_codeOf 4 = .ok (.istore_n 1, 1) := by decide +kernel
theorem dX5_codeOf_5 : decode cX5_codeOf 5 = .ok (.iload_n 1, 1) := by decide +kernel
theorem dX5_codeOf_6 : decode cX5_codeOf 6 = .ok (.invokestatic 87, 3) := by decide +kernel
theorem dX5_codeOf_9 : decode cX5_codeOf 9 = .ok (.istore_n 2, 1) := by decide +kernel
theorem dX5_codeOf_10 : decode cX5_codeOf 10 = .ok (.iload_n 2, 1) := by decide +kernel
theorem dX5_codeOf_11 : decode cX5_codeOf 11 = .ok (.iconst (-1), 1) := by decide +kernel
theorem dX5_codeOf_12 : decode cX5_codeOf 12 = .ok (.if_icmp .ne 6, 3) := by decide +kernel
theorem dX5_codeOf_15 : decode cX5_codeOf 15 = .ok (.bipush 64, 2) := by decide +kernel
theorem dX5_codeOf_17 : decode cX5_codeOf 17 = .ok (.ireturn, 1) := by decide +kernel
theorem dX5_codeOf_18 : decode cX5_codeOf 18 = .ok (.iload_n 2, 1) := by decide +kernel
theorem dX5_codeOf_19 : decode cX5_codeOf 19 = .ok (.aload_n 0, 1) := by decide +kernel
theorem dX5_codeOf_20 : decode cX5_codeOf 20 = .ok (.invokevirtual 71, 3) := by decide +kernel
theorem dX5_codeOf_23 : decode cX5_codeOf 23 = .ok (.if_icmp .eq 5, 3) := by decide +kernel
theorem dX5_codeOf_26 : decode cX5_codeOf 26 = .ok (.iconst 5, 1) := by decide +kernel
theorem dX5_codeOf_27 : decode cX5_codeOf 27 = .ok (.ireturn, 1) := by decide +kernel
theorem dX5_codeOf_28 : decode cX5_codeOf 28 = .ok (.iload_n 1, 1) := by decide +kernel
theorem dX5_codeOf_29 : decode cX5_codeOf 29 = .ok (.bipush 6, 2) := by decide +kernel
theorem dX5_codeOf_31 : decode cX5_codeOf 31 = .ok (.if_icmp .ne 19, 3) := by decide +kernel
theorem dX5_codeOf_34 : decode cX5_codeOf 34 = .ok (.aload_n 0, 1) := by decide +kernel
theorem dX5_codeOf_35 : decode cX5_codeOf 35 = .ok (.iconst 0, 1) := by decide +kernel
theorem dX5_codeOf_36 : decode cX5_codeOf 36 = .ok (.invokevirtual 61, 3) := by decide +kernel
theorem dX5_codeOf_39 : decode cX5_codeOf 39 = .ok (.bipush 15, 2) := by decide +kernel
theorem dX5_codeOf_41 : decode cX5_codeOf 41 = .ok (.if_icmp .le 7, 3) := by decide +kernel
theorem dX5_codeOf_44 : decode cX5_codeOf 44 = .ok (.iconst 2, 1) := by decide +kernel
theorem dX5_codeOf_45 : decode cX5_codeOf 45 = .ok (.goto 4, 3) := by decide +kernel
theorem dX5_codeOf_48 : decode cX5_codeOf 48 = .ok (.iconst 0, 1) := by decide +kernel
theorem dX5_codeOf_49 : decode cX5_codeOf 49 = .ok (.ireturn, 1) := by decide +kernel
theorem dX5_codeOf_50 : decode cX5_codeOf 50 = .ok (.iload_n 1, 1) := by decide +kernel
theorem dX5_codeOf_51 : decode cX5_codeOf 51 = .ok (.bipush 11, 2) := by decide +kernel
theorem dX5_codeOf_53 : decode cX5_codeOf 53 = .ok (.if_icmp .ne 17, 3) := by decide +kernel
theorem dX5_codeOf_56 : decode cX5_codeOf 56 = .ok (.aload_n 0, 1) := by decide +kernel
theorem dX5_codeOf_57 : decode cX5_codeOf 57 = .ok (.invokevirtual 90, 3) := by decide +kernel
theorem dX5_codeOf_60 : decode cX5_codeOf 60 = .ok (.ifCond .eq 7, 3) := by decide +kernel
theorem dX5_codeOf_63 : decode cX5_codeOf 63 = .ok (.iconst 0, 1) := by decide +kernel
theorem dX5_codeOf_64 : decode cX5_codeOf 64 = .ok (.goto 5, 3) := by decide +kernel
theorem dX5_codeOf_67 : decode cX5_codeOf 67 = .ok (.bipush 65, 2) := by decide +kernel
theorem dX5_codeOf_69 : decode cX5_codeOf 69 = .ok (.ireturn, 1) := by decide +kernel
theorem dX5_codeOf_70 : decode cX5_codeOf 70 = .ok (.iload_n 1, 1) := by decide +kernel
theorem dX5_codeOf_71 : decode cX5_codeOf 71 = .ok (.bipush 35, 2) := by decide +kernel
theorem dX5_codeOf_73 : decode cX5_codeOf 73 = .ok (.if_icmp .ne 41, 3) := by decide +kernel
theorem dX5_codeOf_76 : decode cX5_codeOf 76 = .ok (.aload_n 0, 1) := by decide +kernel
theorem dX5_codeOf_77 : decode cX5_codeOf 77 = .ok (.iconst 1, 1) := by decide +kernel
theorem dX5_codeOf_78 : decode cX5_codeOf 78 = .ok (.invokevirtual 93, 3) := by decide +kernel
theorem dX5_codeOf_81 : decode cX5_codeOf 81 = .ok (.aload_n 0, 1) := by decide +kernel
theorem dX5_codeOf_82 : decode cX5_codeOf 82 = .ok (.iconst 5, 1) := by decide +kernel
theorem dX5_codeOf_83 : decode cX5_codeOf 83 = .ok (.invokevirtual 93, 3) := by decide +kernel
theorem dX5_codeOf_86 : decode cX5_codeOf 86 = .ok (.if_icmp .ne 8, 3) := by decide +kernel
theorem dX5_codeOf_89 : decode cX5_codeOf 89 = .ok (.bipush 9, 2) := by decide +kernel
theorem dX5_codeOf_91 : decode cX5_codeOf 91 = .ok (.goto 22, 3) := by decide +kernel
theorem dX5_codeOf_94 : decode cX5_codeOf 94 = .ok (.aload_n 0, 1) := by decide +kernel
theorem dX5_codeOf_95 : decode cX5_codeOf 95 = .ok (.iconst 1, 1) := by decide +kernel
theorem dX5_codeOf_96 : decode cX5_codeOf 96 = .ok (.invokevirtual 93, 3) := by decide +kernel
theorem dX5_codeOf_99 : decode cX5_codeOf 99 = .ok (.aload_n 0, 1) := by decide +kernel
theorem dX5_codeOf_100 : decode cX5_codeOf 100 = .ok (.iconst 5, 1) := by decide +kernel
theorem dX5_codeOf_101 : decode cX5_codeOf 101 = .ok (.invokevirtual 93, 3) := by decide +kernel
theorem dX5_codeOf_104 : decode cX5_codeOf 104 = .ok (.if_icmp .ge 8, 3) := by decide +kernel
theorem dX5_codeOf_107 : decode cX5_codeOf 107 = .ok (.bipush 11, 2) := by decide +kernel
theorem dX5_codeOf_109 : decode cX5_codeOf 109 = .ok (.goto 4, 3) := by decide +kernel
theorem dX5_codeOf_112 : decode cX5_codeOf 112 = .ok (.iconst 0, 1) := by decide +kernel
theorem dX5_codeOf_113 : decode cX5_codeOf 113 = .ok (.ireturn, 1) := by decide +kernel
theorem dX5_codeOf_114 : decode cX5_codeOf 114 = .ok (.iload_n 1, 1) := by decide +kernel
theorem dX5_codeOf_115 : decode cX5_codeOf 115 = .ok (.bipush 108, 2) := by decide +kernel
theorem dX5_codeOf_117 : decode cX5_codeOf 117 = .ok (.if_icmp .ne 26, 3) := by decide +kernel
theorem dX5_codeOf_120 : decode cX5_codeOf 120 = .ok (.aload_n 0, 1) := by decide +kernel
theorem dX5_codeOf_121 : decode cX5_codeOf 121 = .ok (.iconst 0, 1) := by decide +kernel
theorem dX5_codeOf_122 : decode cX5_codeOf 122 = .ok (.invokevirtual 61, 3) := by decide +kernel
theorem dX5_codeOf_125 : decode cX5_codeOf 125 = .ok (.ifCond .eq 12, 3) := by decide +kernel
theorem dX5_codeOf_128 : decode cX5_codeOf 128 = .ok (.aload_n 0, 1) := by decide +kernel
theorem dX5_codeOf_129 : decode cX5_codeOf 129 = .ok (.iconst 0, 1) := by decide +kernel
theorem dX5_codeOf_130 : decode cX5_codeOf 130 = .ok (.invokevirtual 61, 3) := by decide +kernel
theorem dX5_codeOf_133 : decode cX5_codeOf 133 = .ok (.iconst 3, 1) := by decide +kernel
theorem dX5_codeOf_134 : decode cX5_codeOf 134 = .ok (.if_icmp .le 7, 3) := by decide +kernel
theorem dX5_codeOf_137 : decode cX5_codeOf 137 = .ok (.iconst 2, 1) := by decide +kernel
theorem dX5_codeOf_138 : decode cX5_codeOf 138 = .ok (.goto 4, 3) := by decide +kernel
theorem dX5_codeOf_141 : decode cX5_codeOf 141 = .ok (.iconst 0, 1) := by decide +kernel
theorem dX5_codeOf_142 : decode cX5_codeOf 142 = .ok (.ireturn, 1) := by decide +kernel
theorem dX5_codeOf_143 : decode cX5_codeOf 143 = .ok (.iload_n 1, 1) := by decide +kernel
theorem dX5_codeOf_144 : decode cX5_codeOf 144 = .ok (.bipush 109, 2) := by decide +kernel
theorem dX5_codeOf_146 : decode cX5_codeOf 146 = .ok (.if_icmp .ne 16, 3) := by decide +kernel
theorem dX5_codeOf_149 : decode cX5_codeOf 149 = .ok (.aload_n 0, 1) := by decide +kernel
theorem dX5_codeOf_150 : decode cX5_codeOf 150 = .ok (.iconst 0, 1) := by decide +kernel
theorem dX5_codeOf_151 : decode cX5_codeOf 151 = .ok (.invokevirtual 61, 3) := by decide +kernel
theorem dX5_codeOf_154 : decode cX5_codeOf 154 = .ok (.iconst 1, 1) := by decide +kernel
theorem dX5_codeOf_155 : decode cX5_codeOf 155 = .ok (.if_icmp .le 7, 3) := by decide +kernel
theorem dX5_codeOf_158 : decode cX5_codeOf 158 = .ok (.iconst 2, 1) := by decide +kernel
theorem dX5_codeOf_159 : decode cX5_codeOf 159 = .ok (.goto 4, 3) := by decide +kernel
theorem dX5_codeOf_162 : decode cX5_codeOf 162 = .ok (.iconst 0, 1) := by decide +kernel
theorem dX5_codeOf_163 : decode cX5_codeOf 163 = .ok (.ireturn, 1) := by decide +kernel
theorem dX5_obey_0 : decode cX5_obey 0 = .ok (.aload_n 0, 1) := by decide +kernel
theorem dX5_obey_1 : decode cX5_obey 1 = .ok (.invokevirtual 77, 3) := by decide +kernel
theorem dX5_obey_4 : decode cX5_obey 4 = .ok (.istore_n 1, 1) := by decide +kernel
theorem dX5_obey_5 : decode cX5_obey 5 = .ok (.iload_n 1, 1) := by decide +kernel
theorem dX5_obey_6 : decode cX5_obey 6 = .ok (.bipush 38, 2) := by decide +kernel
theorem dX5_obey_8 : decode cX5_obey 8 = .ok (.if_icmp .ne 13, 3) := by decide +kernel
theorem dX5_obey_11 : decode cX5_obey 11 = .ok (.aload_n 0, 1) := by decide +kernel
theorem dX5_obey_12 : decode cX5_obey 12 = .ok (.getfield 23, 3) := by decide +kernel
theorem dX5_obey_15 : decode cX5_obey 15 = .ok (.aload_n 0, 1) := by decide +kernel
theorem dX5_obey_16 : decode cX5_obey 16 = .ok (.invokevirtual 96, 3) := by decide +kernel
theorem dX5_obey_19 : decode cX5_obey 19 = .ok (.iconst 0, 1) := by decide +kernel
theorem dX5_obey_20 : decode cX5_obey 20 = .ok (.bastore, 1) := by decide +kernel
theorem dX5_obey_21 : decode cX5_obey 21 = .ok (.iload_n 1, 1) := by decide +kernel
theorem dX5_obey_22 : decode cX5_obey 22 = .ok (.bipush 6, 2) := by decide +kernel
theorem dX5_obey_24 : decode cX5_obey 24 = .ok (.if_icmp .ne 15, 3) := by decide +kernel
theorem dX5_obey_27 : decode cX5_obey 27 = .ok (.aload_n 0, 1) := by decide +kernel
theorem dX5_obey_28 : decode cX5_obey 28 = .ok (.aload_n 0, 1) := by decide +kernel
theorem dX5_obey_29 : decode cX5_obey 29 = .ok (.iconst 0, 1) := by decide +kernel
theorem dX5_obey_30 : decode cX5_obey 30 = .ok (.invokevirtual 61, 3) := by decide +kernel
theorem dX5_obey_33 : decode cX5_obey 33 = .ok (.putfield 80, 3) := by decide +kernel
theorem dX5_obey_36 : decode cX5_obey 36 = .ok (.goto 115, 3) := by decide +kernel
theorem dX5_obey_39 : decode cX5_obey 39 = .ok (.iload_n 1, 1) := by decide +kernel
theorem dX5_obey_40 : decode cX5_obey 40 = .ok (.bipush 18, 2) := by decide +kernel
theorem dX5_obey_42 : decode cX5_obey 42 = .ok (.if_icmp .ne 31, 3) := by decide +kernel
theorem dX5_obey_45 : decode cX5_obey 45 = .ok (.iconst 0, 1) := by decide +kernel
theorem dX5_obey_46 : decode cX5_obey 46 = .ok (.istore_n 2, 1) := by decide +kernel
theorem dX5_obey_47 : decode cX5_obey 47 = .ok (.iload_n 2, 1) := by decide +kernel
theorem dX5_obey_48 : decode cX5_obey 48 = .ok (.bipush 6, 2) := by decide +kernel
theorem dX5_obey_50 : decode cX5_obey 50 = .ok (.if_icmp .ge 20, 3) := by decide +kernel
theorem dX5_obey_53 : decode cX5_obey 53 = .ok (.aload_n 0, 1) := by decide +kernel
theorem dX5_obey_54 : decode cX5_obey 54 = .ok (.getfield 13, 3) := by decide +kernel
theorem dX5_obey_57 : decode cX5_obey 57 = .ok (.iload_n 2, 1) := by decide +kernel
theorem dX5_obey_58 : decode cX5_obey 58 = .ok (.aload_n 0, 1) := by decide +kernel
theorem dX5_obey_59 : decode cX5_obey 59 = .ok (.iload_n 2, 1) := by decide +kernel
theorem dX5_obey_60 : decode cX5_obey 60 = .ok (.invokevirtual 61, 3) := by decide +kernel
theorem dX5_obey_63 : decode cX5_obey 63 = .ok (.iastore, 1) := by decide +kernel
theorem dX5_obey_64 : decode cX5_obey 64 = .ok (.iinc 2 1, 3) := by decide +kernel
theorem dX5_obey_67 : decode cX5_obey 67 = .ok (.goto (-20), 3) := by decide +kernel
theorem dX5_obey_70 : decode cX5_obey 70 = .ok (.goto 81, 3) := by decide +kernel
theorem dX5_obey_73 : decode cX5_obey 73 = .ok (.iload_n 1, 1) := by decide +kernel
theorem dX5_obey_74 : decode cX5_obey 74 = .ok (.bipush 35, 2) := by decide +kernel
theorem dX5_obey_76 : decode cX5_obey 76 = .ok (.if_icmp .ne 33, 3) := by decide +kernel
theorem dX5_obey_79 : decode cX5_obey 79 = .ok (.aload_n 0, 1) := by decide +kernel
theorem dX5_obey_80 : decode cX5_obey 80 = .ok (.aload_n 0, 1) := by decide +kernel
theorem dX5_obey_81 : decode cX5_obey 81 = .ok (.iconst 0, 1) := by decide +kernel
theorem dX5_obey_82 : decode cX5_obey 82 = .ok (.invokevirtual 61, 3) := by decide +kernel
theorem dX5_obey_85 : decode cX5_obey 85 = .ok (.putfield 99, 3) := by decide +kernel
theorem dX5_obey_88 : decode cX5_obey 88 = .ok (.aload_n 0, 1) := by decide +kernel
theorem dX5_obey_89 : decode cX5_obey 89 = .ok (.aload_n 0, 1) := by decide +kernel
theorem dX5_obey_90 : decode cX5_obey 90 = .ok (.iconst 1, 1) := by decide +kernel
theorem dX5_obey_91 : decode cX5_obey 91 = .ok (.invokevirtual 93, 3) := by decide +kernel
theorem dX5_obey_94 : decode cX5_obey 94 = .ok (.putfield 19, 3) := by decide +kernel
theorem dX5_obey_97 : decode cX5_obey 97 = .ok (.aload_n 0, 1) := by decide +kernel
theorem dX5_obey_98 : decode cX5_obey 98 = .ok (.aload_n 0, 1) := by decide +kernel
theorem dX5_obey_99 : decode cX5_obey 99 = .ok (.iconst 5, 1) := by decide +kernel
theorem dX5_obey_100 : decode cX5_obey 100 = .ok (.invokevirtual 93, 3) := by decide +kernel
theorem dX5_obey_103 : decode cX5_obey 103 = .ok (.putfield 102, 3) := by decide +kernel
theorem dX5_obey_106 : decode cX5_obey 106 = .ok (.goto 45, 3) := by decide +kernel
theorem dX5_obey_109 : decode cX5_obey 109 = .ok (.iload_n 1, 1) := by decide +kernel
theorem dX5_obey_110 : decode cX5_obey 110 = .ok (.bipush 108, 2) := by decide +kernel
theorem dX5_obey_112 : decode cX5_obey 112 = .ok (.if_icmp .ne 15, 3) := by decide +kernel
theorem dX5_obey_115 : decode cX5_obey 115 = .ok (.aload_n 0, 1) := by decide +kernel
theorem dX5_obey_116 : decode cX5_obey 116 = .ok (.aload_n 0, 1) := by decide +kernel
theorem dX5_obey_117 : decode cX5_obey 117 = .ok (.iconst 0, 1) := by decide +kernel
theorem dX5_obey_118 : decode cX5_obey 118 = .ok (.invokevirtual 61, 3) := by decide +kernel
theorem dX5_obey_121 : decode cX5_obey 121 = .ok (.putfield 30, 3) := by decide +kernel
theorem dX5_obey_124 : decode cX5_obey 124 = .ok (.goto 27, 3) := by decide +kernel
theorem dX5_obey_127 : decode cX5_obey 127 = .ok (.iload_n 1, 1) := by decide +kernel
theorem dX5_obey_128 : decode cX5_obey 128 = .ok (.bipush 109, 2) := by decide +kernel
theorem dX5_obey_130 : decode cX5_obey 130 = .ok (.if_icmp .ne 21, 3) := by decide +kernel
theorem dX5_obey_133 : decode cX5_obey 133 = .ok (.aload_n 0, 1) := by decide +kernel
theorem dX5_obey_134 : decode cX5_obey 134 = .ok (.aload_n 0, 1) := by decide +kernel
theorem dX5_obey_135 : decode cX5_obey 135 = .ok (.iconst 0, 1) := by decide +kernel
theorem dX5_obey_136 : decode cX5_obey 136 = .ok (.invokevirtual 61, 3) := by decide +kernel
theorem dX5_obey_139 : decode cX5_obey 139 = .ok (.iconst 1, 1) := by decide +kernel
theorem dX5_obey_140 : decode cX5_obey 140 = .ok (.if_icmp .ne 7, 3) := by decide +kernel
theorem dX5_obey_143 : decode cX5_obey 143 = .ok (.iconst 1, 1) := by decide +kernel
theorem dX5_obey_144 : decode cX5_obey 144 = .ok (.goto 4, 3) := by decide +kernel
theorem dX5_obey_147 : decode cX5_obey 147 = .ok (.iconst 0, 1) := by decide +kernel
theorem dX5_obey_148 : decode cX5_obey 148 = .ok (.putfield 105, 3) := by decide +kernel
theorem dX5_obey_151 : decode cX5_obey 151 = .ok (.iload_n 1, 1) := by decide +kernel
theorem dX5_obey_152 : decode cX5_obey 152 = .ok (.bipush 6, 2) := by decide +kernel
theorem dX5_obey_154 : decode cX5_obey 154 = .ok (.if_icmp .eq 27, 3) := by decide +kernel
theorem dX5_obey_157 : decode cX5_obey 157 = .ok (.iload_n 1, 1) := by decide +kernel
theorem dX5_obey_158 : decode cX5_obey 158 = .ok (.bipush 18, 2) := by decide +kernel
theorem dX5_obey_160 : decode cX5_obey 160 = .ok (.if_icmp .eq 21, 3) := by decide +kernel
theorem dX5_obey_163 : decode cX5_obey 163 = .ok (.iload_n 1, 1) := by decide +kernel
theorem dX5_obey_164 : decode cX5_obey 164 = .ok (.bipush 35, 2) := by decide +kernel
theorem dX5_obey_166 : decode cX5_obey 166 = .ok (.if_icmp .eq 15, 3) := by decide +kernel
theorem dX5_obey_169 : decode cX5_obey 169 = .ok (.iload_n 1, 1) := by decide +kernel
theorem dX5_obey_170 : decode cX5_obey 170 = .ok (.bipush 108, 2) := by decide +kernel
theorem dX5_obey_172 : decode cX5_obey 172 = .ok (.if_icmp .eq 9, 3) := by decide +kernel
theorem dX5_obey_175 : decode cX5_obey 175 = .ok (.iload_n 1, 1) := by decide +kernel
theorem dX5_obey_176 : decode cX5_obey 176 = .ok (.bipush 109, 2) := by decide +kernel
theorem dX5_obey_178 : decode cX5_obey 178 = .ok (.if_icmp .ne 17, 3) := by decide +kernel
theorem dX5_obey_181 : decode cX5_obey 181 = .ok (.aload_n 0, 1) := by decide +kernel
theorem dX5_obey_182 : decode cX5_obey 182 = .ok (.getfield 23, 3) := by decide +kernel
theorem dX5_obey_185 : decode cX5_obey 185 = .ok (.iconst 0, 1) := by decide +kernel
theorem dX5_obey_186 : decode cX5_obey 186 = .ok (.iconst 1, 1) := by decide +kernel
theorem dX5_obey_187 : decode cX5_obey 187 = .ok (.bastore, 1) := by decide +kernel
theorem dX5_obey_188 : decode cX5_obey 188 = .ok (.aload_n 0, 1) := by decide +kernel
theorem dX5_obey_189 : decode cX5_obey 189 = .ok (.getfield 23, 3) := by decide +kernel
theorem dX5_obey_192 : decode cX5_obey 192 = .ok (.iconst 1, 1) := by decide +kernel
theorem dX5_obey_193 : decode cX5_obey 193 = .ok (.iconst 1, 1) := by decide +kernel
theorem dX5_obey_194 : decode cX5_obey 194 = .ok (.bastore, 1) := by decide +kernel
theorem dX5_obey_195 : decode cX5_obey 195 = .ok (.return_, 1) := by decide +kernel
theorem dX5_put_0 : decode cX5_put 0 = .ok (.aload_n 0, 1) := by decide +kernel
theorem dX5_put_1 : decode cX5_put 1 = .ok (.getfield 36, 3) := by decide +kernel
theorem dX5_put_4 : decode cX5_put 4 = .ok (.aload_n 0, 1) := by decide +kernel
theorem dX5_put_5 : decode cX5_put 5 = .ok (.getfield 109, 3) := by decide +kernel
theorem dX5_put_8 : decode cX5_put 8 = .ok (.iload_n 1, 1) := by decide +kernel
theorem dX5_put_9 : decode cX5_put 9 = .ok (.sipush 255, 3) := by decide +kernel
theorem dX5_put_12 : decode cX5_put 12 = .ok (.iand, 1) := by decide +kernel
theorem dX5_put_13 : decode cX5_put 13 = .ok (.iastore, 1) := by decide +kernel
theorem dX5_put_14 : decode cX5_put 14 = .ok (.aload_n 0, 1) := by decide +kernel
theorem dX5_put_15 : decode cX5_put 15 = .ok (.dup, 1) := by decide +kernel
theorem dX5_put_16 : decode cX5_put 16 = .ok (.getfield 109, 3) := by decide +kernel
theorem dX5_put_19 : decode cX5_put 19 = .ok (.iconst 1, 1) := by decide +kernel
theorem dX5_put_20 : decode cX5_put 20 = .ok (.iadd, 1) := by decide +kernel
theorem dX5_put_21 : decode cX5_put 21 = .ok (.putfield 109, 3) := by decide +kernel
theorem dX5_put_24 : decode cX5_put 24 = .ok (.return_, 1) := by decide +kernel
theorem dX5_putWord_0 : decode cX5_putWord 0 = .ok (.aload_n 0, 1) := by decide +kernel
theorem dX5_putWord_1 : decode cX5_putWord 1 = .ok (.iload_n 1, 1) := by decide +kernel
theorem dX5_putWord_2 : decode cX5_putWord 2 = .ok (.bipush 24, 2) := by decide +kernel
theorem dX5_putWord_4 : decode cX5_putWord 4 = .ok (.ishr, 1) := by decide +kernel
theorem dX5_putWord_5 : decode cX5_putWord 5 = .ok (.invokevirtual 112, 3) := by decide +kernel
theorem dX5_putWord_8 : decode cX5_putWord 8 = .ok (.aload_n 0, 1) := by decide +kernel
theorem dX5_putWord_9 : decode cX5_putWord 9 = .ok (.iload_n 1, 1) := by decide +kernel
theorem dX5_putWord_10 : decode cX5_putWord 10 = .ok (.bipush 16, 2) := by decide +kernel
theorem dX5_putWord_12 : decode cX5_putWord 12 = .ok (.ishr, 1) := by decide +kernel
theorem dX5_putWord_13 : decode cX5_putWord 13 = .ok (.invokevirtual 112, 3) := by decide +kernel
theorem dX5_putWord_16 : decode cX5_putWord 16 = .ok (.aload_n 0, 1) := by decide +kernel
theorem dX5_putWord_17 : decode cX5_putWord 17 = .ok (.iload_n 1, 1) := by decide +kernel
theorem dX5_putWord_18 : decode cX5_putWord 18 = .ok (.bipush 8, 2) := by decide +kernel
theorem dX5_putWord_20 : decode cX5_putWord 20 = .ok (.ishr, 1) := by decide +kernel
theorem dX5_putWord_21 : decode cX5_putWord 21 = .ok (.invokevirtual 112, 3) := by decide +kernel
theorem dX5_putWord_24 : decode cX5_putWord 24 = .ok (.aload_n 0, 1) := by decide +kernel
theorem dX5_putWord_25 : decode cX5_putWord 25 = .ok (.iload_n 1, 1) := by decide +kernel
theorem dX5_putWord_26 : decode cX5_putWord 26 = .ok (.invokevirtual 112, 3) := by decide +kernel
theorem dX5_putWord_29 : decode cX5_putWord 29 = .ok (.return_, 1) := by decide +kernel
theorem dX5_putLevel_0 : decode cX5_putLevel 0 = .ok (.aload_n 0, 1) := by decide +kernel
theorem dX5_putLevel_1 : decode cX5_putLevel 1 = .ok (.getfield 16, 3) := by decide +kernel
theorem dX5_putLevel_4 : decode cX5_putLevel 4 = .ok (.iconst 0, 1) := by decide +kernel
theorem dX5_putLevel_5 : decode cX5_putLevel 5 = .ok (.iaload, 1) := by decide +kernel
theorem dX5_putLevel_6 : decode cX5_putLevel 6 = .ok (.i2l, 1) := by decide +kernel
theorem dX5_putLevel_7 : decode cX5_putLevel 7 = .ok (.aload_n 0, 1) := by decide +kernel
theorem dX5_putLevel_8 : decode cX5_putLevel 8 = .ok (.getfield 102, 3) := by decide +kernel
theorem dX5_putLevel_11 : decode cX5_putLevel 11 = .ok (.i2l, 1) := by decide +kernel
theorem dX5_putLevel_12 : decode cX5_putLevel 12 = .ok (.lsub, 1) := by decide +kernel
theorem dX5_putLevel_13 : decode cX5_putLevel 13 = .ok (.lstore_n 1, 1) := by decide +kernel
theorem dX5_putLevel_14 : decode cX5_putLevel 14 = .ok (.lload_n 1, 1) := by decide +kernel
theorem dX5_putLevel_15 : decode cX5_putLevel 15 = .ok (.ldc2_w 116, 3) := by decide +kernel
theorem dX5_putLevel_18 : decode cX5_putLevel 18 = .ok (.lmul, 1) := by decide +kernel
theorem dX5_putLevel_19 : decode cX5_putLevel 19 = .ok (.aload_n 0, 1) := by decide +kernel
theorem dX5_putLevel_20 : decode cX5_putLevel 20 = .ok (.getfield 19, 3) := by decide +kernel
theorem dX5_putLevel_23 : decode cX5_putLevel 23 = .ok (.i2l, 1) := by decide +kernel
theorem dX5_putLevel_24 : decode cX5_putLevel 24 = .ok (.aload_n 0, 1) := by decide +kernel
theorem dX5_putLevel_25 : decode cX5_putLevel 25 = .ok (.getfield 102, 3) := by decide +kernel
theorem dX5_putLevel_28 : decode cX5_putLevel 28 = .ok (.i2l, 1) := by decide +kernel
theorem dX5_putLevel_29 : decode cX5_putLevel 29 = .ok (.lsub, 1) := by decide +kernel
theorem dX5_putLevel_30 : decode cX5_putLevel 30 = .ok (.ldiv, 1) := by decide +kernel
theorem dX5_putLevel_31 : decode cX5_putLevel 31 = .ok (.ldc2_w 118, 3) := by decide +kernel
theorem dX5_putLevel_34 : decode cX5_putLevel 34 = .ok (.ladd, 1) := by decide +kernel
theorem dX5_putLevel_35 : decode cX5_putLevel 35 = .ok (.lstore_n 3, 1) := by decide +kernel
theorem dX5_putLevel_36 : decode cX5_putLevel 36 = .ok (.aload_n 0, 1) := by decide +kernel
theorem dX5_putLevel_37 : decode cX5_putLevel 37 = .ok (.lload_n 3, 1) := by decide +kernel
theorem dX5_putLevel_38 : decode cX5_putLevel 38 = .ok (.ldc2_w 120, 3) := by decide +kernel
theorem dX5_putLevel_41 : decode cX5_putLevel 41 = .ok (.lcmp, 1) := by decide +kernel
theorem dX5_putLevel_42 : decode cX5_putLevel 42 = .ok (.ifCond .ge 9, 3) := by decide +kernel
theorem dX5_putLevel_45 : decode cX5_putLevel 45 = .ok (.sipush 3800, 3) := by decide +kernel
theorem dX5_putLevel_48 : decode cX5_putLevel 48 = .ok (.goto 19, 3) := by decide +kernel
theorem dX5_putLevel_51 : decode cX5_putLevel 51 = .ok (.lload_n 3, 1) := by decide +kernel
theorem dX5_putLevel_52 : decode cX5_putLevel 52 = .ok (.ldc2_w 122, 3) := by decide +kernel
theorem dX5_putLevel_55 : decode cX5_putLevel 55 = .ok (.lcmp, 1) := by decide +kernel
theorem dX5_putLevel_56 : decode cX5_putLevel 56 = .ok (.ifCond .le 9, 3) := by decide +kernel
theorem dX5_putLevel_59 : decode cX5_putLevel 59 = .ok (.sipush 20500, 3) := by decide +kernel
theorem dX5_putLevel_62 : decode cX5_putLevel 62 = .ok (.goto 5, 3) := by decide +kernel
theorem dX5_putLevel_65 : decode cX5_putLevel 65 = .ok (.lload_n 3, 1) := by decide +kernel
theorem dX5_putLevel_66 : decode cX5_putLevel 66 = .ok (.l2i, 1) := by decide +kernel
theorem dX5_putLevel_67 : decode cX5_putLevel 67 = .ok (.invokevirtual 124, 3) := by decide +kernel
theorem dX5_putLevel_70 : decode cX5_putLevel 70 = .ok (.return_, 1) := by decide +kernel
theorem dX5_putData_0 : decode cX5_putData 0 = .ok (.iload_n 1, 1) := by decide +kernel
theorem dX5_putData_1 : decode cX5_putData 1 = .ok (.ifCond .eq 9, 3) := by decide +kernel
theorem dX5_putData_4 : decode cX5_putData 4 = .ok (.iload_n 1, 1) := by decide +kernel
theorem dX5_putData_5 : decode cX5_putData 5 = .ok (.bipush 11, 2) := by decide +kernel
theorem dX5_putData_7 : decode cX5_putData 7 = .ok (.if_icmp .ne 68, 3) := by decide +kernel
theorem dX5_putData_10 : decode cX5_putData 10 = .ok (.aload_n 0, 1) := by decide +kernel
theorem dX5_putData_11 : decode cX5_putData 11 = .ok (.sipush 254, 3) := by decide +kernel
theorem dX5_putData_14 : decode cX5_putData 14 = .ok (.invokevirtual 112, 3) := by decide +kernel
theorem dX5_putData_17 : decode cX5_putData 17 = .ok (.aload_n 0, 1) := by decide +kernel
theorem dX5_putData_18 : decode cX5_putData 18 = .ok (.aload_n 0, 1) := by decide +kernel
theorem dX5_putData_19 : decode cX5_putData 19 = .ok (.getfield 7, 3) := by decide +kernel
theorem dX5_putData_22 : decode cX5_putData 22 = .ok (.iconst 0, 1) := by decide +kernel
theorem dX5_putData_23 : decode cX5_putData 23 = .ok (.iaload, 1) := by decide +kernel
theorem dX5_putData_24 : decode cX5_putData 24 = .ok (.invokevirtual 112, 3) := by decide +kernel
theorem dX5_putData_27 : decode cX5_putData 27 = .ok (.aload_n 0, 1) := by decide +kernel
theorem dX5_putData_28 : decode cX5_putData 28 = .ok (.aload_n 0, 1) := by decide +kernel
theorem dX5_putData_29 : decode cX5_putData 29 = .ok (.getfield 7, 3) := by decide +kernel
theorem dX5_putData_32 : decode cX5_putData 32 = .ok (.iconst 1, 1) := by decide +kernel
theorem dX5_putData_33 : decode cX5_putData 33 = .ok (.iaload, 1) := by decide +kernel
theorem dX5_putData_34 : decode cX5_putData 34 = .ok (.invokevirtual 112, 3) := by decide +kernel
theorem dX5_putData_37 : decode cX5_putData 37 = .ok (.aload_n 0, 1) := by decide +kernel
theorem dX5_putData_38 : decode cX5_putData 38 = .ok (.iconst 5, 1) := by decide +kernel
theorem dX5_putData_39 : decode cX5_putData 39 = .ok (.invokevirtual 112, 3) := by decide +kernel
theorem dX5_putData_42 : decode cX5_putData 42 = .ok (.aload_n 0, 1) := by decide +kernel
theorem dX5_putData_43 : decode cX5_putData 43 = .ok (.aload_n 0, 1) := by decide +kernel
theorem dX5_putData_44 : decode cX5_putData 44 = .ok (.getfield 7, 3) := by decide +kernel
theorem dX5_putData_47 : decode cX5_putData 47 = .ok (.iconst 2, 1) := by decide +kernel
theorem dX5_putData_48 : decode cX5_putData 48 = .ok (.iaload, 1) := by decide +kernel
theorem dX5_putData_49 : decode cX5_putData 49 = .ok (.invokevirtual 112, 3) := by decide +kernel
theorem dX5_putData_52 : decode cX5_putData 52 = .ok (.aload_n 0, 1) := by decide +kernel
theorem dX5_putData_53 : decode cX5_putData 53 = .ok (.aload_n 0, 1) := by decide +kernel
theorem dX5_putData_54 : decode cX5_putData 54 = .ok (.getfield 7, 3) := by decide +kernel
theorem dX5_putData_57 : decode cX5_putData 57 = .ok (.iconst 3, 1) := by decide +kernel
theorem dX5_putData_58 : decode cX5_putData 58 = .ok (.iaload, 1) := by decide +kernel
theorem dX5_putData_59 : decode cX5_putData 59 = .ok (.invokevirtual 112, 3) := by decide +kernel
theorem dX5_putData_62 : decode cX5_putData 62 = .ok (.aload_n 0, 1) := by decide +kernel
theorem dX5_putData_63 : decode cX5_putData 63 = .ok (.aload_n 0, 1) := by decide +kernel
theorem dX5_putData_64 : decode cX5_putData 64 = .ok (.getfield 7, 3) := by decide +kernel
theorem dX5_putData_67 : decode cX5_putData 67 = .ok (.iconst 4, 1) := by decide +kernel
theorem dX5_putData_68 : decode cX5_putData 68 = .ok (.iaload, 1) := by decide +kernel
theorem dX5_putData_69 : decode cX5_putData 69 = .ok (.invokevirtual 112, 3) := by decide +kernel
theorem dX5_putData_72 : decode cX5_putData 72 = .ok (.goto 173, 3) := by decide +kernel
theorem dX5_putData_75 : decode cX5_putData 75 = .ok (.iload_n 1, 1) := by decide +kernel
theorem dX5_putData_76 : decode cX5_putData 76 = .ok (.iconst 1, 1) := by decide +kernel
theorem dX5_putData_77 : decode cX5_putData 77 = .ok (.if_icmp .ne 24, 3) := by decide +kernel
theorem dX5_putData_80 : decode cX5_putData 80 = .ok (.aload_n 0, 1) := by decide +kernel
theorem dX5_putData_81 : decode cX5_putData 81 = .ok (.aload_n 0, 1) := by decide +kernel
theorem dX5_putData_82 : decode cX5_putData 82 = .ok (.getfield 99, 3) := by decide +kernel
theorem dX5_putData_85 : decode cX5_putData 85 = .ok (.invokevirtual 112, 3) := by decide +kernel
theorem dX5_putData_88 : decode cX5_putData 88 = .ok (.aload_n 0, 1) := by decide +kernel
theorem dX5_putData_89 : decode cX5_putData 89 = .ok (.aload_n 0, 1) := by decide +kernel
theorem dX5_putData_90 : decode cX5_putData 90 = .ok (.getfield 16, 3) := by decide +kernel
theorem dX5_putData_93 : decode cX5_putData 93 = .ok (.iconst 0, 1) := by decide +kernel
theorem dX5_putData_94 : decode cX5_putData 94 = .ok (.iaload, 1) := by decide +kernel
theorem dX5_putData_95 : decode cX5_putData 95 = .ok (.invokevirtual 124, 3) := by decide +kernel
theorem dX5_putData_98 : decode cX5_putData 98 = .ok (.goto 147, 3) := by decide +kernel
theorem dX5_putData_101 : decode cX5_putData 101 = .ok (.iload_n 1, 1) := by decide +kernel
theorem dX5_putData_102 : decode cX5_putData 102 = .ok (.iconst 2, 1) := by decide +kernel
theorem dX5_putData_103 : decode cX5_putData 103 = .ok (.if_icmp .ne 10, 3) := by decide +kernel
theorem dX5_putData_106 : decode cX5_putData 106 = .ok (.aload_n 0, 1) := by decide +kernel
theorem dX5_putData_107 : decode cX5_putData 107 = .ok (.invokevirtual 127, 3) := by decide +kernel
theorem dX5_putData_110 : decode cX5_putData 110 = .ok (.goto 135, 3) := by decide +kernel
theorem dX5_putData_113 : decode cX5_putData 113 = .ok (.iload_n 1, 1) := by decide +kernel
theorem dX5_putData_114 : decode cX5_putData 114 = .ok (.iconst 3, 1) := by decide +kernel
theorem dX5_putData_115 : decode cX5_putData 115 = .ok (.if_icmp .ne 33, 3) := by decide +kernel
theorem dX5_putData_118 : decode cX5_putData 118 = .ok (.aload_n 0, 1) := by decide +kernel
theorem dX5_putData_119 : decode cX5_putData 119 = .ok (.invokevirtual 127, 3) := by decide +kernel
theorem dX5_putData_122 : decode cX5_putData 122 = .ok (.iconst 0, 1) := by decide +kernel
theorem dX5_putData_123 : decode cX5_putData 123 = .ok (.istore_n 2, 1) := by decide +kernel
theorem dX5_putData_124 : decode cX5_putData 124 = .ok (.iload_n 2, 1) := by decide +kernel
theorem dX5_putData_125 : decode cX5_putData 125 = .ok (.iconst 4, 1) := by decide +kernel
theorem dX5_putData_126 : decode cX5_putData 126 = .ok (.if_icmp .ge 19, 3) := by decide +kernel
theorem dX5_putData_129 : decode cX5_putData 129 = .ok (.aload_n 0, 1) := by decide +kernel
theorem dX5_putData_130 : decode cX5_putData 130 = .ok (.aload_n 0, 1) := by decide +kernel
theorem dX5_putData_131 : decode cX5_putData 131 = .ok (.getfield 16, 3) := by decide +kernel
theorem dX5_putData_134 : decode cX5_putData 134 = .ok (.iload_n 2, 1) := by decide +kernel
theorem dX5_putData_135 : decode cX5_putData 135 = .ok (.iaload, 1) := by decide +kernel
theorem dX5_putData_136 : decode cX5_putData 136 = .ok (.invokevirtual 124, 3) := by decide +kernel
theorem dX5_putData_139 : decode cX5_putData 139 = .ok (.iinc 2 1, 3) := by decide +kernel
theorem dX5_putData_142 : decode cX5_putData 142 = .ok (.goto (-18), 3) := by decide +kernel
theorem dX5_putData_145 : decode cX5_putData 145 = .ok (.goto 100, 3) := by decide +kernel
theorem dX5_putData_148 : decode cX5_putData 148 = .ok (.iload_n 1, 1) := by decide +kernel
theorem dX5_putData_149 : decode cX5_putData 149 = .ok (.bipush 13, 2) := by decide +kernel
theorem dX5_putData_151 : decode cX5_putData 151 = .ok (.if_icmp .ne 30, 3) := by decide +kernel
theorem dX5_putData_154 : decode cX5_putData 154 = .ok (.iconst 0, 1) := by decide +kernel
theorem dX5_putData_155 : decode cX5_putData 155 = .ok (.istore_n 2, 1) := by decide +kernel
theorem dX5_putData_156 : decode cX5_putData 156 = .ok (.iload_n 2, 1) := by decide +kernel
theorem dX5_putData_157 : decode cX5_putData 157 = .ok (.bipush 6, 2) := by decide +kernel
theorem dX5_putData_159 : decode cX5_putData 159 = .ok (.if_icmp .ge 19, 3) := by decide +kernel
theorem dX5_putData_162 : decode cX5_putData 162 = .ok (.aload_n 0, 1) := by decide +kernel
theorem dX5_putData_163 : decode cX5_putData 163 = .ok (.aload_n 0, 1) := by decide +kernel
theorem dX5_putData_164 : decode cX5_putData 164 = .ok (.getfield 13, 3) := by decide +kernel
theorem dX5_putData_167 : decode cX5_putData 167 = .ok (.iload_n 2, 1) := by decide +kernel
theorem dX5_putData_168 : decode cX5_putData 168 = .ok (.iaload, 1) := by decide +kernel
theorem dX5_putData_169 : decode cX5_putData 169 = .ok (.invokevirtual 112, 3) := by decide +kernel
theorem dX5_putData_172 : decode cX5_putData 172 = .ok (.iinc 2 1, 3) := by decide +kernel
theorem dX5_putData_175 : decode cX5_putData 175 = .ok (.goto (-19), 3) := by decide +kernel
theorem dX5_putData_178 : decode cX5_putData 178 = .ok (.goto 67, 3) := by decide +kernel
theorem dX5_putData_181 : decode cX5_putData 181 = .ok (.iload_n 1, 1) := by decide +kernel
theorem dX5_putData_182 : decode cX5_putData 182 = .ok (.bipush 48, 2) := by decide +kernel
theorem dX5_putData_184 : decode cX5_putData 184 = .ok (.if_icmp .ne 30, 3) := by decide +kernel
theorem dX5_putData_187 : decode cX5_putData 187 = .ok (.aload_n 0, 1) := by decide +kernel
theorem dX5_putData_188 : decode cX5_putData 188 = .ok (.aload_n 0, 1) := by decide +kernel
theorem dX5_putData_189 : decode cX5_putData 189 = .ok (.getfield 130, 3) := by decide +kernel
theorem dX5_putData_192 : decode cX5_putData 192 = .ok (.ifCond .eq 7, 3) := by decide +kernel
theorem dX5_putData_195 : decode cX5_putData 195 = .ok (.iconst 1, 1) := by decide +kernel
theorem dX5_putData_196 : decode cX5_putData 196 = .ok (.goto 4, 3) := by decide +kernel
theorem dX5_putData_199 : decode cX5_putData 199 = .ok (.iconst 0, 1) := by decide +kernel
theorem dX5_putData_200 : decode cX5_putData 200 = .ok (.invokevirtual 112, 3) := by decide +kernel
theorem dX5_putData_203 : decode cX5_putData 203 = .ok (.aload_n 0, 1) := by decide +kernel
theorem dX5_putData_204 : decode cX5_putData 204 = .ok (.aload_n 0, 1) := by decide +kernel
theorem dX5_putData_205 : decode cX5_putData 205 = .ok (.getfield 133, 3) := by decide +kernel
theorem dX5_putData_208 : decode cX5_putData 208 = .ok (.invokevirtual 112, 3) := by decide +kernel
theorem dX5_putData_211 : decode cX5_putData 211 = .ok (.goto 34, 3) := by decide +kernel
theorem dX5_putData_214 : decode cX5_putData 214 = .ok (.iload_n 1, 1) := by decide +kernel
theorem dX5_putData_215 : decode cX5_putData 215 = .ok (.bipush 38, 2) := by decide +kernel
theorem dX5_putData_217 : decode cX5_putData 217 = .ok (.if_icmp .eq 28, 3) := by decide +kernel
theorem dX5_putData_220 : decode cX5_putData 220 = .ok (.iconst 0, 1) := by decide +kernel
theorem dX5_putData_221 : decode cX5_putData 221 = .ok (.istore_n 2, 1) := by decide +kernel
theorem dX5_putData_222 : decode cX5_putData 222 = .ok (.iload_n 2, 1) := by decide +kernel
theorem dX5_putData_223 : decode cX5_putData 223 = .ok (.aload_n 0, 1) := by decide +kernel
theorem dX5_putData_224 : decode cX5_putData 224 = .ok (.invokevirtual 71, 3) := by decide +kernel
theorem dX5_putData_227 : decode cX5_putData 227 = .ok (.if_icmp .ge 18, 3) := by decide +kernel
theorem dX5_putData_230 : decode cX5_putData 230 = .ok (.aload_n 0, 1) := by decide +kernel
theorem dX5_putData_231 : decode cX5_putData 231 = .ok (.aload_n 0, 1) := by decide +kernel
theorem dX5_putData_232 : decode cX5_putData 232 = .ok (.iload_n 2, 1) := by decide +kernel
theorem dX5_putData_233 : decode cX5_putData 233 = .ok (.invokevirtual 61, 3) := by decide +kernel
theorem dX5_putData_236 : decode cX5_putData 236 = .ok (.invokevirtual 112, 3) := by decide +kernel
theorem dX5_putData_239 : decode cX5_putData 239 = .ok (.iinc 2 1, 3) := by decide +kernel
theorem dX5_putData_242 : decode cX5_putData 242 = .ok (.goto (-20), 3) := by decide +kernel
theorem dX5_putData_245 : decode cX5_putData 245 = .ok (.return_, 1) := by decide +kernel
theorem dX5_statusOf_0 : decode cX5_statusOf 0 = .ok (.aload_n 0, 1) := by decide +kernel
theorem dX5_statusOf_1 : decode cX5_statusOf 1 = .ok (.getfield 130, 3) := by decide +kernel
theorem dX5_statusOf_4 : decode cX5_statusOf 4 = .ok (.ifCond .eq 9, 3) := by decide +kernel
theorem dX5_statusOf_7 : decode cX5_statusOf 7 = .ok (.sipush 128, 3) := by decide +kernel
theorem dX5_statusOf_10 : decode cX5_statusOf 10 = .ok (.goto 4, 3) := by decide +kernel
theorem dX5_statusOf_13 : decode cX5_statusOf 13 = .ok (.iconst 0, 1) := by decide +kernel
theorem dX5_statusOf_14 : decode cX5_statusOf 14 = .ok (.istore_n 2, 1) := by decide +kernel
theorem dX5_statusOf_15 : decode cX5_statusOf 15 = .ok (.aload_n 0, 1) := by decide +kernel
theorem dX5_statusOf_16 : decode cX5_statusOf 16 = .ok (.getfield 23, 3) := by decide +kernel
theorem dX5_statusOf_19 : decode cX5_statusOf 19 = .ok (.iload_n 1, 1) := by decide +kernel
theorem dX5_statusOf_20 : decode cX5_statusOf 20 = .ok (.baload, 1) := by decide +kernel
theorem dX5_statusOf_21 : decode cX5_statusOf 21 = .ok (.ifCond .eq 10, 3) := by decide +kernel
theorem dX5_statusOf_24 : decode cX5_statusOf 24 = .ok (.iload_n 2, 1) := by decide +kernel
theorem dX5_statusOf_25 : decode cX5_statusOf 25 = .ok (.bipush 64, 2) := by decide +kernel
theorem dX5_statusOf_27 : decode cX5_statusOf 27 = .ok (.iadd, 1) := by decide +kernel
theorem dX5_statusOf_28 : decode cX5_statusOf 28 = .ok (.goto 4, 3) := by decide +kernel
theorem dX5_statusOf_31 : decode cX5_statusOf 31 = .ok (.iload_n 2, 1) := by decide +kernel
theorem dX5_statusOf_32 : decode cX5_statusOf 32 = .ok (.istore_n 2, 1) := by decide +kernel
theorem dX5_statusOf_33 : decode cX5_statusOf 33 = .ok (.aload_n 0, 1) := by decide +kernel
theorem dX5_statusOf_34 : decode cX5_statusOf 34 = .ok (.getfield 27, 3) := by decide +kernel
theorem dX5_statusOf_37 : decode cX5_statusOf 37 = .ok (.iload_n 1, 1) := by decide +kernel
theorem dX5_statusOf_38 : decode cX5_statusOf 38 = .ok (.baload, 1) := by decide +kernel
theorem dX5_statusOf_39 : decode cX5_statusOf 39 = .ok (.ifCond .eq 10, 3) := by decide +kernel
theorem dX5_statusOf_42 : decode cX5_statusOf 42 = .ok (.iload_n 2, 1) := by decide +kernel
theorem dX5_statusOf_43 : decode cX5_statusOf 43 = .ok (.bipush 32, 2) := by decide +kernel
theorem dX5_statusOf_45 : decode cX5_statusOf 45 = .ok (.iadd, 1) := by decide +kernel
theorem dX5_statusOf_46 : decode cX5_statusOf 46 = .ok (.goto 4, 3) := by decide +kernel
theorem dX5_statusOf_49 : decode cX5_statusOf 49 = .ok (.iload_n 2, 1) := by decide +kernel
theorem dX5_statusOf_50 : decode cX5_statusOf 50 = .ok (.istore_n 2, 1) := by decide +kernel
theorem dX5_statusOf_51 : decode cX5_statusOf 51 = .ok (.aload_n 0, 1) := by decide +kernel
theorem dX5_statusOf_52 : decode cX5_statusOf 52 = .ok (.getfield 16, 3) := by decide +kernel
theorem dX5_statusOf_55 : decode cX5_statusOf 55 = .ok (.iconst 0, 1) := by decide +kernel
theorem dX5_statusOf_56 : decode cX5_statusOf 56 = .ok (.iaload, 1) := by decide +kernel
theorem dX5_statusOf_57 : decode cX5_statusOf 57 = .ok (.aload_n 0, 1) := by decide +kernel
theorem dX5_statusOf_58 : decode cX5_statusOf 58 = .ok (.getfield 102, 3) := by decide +kernel
theorem dX5_statusOf_61 : decode cX5_statusOf 61 = .ok (.if_icmp .lt 16, 3) := by decide +kernel
theorem dX5_statusOf_64 : decode cX5_statusOf 64 = .ok (.aload_n 0, 1) := by decide +kernel
theorem dX5_statusOf_65 : decode cX5_statusOf 65 = .ok (.getfield 16, 3) := by decide +kernel
theorem dX5_statusOf_68 : decode cX5_statusOf 68 = .ok (.iconst 0, 1) := by decide +kernel
theorem dX5_statusOf_69 : decode cX5_statusOf 69 = .ok (.iaload, 1) := by decide +kernel
theorem dX5_statusOf_70 : decode cX5_statusOf 70 = .ok (.aload_n 0, 1) := by decide +kernel
theorem dX5_statusOf_71 : decode cX5_statusOf 71 = .ok (.getfield 19, 3) := by decide +kernel
theorem dX5_statusOf_74 : decode cX5_statusOf 74 = .ok (.if_icmp .le 10, 3) := by decide +kernel
theorem dX5_statusOf_77 : decode cX5_statusOf 77 = .ok (.iload_n 2, 1) := by decide +kernel
theorem dX5_statusOf_78 : decode cX5_statusOf 78 = .ok (.bipush 8, 2) := by decide +kernel
theorem dX5_statusOf_80 : decode cX5_statusOf 80 = .ok (.iadd, 1) := by decide +kernel
theorem dX5_statusOf_81 : decode cX5_statusOf 81 = .ok (.goto 4, 3) := by decide +kernel
theorem dX5_statusOf_84 : decode cX5_statusOf 84 = .ok (.iload_n 2, 1) := by decide +kernel
theorem dX5_statusOf_85 : decode cX5_statusOf 85 = .ok (.ireturn, 1) := by decide +kernel
theorem dX5_send_0 : decode cX5_send 0 = .ok (.aload_n 0, 1) := by decide +kernel
theorem dX5_send_1 : decode cX5_send 1 = .ok (.iconst 0, 1) := by decide +kernel
theorem dX5_send_2 : decode cX5_send 2 = .ok (.putfield 109, 3) := by decide +kernel
theorem dX5_send_5 : decode cX5_send 5 = .ok (.aload_n 0, 1) := by decide +kernel
theorem dX5_send_6 : decode cX5_send 6 = .ok (.lload 5, 2) := by decide +kernel
theorem dX5_send_8 : decode cX5_send 8 = .ok (.putfield 41, 3) := by decide +kernel
theorem dX5_send_11 : decode cX5_send 11 = .ok (.iconst 0, 1) := by decide +kernel
theorem dX5_send_12 : decode cX5_send 12 = .ok (.istore 7, 2) := by decide +kernel
theorem dX5_send_14 : decode cX5_send 14 = .ok (.iload 7, 2) := by decide +kernel
theorem dX5_send_16 : decode cX5_send 16 = .ok (.iconst 5, 1) := by decide +kernel
theorem dX5_send_17 : decode cX5_send 17 = .ok (.if_icmp .ge 16, 3) := by decide +kernel
theorem dX5_send_20 : decode cX5_send 20 = .ok (.aload_n 0, 1) := by decide +kernel
theorem dX5_send_21 : decode cX5_send 21 = .ok (.sipush 255, 3) := by decide +kernel
theorem dX5_send_24 : decode cX5_send 24 = .ok (.invokevirtual 112, 3) := by decide +kernel
theorem dX5_send_27 : decode cX5_send 27 = .ok (.iinc 7 1, 3) := by decide +kernel
theorem dX5_send_30 : decode cX5_send 30 = .ok (.goto (-16), 3) := by decide +kernel
theorem dX5_send_33 : decode cX5_send 33 = .ok (.aload_n 0, 1) := by decide +kernel
theorem dX5_send_34 : decode cX5_send 34 = .ok (.iload_n 1, 1) := by decide +kernel
theorem dX5_send_35 : decode cX5_send 35 = .ok (.invokevirtual 112, 3) := by decide +kernel
theorem dX5_send_38 : decode cX5_send 38 = .ok (.iload_n 1, 1) := by decide +kernel
theorem dX5_send_39 : decode cX5_send 39 = .ok (.bipush 6, 2) := by decide +kernel
theorem dX5_send_41 : decode cX5_send 41 = .ok (.if_icmp .ne 10, 3) := by decide +kernel
theorem dX5_send_44 : decode cX5_send 44 = .ok (.aload_n 0, 1) := by decide +kernel
theorem dX5_send_45 : decode cX5_send 45 = .ok (.getfield 80, 3) := by decide +kernel
theorem dX5_send_48 : decode cX5_send 48 = .ok (.goto 9, 3) := by decide +kernel
theorem dX5_send_51 : decode cX5_send 51 = .ok (.aload_n 0, 1) := by decide +kernel
theorem dX5_send_52 : decode cX5_send 52 = .ok (.getfield 7, 3) := by decide +kernel
theorem dX5_send_55 : decode cX5_send 55 = .ok (.iconst 0, 1) := by decide +kernel
theorem dX5_send_56 : decode cX5_send 56 = .ok (.iaload, 1) := by decide +kernel
theorem dX5_send_57 : decode cX5_send 57 = .ok (.istore 7, 2) := by decide +kernel
theorem dX5_send_59 : decode cX5_send 59 = .ok (.iload_n 2, 1) := by decide +kernel
theorem dX5_send_60 : decode cX5_send 60 = .ok (.ifCond .ne 12, 3) := by decide +kernel
theorem dX5_send_63 : decode cX5_send 63 = .ok (.iload 7, 2) := by decide +kernel
theorem dX5_send_65 : decode cX5_send 65 = .ok (.sipush 128, 3) := by decide +kernel
theorem dX5_send_68 : decode cX5_send 68 = .ok (.iadd, 1) := by decide +kernel
theorem dX5_send_69 : decode cX5_send 69 = .ok (.goto 5, 3) := by decide +kernel
theorem dX5_send_72 : decode cX5_send 72 = .ok (.iload 7, 2) := by decide +kernel
theorem dX5_send_74 : decode cX5_send 74 = .ok (.istore 7, 2) := by decide +kernel
theorem dX5_send_76 : decode cX5_send 76 = .ok (.aload_n 0, 1) := by decide +kernel
theorem dX5_send_77 : decode cX5_send 77 = .ok (.aload_n 0, 1) := by decide +kernel
theorem dX5_send_78 : decode cX5_send 78 = .ok (.getfield 105, 3) := by decide +kernel
theorem dX5_send_81 : decode cX5_send 81 = .ok (.ifCond .eq 11, 3) := by decide +kernel
theorem dX5_send_84 : decode cX5_send 84 = .ok (.iload 7, 2) := by decide +kernel
theorem dX5_send_86 : decode cX5_send 86 = .ok (.bipush 64, 2) := by decide +kernel
theorem dX5_send_88 : decode cX5_send 88 = .ok (.iadd, 1) := by decide +kernel
theorem dX5_send_89 : decode cX5_send 89 = .ok (.goto 5, 3) := by decide +kernel
theorem dX5_send_92 : decode cX5_send 92 = .ok (.iload 7, 2) := by decide +kernel
theorem dX5_send_94 : decode cX5_send 94 = .ok (.invokevirtual 112, 3) := by decide +kernel
theorem dX5_send_97 : decode cX5_send 97 = .ok (.iconst 1, 1) := by decide +kernel
theorem dX5_send_98 : decode cX5_send 98 = .ok (.istore 8, 2) := by decide +kernel
theorem dX5_send_100 : decode cX5_send 100 = .ok (.iload 8, 2) := by decide +kernel
theorem dX5_send_102 : decode cX5_send 102 = .ok (.iconst 5, 1) := by decide +kernel
theorem dX5_send_103 : decode cX5_send 103 = .ok (.if_icmp .ge 26, 3) := by decide +kernel
theorem dX5_send_106 : decode cX5_send 106 = .ok (.iload_n 1, 1) := by decide +kernel
theorem dX5_send_107 : decode cX5_send 107 = .ok (.bipush 6, 2) := by decide +kernel
theorem dX5_send_109 : decode cX5_send 109 = .ok (.if_icmp .eq 20, 3) := by decide +kernel
theorem dX5_send_112 : decode cX5_send 112 = .ok (.aload_n 0, 1) := by decide +kernel
theorem dX5_send_113 : decode cX5_send 113 = .ok (.aload_n 0, 1) := by decide +kernel
theorem dX5_send_114 : decode cX5_send 114 = .ok (.getfield 7, 3) := by decide +kernel
theorem dX5_send_117 : decode cX5_send 117 = .ok (.iload 8, 2) := by decide +kernel
theorem dX5_send_119 : decode cX5_send 119 = .ok (.iaload, 1) := by decide +kernel
theorem dX5_send_120 : decode cX5_send 120 = .ok (.invokevirtual 112, 3) := by decide +kernel
theorem dX5_send_123 : decode cX5_send 123 = .ok (.iinc 8 1, 3) := by decide +kernel
theorem dX5_send_126 : decode cX5_send 126 = .ok (.goto (-26), 3) := by decide +kernel
theorem dX5_send_129 : decode cX5_send 129 = .ok (.aload_n 0, 1) := by decide +kernel
theorem dX5_send_130 : decode cX5_send 130 = .ok (.iload_n 3, 1) := by decide +kernel
theorem dX5_send_131 : decode cX5_send 131 = .ok (.invokevirtual 112, 3) := by decide +kernel
theorem dX5_send_134 : decode cX5_send 134 = .ok (.aload_n 0, 1) := by decide +kernel
theorem dX5_send_135 : decode cX5_send 135 = .ok (.getfield 109, 3) := by decide +kernel
theorem dX5_send_138 : decode cX5_send 138 = .ok (.istore 8, 2) := by decide +kernel
theorem dX5_send_140 : decode cX5_send 140 = .ok (.aload_n 0, 1) := by decide +kernel
theorem dX5_send_141 : decode cX5_send 141 = .ok (.iconst 0, 1) := by decide +kernel
theorem dX5_send_142 : decode cX5_send 142 = .ok (.invokevirtual 112, 3) := by decide +kernel
theorem dX5_send_145 : decode cX5_send 145 = .ok (.aload_n 0, 1) := by decide +kernel
theorem dX5_send_146 : decode cX5_send 146 = .ok (.iload 4, 2) := by decide +kernel
theorem dX5_send_148 : decode cX5_send 148 = .ok (.invokevirtual 112, 3) := by decide +kernel
theorem dX5_send_151 : decode cX5_send 151 = .ok (.aload_n 0, 1) := by decide +kernel
theorem dX5_send_152 : decode cX5_send 152 = .ok (.aload_n 0, 1) := by decide +kernel
theorem dX5_send_153 : decode cX5_send 153 = .ok (.iload_n 2, 1) := by decide +kernel
theorem dX5_send_154 : decode cX5_send 154 = .ok (.invokevirtual 136, 3) := by decide +kernel
theorem dX5_send_157 : decode cX5_send 157 = .ok (.invokevirtual 112, 3) := by decide +kernel
theorem dX5_send_160 : decode cX5_send 160 = .ok (.iload 4, 2) := by decide +kernel
theorem dX5_send_162 : decode cX5_send 162 = .ok (.ifCond .ne 8, 3) := by decide +kernel
theorem dX5_send_165 : decode cX5_send 165 = .ok (.aload_n 0, 1) := by decide +kernel
theorem dX5_send_166 : decode cX5_send 166 = .ok (.iload_n 3, 1) := by decide +kernel
theorem dX5_send_167 : decode cX5_send 167 = .ok (.invokevirtual 139, 3) := by decide +kernel
theorem dX5_send_170 : decode cX5_send 170 = .ok (.aload_n 0, 1) := by decide +kernel
theorem dX5_send_171 : decode cX5_send 171 = .ok (.getfield 36, 3) := by decide +kernel
theorem dX5_send_174 : decode cX5_send 174 = .ok (.iload 8, 2) := by decide +kernel
theorem dX5_send_176 : decode cX5_send 176 = .ok (.aload_n 0, 1) := by decide +kernel
theorem dX5_send_177 : decode cX5_send 177 = .ok (.getfield 109, 3) := by decide +kernel
theorem dX5_send_180 : decode cX5_send 180 = .ok (.iload 8, 2) := by decide +kernel
theorem dX5_send_182 : decode cX5_send 182 = .ok (.isub, 1) := by decide +kernel
theorem dX5_send_183 : decode cX5_send 183 = .ok (.iconst 1, 1) := by decide +kernel
theorem dX5_send_184 : decode cX5_send 184 = .ok (.isub, 1) := by decide +kernel
theorem dX5_send_185 : decode cX5_send 185 = .ok (.iastore, 1) := by decide +kernel
theorem dX5_send_186 : decode cX5_send 186 = .ok (.iconst 0, 1) := by decide +kernel
theorem dX5_send_187 : decode cX5_send 187 = .ok (.istore 9, 2) := by decide +kernel
theorem dX5_send_189 : decode cX5_send 189 = .ok (.iconst 5, 1) := by decide +kernel
theorem dX5_send_190 : decode cX5_send 190 = .ok (.istore 10, 2) := by decide +kernel
theorem dX5_send_192 : decode cX5_send 192 = .ok (.iload 10, 2) := by decide +kernel
theorem dX5_send_194 : decode cX5_send 194 = .ok (.aload_n 0, 1) := by decide +kernel
theorem dX5_send_195 : decode cX5_send 195 = .ok (.getfield 109, 3) := by decide +kernel
theorem dX5_send_198 : decode cX5_send 198 = .ok (.if_icmp .ge 21, 3) := by decide +kernel
theorem dX5_send_201 : decode cX5_send 201 = .ok (.iload 9, 2) := by decide +kernel
theorem dX5_send_203 : decode cX5_send 203 = .ok (.aload_n 0, 1) := by decide +kernel
theorem dX5_send_204 : decode cX5_send 204 = .ok (.getfield 36, 3) := by decide +kernel
theorem dX5_send_207 : decode cX5_send 207 = .ok (.iload 10, 2) := by decide +kernel
theorem dX5_send_209 : decode cX5_send 209 = .ok (.iaload, 1) := by decide +kernel
theorem dX5_send_210 : decode cX5_send 210 = .ok (.ixor, 1) := by decide +kernel
theorem dX5_send_211 : decode cX5_send 211 = .ok (.istore 9, 2) := by decide +kernel
theorem dX5_send_213 : decode cX5_send 213 = .ok (.iinc 10 1, 3) := by decide +kernel
theorem dX5_send_216 : decode cX5_send 216 = .ok (.goto (-24), 3) := by decide +kernel
theorem dX5_send_219 : decode cX5_send 219 = .ok (.aload_n 0, 1) := by decide +kernel
theorem dX5_send_220 : decode cX5_send 220 = .ok (.iload 9, 2) := by decide +kernel
theorem dX5_send_222 : decode cX5_send 222 = .ok (.invokevirtual 112, 3) := by decide +kernel
theorem dX5_send_225 : decode cX5_send 225 = .ok (.return_, 1) := by decide +kernel
theorem dX5_answer_0 : decode cX5_answer 0 = .ok (.aload_n 0, 1) := by decide +kernel
theorem dX5_answer_1 : decode cX5_answer 1 = .ok (.dup, 1) := by decide +kernel
theorem dX5_answer_2 : decode cX5_answer 2 = .ok (.getfield 142, 3) := by decide +kernel
theorem dX5_answer_5 : decode cX5_answer 5 = .ok (.iconst 1, 1) := by decide +kernel
theorem dX5_answer_6 : decode cX5_answer 6 = .ok (.iadd, 1) := by decide +kernel
theorem dX5_answer_7 : decode cX5_answer 7 = .ok (.putfield 142, 3) := by decide +kernel
theorem dX5_answer_10 : decode cX5_answer 10 = .ok (.aload_n 0, 1) := by decide +kernel
theorem dX5_answer_11 : decode cX5_answer 11 = .ok (.invokevirtual 145, 3) := by decide +kernel
theorem dX5_answer_14 : decode cX5_answer 14 = .ok (.istore_n 1, 1) := by decide +kernel
theorem dX5_answer_15 : decode cX5_answer 15 = .ok (.aload_n 0, 1) := by decide +kernel
theorem dX5_answer_16 : decode cX5_answer 16 = .ok (.invokevirtual 83, 3) := by decide +kernel
theorem dX5_answer_19 : decode cX5_answer 19 = .ok (.ifCond .eq 8, 3) := by decide +kernel
theorem dX5_answer_22 : decode cX5_answer 22 = .ok (.iload_n 1, 1) := by decide +kernel
theorem dX5_answer_23 : decode cX5_answer 23 = .ok (.ifCond .eq 4, 3) := by decide +kernel
theorem dX5_answer_26 : decode cX5_answer 26 = .ok (.return_, 1) := by decide +kernel
theorem dX5_answer_27 : decode cX5_answer 27 = .ok (.iload_n 1, 1) := by decide +kernel
theorem dX5_answer_28 : decode cX5_answer 28 = .ok (.ifCond .ne 7, 3) := by decide +kernel
theorem dX5_answer_31 : decode cX5_answer 31 = .ok (.aload_n 0, 1) := by decide +kernel
theorem dX5_answer_32 : decode cX5_answer 32 = .ok (.invokevirtual 148, 3) := by decide +kernel
theorem dX5_answer_35 : decode cX5_answer 35 = .ok (.aload_n 0, 1) := by decide +kernel
theorem dX5_answer_36 : decode cX5_answer 36 = .ok (.dup, 1) := by decide +kernel
theorem dX5_answer_37 : decode cX5_answer 37 = .ok (.getfield 133, 3) := by decide +kernel
theorem dX5_answer_40 : decode cX5_answer 40 = .ok (.iconst 1, 1) := by decide +kernel
theorem dX5_answer_41 : decode cX5_answer 41 = .ok (.iadd, 1) := by decide +kernel
theorem dX5_answer_42 : decode cX5_answer 42 = .ok (.putfield 133, 3) := by decide +kernel
theorem dX5_answer_45 : decode cX5_answer 45 = .ok (.aload_n 0, 1) := by decide +kernel
theorem dX5_answer_46 : decode cX5_answer 46 = .ok (.aload_n 0, 1) := by decide +kernel
theorem dX5_answer_47 : decode cX5_answer 47 = .ok (.invokevirtual 57, 3) := by decide +kernel
theorem dX5_answer_50 : decode cX5_answer 50 = .ok (.iconst 5, 1) := by decide +kernel
theorem dX5_answer_51 : decode cX5_answer 51 = .ok (.if_icmp .ne 9, 3) := by decide +kernel
theorem dX5_answer_54 : decode cX5_answer 54 = .ok (.sipush 134, 3) := by decide +kernel
theorem dX5_answer_57 : decode cX5_answer 57 = .ok (.goto 5, 3) := by decide +kernel
theorem dX5_answer_60 : decode cX5_answer 60 = .ok (.bipush 6, 2) := by decide +kernel
theorem dX5_answer_62 : decode cX5_answer 62 = .ok (.aload_n 0, 1) := by decide +kernel
theorem dX5_answer_63 : decode cX5_answer 63 = .ok (.invokevirtual 96, 3) := by decide +kernel
theorem dX5_answer_66 : decode cX5_answer 66 = .ok (.aload_n 0, 1) := by decide +kernel
theorem dX5_answer_67 : decode cX5_answer 67 = .ok (.invokevirtual 77, 3) := by decide +kernel
theorem dX5_answer_70 : decode cX5_answer 70 = .ok (.iload_n 1, 1) := by decide +kernel
theorem dX5_answer_71 : decode cX5_answer 71 = .ok (.aload_n 0, 1) := by decide +kernel
theorem dX5_answer_72 : decode cX5_answer 72 = .ok (.getfield 151, 3) := by decide +kernel
theorem dX5_answer_75 : decode cX5_answer 75 = .ok (.i2l, 1) := by decide +kernel
theorem dX5_answer_76 : decode cX5_answer 76 = .ok (.ldc2_w 154, 3) := by decide +kernel
theorem dX5_answer_79 : decode cX5_answer 79 = .ok (.ladd, 1) := by decide +kernel
theorem dX5_answer_80 : decode cX5_answer 80 = .ok (.invokevirtual 156, 3) := by decide +kernel
theorem dX5_answer_83 : decode cX5_answer 83 = .ok (.aload_n 0, 1) := by decide +kernel
theorem dX5_answer_84 : decode cX5_answer 84 = .ok (.getfield 27, 3) := by decide +kernel
theorem dX5_answer_87 : decode cX5_answer 87 = .ok (.aload_n 0, 1) := by decide +kernel
theorem dX5_answer_88 : decode cX5_answer 88 = .ok (.invokevirtual 96, 3) := by decide +kernel
theorem dX5_answer_91 : decode cX5_answer 91 = .ok (.iconst 0, 1) := by decide +kernel
theorem dX5_answer_92 : decode cX5_answer 92 = .ok (.bastore, 1) := by decide +kernel
theorem dX5_answer_93 : decode cX5_answer 93 = .ok (.return_, 1) := by decide +kernel
theorem dX5_isBusy_0 : decode cX5_isBusy 0 = .ok (.aload_n 0, 1) := by decide +kernel
theorem dX5_isBusy_1 : decode cX5_isBusy 1 = .ok (.getfield 41, 3) := by decide +kernel
theorem dX5_isBusy_4 : decode cX5_isBusy 4 = .ok (.ldc2_w 39, 3) := by decide +kernel
theorem dX5_isBusy_7 : decode cX5_isBusy 7 = .ok (.lcmp, 1) := by decide +kernel
theorem dX5_isBusy_8 : decode cX5_isBusy 8 = .ok (.ifCond .eq 7, 3) := by decide +kernel
theorem dX5_isBusy_11 : decode cX5_isBusy 11 = .ok (.iconst 1, 1) := by decide +kernel
theorem dX5_isBusy_12 : decode cX5_isBusy 12 = .ok (.goto 4, 3) := by decide +kernel
theorem dX5_isBusy_15 : decode cX5_isBusy 15 = .ok (.iconst 0, 1) := by decide +kernel
theorem dX5_isBusy_16 : decode cX5_isBusy 16 = .ok (.ireturn, 1) := by decide +kernel
theorem dX5_pass_0 : decode cX5_pass 0 = .ok (.aload_n 0, 1) := by decide +kernel
theorem dX5_pass_1 : decode cX5_pass 1 = .ok (.invokevirtual 160, 3) := by decide +kernel
theorem dX5_pass_4 : decode cX5_pass 4 = .ok (.istore_n 2, 1) := by decide +kernel
theorem dX5_pass_5 : decode cX5_pass 5 = .ok (.iload_n 2, 1) := by decide +kernel
theorem dX5_pass_6 : decode cX5_pass 6 = .ok (.ifCond .ne 72, 3) := by decide +kernel
theorem dX5_pass_9 : decode cX5_pass 9 = .ok (.aload_n 0, 1) := by decide +kernel
theorem dX5_pass_10 : decode cX5_pass 10 = .ok (.getfield 105, 3) := by decide +kernel
theorem dX5_pass_13 : decode cX5_pass 13 = .ok (.ifCond .eq 65, 3) := by decide +kernel
theorem dX5_pass_16 : decode cX5_pass 16 = .ok (.aload_n 0, 1) := by decide +kernel
theorem dX5_pass_17 : decode cX5_pass 17 = .ok (.getfield 65, 3) := by decide +kernel
theorem dX5_pass_20 : decode cX5_pass 20 = .ok (.ifCond .ne 58, 3) := by decide +kernel
theorem dX5_pass_23 : decode cX5_pass 23 = .ok (.aload_n 0, 1) := by decide +kernel
theorem dX5_pass_24 : decode cX5_pass 24 = .ok (.getfield 68, 3) := by decide +kernel
theorem dX5_pass_27 : decode cX5_pass 27 = .ok (.ifCond .ne 51, 3) := by decide +kernel
theorem dX5_pass_30 : decode cX5_pass 30 = .ok (.aload_n 0, 1) := by decide +kernel
theorem dX5_pass_31 : decode cX5_pass 31 = .ok (.invokevirtual 163, 3) := by decide +kernel
theorem dX5_pass_34 : decode cX5_pass 34 = .ok (.ldc2_w 167, 3) := by decide +kernel
theorem dX5_pass_37 : decode cX5_pass 37 = .ok (.lcmp, 1) := by decide +kernel
theorem dX5_pass_38 : decode cX5_pass 38 = .ok (.ifCond .lt 40, 3) := by decide +kernel
theorem dX5_pass_41 : decode cX5_pass 41 = .ok (.aload_n 0, 1) := by decide +kernel
theorem dX5_pass_42 : decode cX5_pass 42 = .ok (.getfield 169, 3) := by decide +kernel
theorem dX5_pass_45 : decode cX5_pass 45 = .ok (.iconst 2, 1) := by decide +kernel
theorem dX5_pass_46 : decode cX5_pass 46 = .ok (.irem, 1) := by decide +kernel
theorem dX5_pass_47 : decode cX5_pass 47 = .ok (.istore_n 3, 1) := by decide +kernel
theorem dX5_pass_48 : decode cX5_pass 48 = .ok (.aload_n 0, 1) := by decide +kernel
theorem dX5_pass_49 : decode cX5_pass 49 = .ok (.dup, 1) := by decide +kernel
theorem dX5_pass_50 : decode cX5_pass 50 = .ok (.getfield 169, 3) := by decide +kernel
theorem dX5_pass_53 : decode cX5_pass 53 = .ok (.iconst 1, 1) := by decide +kernel
theorem dX5_pass_54 : decode cX5_pass 54 = .ok (.iadd, 1) := by decide +kernel
theorem dX5_pass_55 : decode cX5_pass 55 = .ok (.putfield 169, 3) := by decide +kernel
theorem dX5_pass_58 : decode cX5_pass 58 = .ok (.aload_n 0, 1) := by decide +kernel
theorem dX5_pass_59 : decode cX5_pass 59 = .ok (.sipush 129, 3) := by decide +kernel
theorem dX5_pass_62 : decode cX5_pass 62 = .ok (.iload_n 3, 1) := by decide +kernel
theorem dX5_pass_63 : decode cX5_pass 63 = .ok (.aload_n 0, 1) := by decide +kernel
theorem dX5_pass_64 : decode cX5_pass 64 = .ok (.getfield 30, 3) := by decide +kernel
theorem dX5_pass_67 : decode cX5_pass 67 = .ok (.iconst 0, 1) := by decide +kernel
theorem dX5_pass_68 : decode cX5_pass 68 = .ok (.aload_n 0, 1) := by decide +kernel
theorem dX5_pass_69 : decode cX5_pass 69 = .ok (.getfield 151, 3) := by decide +kernel
theorem dX5_pass_72 : decode cX5_pass 72 = .ok (.i2l, 1) := by decide +kernel
theorem dX5_pass_73 : decode cX5_pass 73 = .ok (.invokevirtual 156, 3) := by decide +kernel
theorem dX5_pass_76 : decode cX5_pass 76 = .ok (.iconst 1, 1) := by decide +kernel
theorem dX5_pass_77 : decode cX5_pass 77 = .ok (.istore_n 2, 1) := by decide +kernel
theorem dX5_pass_78 : decode cX5_pass 78 = .ok (.aload_n 0, 1) := by decide +kernel
theorem dX5_pass_79 : decode cX5_pass 79 = .ok (.invokevirtual 160, 3) := by decide +kernel
theorem dX5_pass_82 : decode cX5_pass 82 = .ok (.ifCond .eq 116, 3) := by decide +kernel
theorem dX5_pass_85 : decode cX5_pass 85 = .ok (.aload_n 0, 1) := by decide +kernel
theorem dX5_pass_86 : decode cX5_pass 86 = .ok (.getfield 151, 3) := by decide +kernel
theorem dX5_pass_89 : decode cX5_pass 89 = .ok (.i2l, 1) := by decide +kernel
theorem dX5_pass_90 : decode cX5_pass 90 = .ok (.aload_n 0, 1) := by decide +kernel
theorem dX5_pass_91 : decode cX5_pass 91 = .ok (.getfield 41, 3) := by decide +kernel
theorem dX5_pass_94 : decode cX5_pass 94 = .ok (.lcmp, 1) := by decide +kernel
theorem dX5_pass_95 : decode cX5_pass 95 = .ok (.ifCond .lt 103, 3) := by decide +kernel
theorem dX5_pass_98 : decode cX5_pass 98 = .ok (.aload_n 0, 1) := by decide +kernel
theorem dX5_pass_99 : decode cX5_pass 99 = .ok (.getfield 48, 3) := by decide +kernel
theorem dX5_pass_102 : decode cX5_pass 102 = .ok (.aload_n 0, 1) := by decide +kernel
theorem dX5_pass_103 : decode cX5_pass 103 = .ok (.getfield 172, 3) := by decide +kernel
theorem dX5_pass_106 : decode cX5_pass 106 = .ok (.sipush 2000, 3) := by decide +kernel
theorem dX5_pass_109 : decode cX5_pass 109 = .ok (.irem, 1) := by decide +kernel
theorem dX5_pass_110 : decode cX5_pass 110 = .ok (.aload_n 0, 1) := by decide +kernel
theorem dX5_pass_111 : decode cX5_pass 111 = .ok (.getfield 36, 3) := by decide +kernel
theorem dX5_pass_114 : decode cX5_pass 114 = .ok (.aload_n 0, 1) := by decide +kernel
theorem dX5_pass_115 : decode cX5_pass 115 = .ok (.getfield 151, 3) := by decide +kernel
theorem dX5_pass_118 : decode cX5_pass 118 = .ok (.i2l, 1) := by decide +kernel
theorem dX5_pass_119 : decode cX5_pass 119 = .ok (.aload_n 0, 1) := by decide +kernel
theorem dX5_pass_120 : decode cX5_pass 120 = .ok (.getfield 41, 3) := by decide +kernel
theorem dX5_pass_123 : decode cX5_pass 123 = .ok (.lsub, 1) := by decide +kernel
theorem dX5_pass_124 : decode cX5_pass 124 = .ok (.l2i, 1) := by decide +kernel
theorem dX5_pass_125 : decode cX5_pass 125 = .ok (.iaload, 1) := by decide +kernel
theorem dX5_pass_126 : decode cX5_pass 126 = .ok (.iastore, 1) := by decide +kernel
theorem dX5_pass_127 : decode cX5_pass 127 = .ok (.aload_n 0, 1) := by decide +kernel
theorem dX5_pass_128 : decode cX5_pass 128 = .ok (.getfield 51, 3) := by decide +kernel
theorem dX5_pass_131 : decode cX5_pass 131 = .ok (.aload_n 0, 1) := by decide +kernel
theorem dX5_pass_132 : decode cX5_pass 132 = .ok (.getfield 172, 3) := by decide +kernel
theorem dX5_pass_135 : decode cX5_pass 135 = .ok (.sipush 2000, 3) := by decide +kernel
theorem dX5_pass_138 : decode cX5_pass 138 = .ok (.irem, 1) := by decide +kernel
theorem dX5_pass_139 : decode cX5_pass 139 = .ok (.aload_n 0, 1) := by decide +kernel
theorem dX5_pass_140 : decode cX5_pass 140 = .ok (.getfield 151, 3) := by decide +kernel
theorem dX5_pass_143 : decode cX5_pass 143 = .ok (.iastore, 1) := by decide +kernel
theorem dX5_pass_144 : decode cX5_pass 144 = .ok (.aload_n 0, 1) := by decide +kernel
theorem dX5_pass_145 : decode cX5_pass 145 = .ok (.dup, 1) := by decide +kernel
theorem dX5_pass_146 : decode cX5_pass 146 = .ok (.getfield 172, 3) := by decide +kernel
theorem dX5_pass_149 : decode cX5_pass 149 = .ok (.iconst 1, 1) := by decide +kernel
theorem dX5_pass_150 : decode cX5_pass 150 = .ok (.iadd, 1) := by decide +kernel
theorem dX5_pass_151 : decode cX5_pass 151 = .ok (.putfield 172, 3) := by decide +kernel
theorem dX5_pass_154 : decode cX5_pass 154 = .ok (.aload_n 0, 1) := by decide +kernel
theorem dX5_pass_155 : decode cX5_pass 155 = .ok (.aload_n 0, 1) := by decide +kernel
theorem dX5_pass_156 : decode cX5_pass 156 = .ok (.getfield 151, 3) := by decide +kernel
theorem dX5_pass_159 : decode cX5_pass 159 = .ok (.i2l, 1) := by decide +kernel
theorem dX5_pass_160 : decode cX5_pass 160 = .ok (.putfield 45, 3) := by decide +kernel
theorem dX5_pass_163 : decode cX5_pass 163 = .ok (.aload_n 0, 1) := by decide +kernel
theorem dX5_pass_164 : decode cX5_pass 164 = .ok (.aload_n 0, 1) := by decide +kernel
theorem dX5_pass_165 : decode cX5_pass 165 = .ok (.getfield 151, 3) := by decide +kernel
theorem dX5_pass_168 : decode cX5_pass 168 = .ok (.i2l, 1) := by decide +kernel
theorem dX5_pass_169 : decode cX5_pass 169 = .ok (.aload_n 0, 1) := by decide +kernel
theorem dX5_pass_170 : decode cX5_pass 170 = .ok (.getfield 41, 3) := by decide +kernel
theorem dX5_pass_173 : decode cX5_pass 173 = .ok (.lsub, 1) := by decide +kernel
theorem dX5_pass_174 : decode cX5_pass 174 = .ok (.lconst 1, 1) := by decide +kernel
theorem dX5_pass_175 : decode cX5_pass 175 = .ok (.ladd, 1) := by decide +kernel
theorem dX5_pass_176 : decode cX5_pass 176 = .ok (.aload_n 0, 1) := by decide +kernel
theorem dX5_pass_177 : decode cX5_pass 177 = .ok (.getfield 109, 3) := by decide +kernel
theorem dX5_pass_180 : decode cX5_pass 180 = .ok (.i2l, 1) := by decide +kernel
theorem dX5_pass_181 : decode cX5_pass 181 = .ok (.lcmp, 1) := by decide +kernel
theorem dX5_pass_182 : decode cX5_pass 182 = .ok (.ifCond .ne 9, 3) := by decide +kernel
theorem dX5_pass_185 : decode cX5_pass 185 = .ok (.ldc2_w 39, 3) := by decide +kernel
theorem dX5_pass_188 : decode cX5_pass 188 = .ok (.goto 7, 3) := by decide +kernel
theorem dX5_pass_191 : decode cX5_pass 191 = .ok (.aload_n 0, 1) := by decide +kernel
theorem dX5_pass_192 : decode cX5_pass 192 = .ok (.getfield 41, 3) := by decide +kernel
theorem dX5_pass_195 : decode cX5_pass 195 = .ok (.putfield 41, 3) := by decide +kernel
theorem dX5_pass_198 : decode cX5_pass 198 = .ok (.iload_n 2, 1) := by decide +kernel
theorem dX5_pass_199 : decode cX5_pass 199 = .ok (.ifCond .ne 8, 3) := by decide +kernel
theorem dX5_pass_202 : decode cX5_pass 202 = .ok (.iload_n 1, 1) := by decide +kernel
theorem dX5_pass_203 : decode cX5_pass 203 = .ok (.iconst (-1), 1) := by decide +kernel
theorem dX5_pass_204 : decode cX5_pass 204 = .ok (.if_icmp .ne 10, 3) := by decide +kernel
theorem dX5_pass_207 : decode cX5_pass 207 = .ok (.aload_n 0, 1) := by decide +kernel
theorem dX5_pass_208 : decode cX5_pass 208 = .ok (.invokevirtual 74, 3) := by decide +kernel
theorem dX5_pass_211 : decode cX5_pass 211 = .ok (.goto 46, 3) := by decide +kernel
theorem dX5_pass_214 : decode cX5_pass 214 = .ok (.aload_n 0, 1) := by decide +kernel
theorem dX5_pass_215 : decode cX5_pass 215 = .ok (.iload_n 1, 1) := by decide +kernel
theorem dX5_pass_216 : decode cX5_pass 216 = .ok (.invokevirtual 175, 3) := by decide +kernel
theorem dX5_pass_219 : decode cX5_pass 219 = .ok (.ifCond .eq 38, 3) := by decide +kernel
theorem dX5_pass_222 : decode cX5_pass 222 = .ok (.aload_n 0, 1) := by decide +kernel
theorem dX5_pass_223 : decode cX5_pass 223 = .ok (.invokevirtual 179, 3) := by decide +kernel
theorem dX5_pass_226 : decode cX5_pass 226 = .ok (.ifCond .eq 17, 3) := by decide +kernel
theorem dX5_pass_229 : decode cX5_pass 229 = .ok (.aload_n 0, 1) := by decide +kernel
theorem dX5_pass_230 : decode cX5_pass 230 = .ok (.invokevirtual 182, 3) := by decide +kernel
theorem dX5_pass_233 : decode cX5_pass 233 = .ok (.ifCond .eq 10, 3) := by decide +kernel
theorem dX5_pass_236 : decode cX5_pass 236 = .ok (.aload_n 0, 1) := by decide +kernel
theorem dX5_pass_237 : decode cX5_pass 237 = .ok (.invokevirtual 185, 3) := by decide +kernel
theorem dX5_pass_240 : decode cX5_pass 240 = .ok (.goto 13, 3) := by decide +kernel
theorem dX5_pass_243 : decode cX5_pass 243 = .ok (.aload_n 0, 1) := by decide +kernel
theorem dX5_pass_244 : decode cX5_pass 244 = .ok (.dup, 1) := by decide +kernel
theorem dX5_pass_245 : decode cX5_pass 245 = .ok (.getfield 188, 3) := by decide +kernel
theorem dX5_pass_248 : decode cX5_pass 248 = .ok (.iconst 1, 1) := by decide +kernel
theorem dX5_pass_249 : decode cX5_pass 249 = .ok (.iadd, 1) := by decide +kernel
theorem dX5_pass_250 : decode cX5_pass 250 = .ok (.putfield 188, 3) := by decide +kernel
theorem dX5_pass_253 : decode cX5_pass 253 = .ok (.aload_n 0, 1) := by decide +kernel
theorem dX5_pass_254 : decode cX5_pass 254 = .ok (.invokevirtual 74, 3) := by decide +kernel
theorem dX5_pass_257 : decode cX5_pass 257 = .ok (.aload_n 0, 1) := by decide +kernel
theorem dX5_pass_258 : decode cX5_pass 258 = .ok (.iload_n 1, 1) := by decide +kernel
theorem dX5_pass_259 : decode cX5_pass 259 = .ok (.iconst (-1), 1) := by decide +kernel
theorem dX5_pass_260 : decode cX5_pass 260 = .ok (.if_icmp .ne 10, 3) := by decide +kernel
theorem dX5_pass_263 : decode cX5_pass 263 = .ok (.aload_n 0, 1) := by decide +kernel
theorem dX5_pass_264 : decode cX5_pass 264 = .ok (.getfield 45, 3) := by decide +kernel
theorem dX5_pass_267 : decode cX5_pass 267 = .ok (.goto 8, 3) := by decide +kernel
theorem dX5_pass_270 : decode cX5_pass 270 = .ok (.aload_n 0, 1) := by decide +kernel
theorem dX5_pass_271 : decode cX5_pass 271 = .ok (.getfield 151, 3) := by decide +kernel
theorem dX5_pass_274 : decode cX5_pass 274 = .ok (.i2l, 1) := by decide +kernel
theorem dX5_pass_275 : decode cX5_pass 275 = .ok (.putfield 45, 3) := by decide +kernel
theorem dX5_pass_278 : decode cX5_pass 278 = .ok (.aload_n 0, 1) := by decide +kernel
theorem dX5_pass_279 : decode cX5_pass 279 = .ok (.dup, 1) := by decide +kernel
theorem dX5_pass_280 : decode cX5_pass 280 = .ok (.getfield 151, 3) := by decide +kernel
theorem dX5_pass_283 : decode cX5_pass 283 = .ok (.iconst 1, 1) := by decide +kernel
theorem dX5_pass_284 : decode cX5_pass 284 = .ok (.iadd, 1) := by decide +kernel
theorem dX5_pass_285 : decode cX5_pass 285 = .ok (.putfield 151, 3) := by decide +kernel
theorem dX5_pass_288 : decode cX5_pass 288 = .ok (.return_, 1) := by decide +kernel
theorem dX5_quiet_0 : decode cX5_quiet 0 = .ok (.aload_n 0, 1) := by decide +kernel
theorem dX5_quiet_1 : decode cX5_quiet 1 = .ok (.getfield 151, 3) := by decide +kernel
theorem dX5_quiet_4 : decode cX5_quiet 4 = .ok (.i2l, 1) := by decide +kernel
theorem dX5_quiet_5 : decode cX5_quiet 5 = .ok (.lconst 1, 1) := by decide +kernel
theorem dX5_quiet_6 : decode cX5_quiet 6 = .ok (.lsub, 1) := by decide +kernel
theorem dX5_quiet_7 : decode cX5_quiet 7 = .ok (.aload_n 0, 1) := by decide +kernel
theorem dX5_quiet_8 : decode cX5_quiet 8 = .ok (.getfield 45, 3) := by decide +kernel
theorem dX5_quiet_11 : decode cX5_quiet 11 = .ok (.lsub, 1) := by decide +kernel
theorem dX5_quiet_12 : decode cX5_quiet 12 = .ok (.lreturn, 1) := by decide +kernel
theorem dX5_octet_0 : decode cX5_octet 0 = .ok (.aload_n 0, 1) := by decide +kernel
theorem dX5_octet_1 : decode cX5_octet 1 = .ok (.iconst 0, 1) := by decide +kernel
theorem dX5_octet_2 : decode cX5_octet 2 = .ok (.putfield 54, 3) := by decide +kernel
theorem dX5_octet_5 : decode cX5_octet 5 = .ok (.aload_n 0, 1) := by decide +kernel
theorem dX5_octet_6 : decode cX5_octet 6 = .ok (.iload_n 1, 1) := by decide +kernel
theorem dX5_octet_7 : decode cX5_octet 7 = .ok (.sipush 255, 3) := by decide +kernel
theorem dX5_octet_10 : decode cX5_octet 10 = .ok (.iand, 1) := by decide +kernel
theorem dX5_octet_11 : decode cX5_octet 11 = .ok (.invokevirtual 191, 3) := by decide +kernel
theorem dX5_octet_14 : decode cX5_octet 14 = .ok (.aload_n 0, 1) := by decide +kernel
theorem dX5_octet_15 : decode cX5_octet 15 = .ok (.getfield 172, 3) := by decide +kernel
theorem dX5_octet_18 : decode cX5_octet 18 = .ok (.ireturn, 1) := by decide +kernel
theorem dX5_octets_0 : decode cX5_octets 0 = .ok (.aload_n 0, 1) := by decide +kernel
theorem dX5_octets_1 : decode cX5_octets 1 = .ok (.iconst 0, 1) := by decide +kernel
theorem dX5_octets_2 : decode cX5_octets 2 = .ok (.putfield 54, 3) := by decide +kernel
theorem dX5_octets_5 : decode cX5_octets 5 = .ok (.bipush 24, 2) := by decide +kernel
theorem dX5_octets_7 : decode cX5_octets 7 = .ok (.istore_n 2, 1) := by decide +kernel
theorem dX5_octets_8 : decode cX5_octets 8 = .ok (.iload_n 2, 1) := by decide +kernel
theorem dX5_octets_9 : decode cX5_octets 9 = .ok (.ifCond .lt 20, 3) := by decide +kernel
theorem dX5_octets_12 : decode cX5_octets 12 = .ok (.aload_n 0, 1) := by decide +kernel
theorem dX5_octets_13 : decode cX5_octets 13 = .ok (.iload_n 1, 1) := by decide +kernel
theorem dX5_octets_14 : decode cX5_octets 14 = .ok (.iload_n 2, 1) := by decide +kernel
theorem dX5_octets_15 : decode cX5_octets 15 = .ok (.ishr, 1) := by decide +kernel
theorem dX5_octets_16 : decode cX5_octets 16 = .ok (.sipush 255, 3) := by decide +kernel
theorem dX5_octets_19 : decode cX5_octets 19 = .ok (.iand, 1) := by decide +kernel
theorem dX5_octets_20 : decode cX5_octets 20 = .ok (.invokevirtual 191, 3) := by decide +kernel
theorem dX5_octets_23 : decode cX5_octets 23 = .ok (.iinc 2 (-8), 3) := by decide +kernel
theorem dX5_octets_26 : decode cX5_octets 26 = .ok (.goto (-18), 3) := by decide +kernel
theorem dX5_octets_29 : decode cX5_octets 29 = .ok (.aload_n 0, 1) := by decide +kernel
theorem dX5_octets_30 : decode cX5_octets 30 = .ok (.getfield 172, 3) := by decide +kernel
theorem dX5_octets_33 : decode cX5_octets 33 = .ok (.ireturn, 1) := by decide +kernel
theorem dX5_tick_0 : decode cX5_tick 0 = .ok (.aload_n 0, 1) := by decide +kernel
theorem dX5_tick_1 : decode cX5_tick 1 = .ok (.iconst 0, 1) := by decide +kernel
theorem dX5_tick_2 : decode cX5_tick 2 = .ok (.putfield 54, 3) := by decide +kernel
theorem dX5_tick_5 : decode cX5_tick 5 = .ok (.iload_n 1, 1) := by decide +kernel
theorem dX5_tick_6 : decode cX5_tick 6 = .ok (.iconst 1, 1) := by decide +kernel
theorem dX5_tick_7 : decode cX5_tick 7 = .ok (.if_icmp .lt 10, 3) := by decide +kernel
theorem dX5_tick_10 : decode cX5_tick 10 = .ok (.iload_n 1, 1) := by decide +kernel
theorem dX5_tick_11 : decode cX5_tick 11 = .ok (.sipush 1000, 3) := by decide +kernel
theorem dX5_tick_14 : decode cX5_tick 14 = .ok (.if_icmp .le 5, 3) := by decide +kernel
theorem dX5_tick_17 : decode cX5_tick 17 = .ok (.iconst (-1), 1) := by decide +kernel
theorem dX5_tick_18 : decode cX5_tick 18 = .ok (.ireturn, 1) := by decide +kernel
theorem dX5_tick_19 : decode cX5_tick 19 = .ok (.iconst 0, 1) := by decide +kernel
theorem dX5_tick_20 : decode cX5_tick 20 = .ok (.istore_n 2, 1) := by decide +kernel
theorem dX5_tick_21 : decode cX5_tick 21 = .ok (.iload_n 2, 1) := by decide +kernel
theorem dX5_tick_22 : decode cX5_tick 22 = .ok (.iload_n 1, 1) := by decide +kernel
theorem dX5_tick_23 : decode cX5_tick 23 = .ok (.if_icmp .ge 14, 3) := by decide +kernel
theorem dX5_tick_26 : decode cX5_tick 26 = .ok (.aload_n 0, 1) := by decide +kernel
theorem dX5_tick_27 : decode cX5_tick 27 = .ok (.iconst (-1), 1) := by decide +kernel
theorem dX5_tick_28 : decode cX5_tick 28 = .ok (.invokevirtual 191, 3) := by decide +kernel
theorem dX5_tick_31 : decode cX5_tick 31 = .ok (.iinc 2 1, 3) := by decide +kernel
theorem dX5_tick_34 : decode cX5_tick 34 = .ok (.goto (-13), 3) := by decide +kernel
theorem dX5_tick_37 : decode cX5_tick 37 = .ok (.aload_n 0, 1) := by decide +kernel
theorem dX5_tick_38 : decode cX5_tick 38 = .ok (.getfield 172, 3) := by decide +kernel
theorem dX5_tick_41 : decode cX5_tick 41 = .ok (.ireturn, 1) := by decide +kernel
theorem dX5_isKept_0 : decode cX5_isKept 0 = .ok (.iload_n 1, 1) := by decide +kernel
theorem dX5_isKept_1 : decode cX5_isKept 1 = .ok (.ifCond .lt 27, 3) := by decide +kernel
theorem dX5_isKept_4 : decode cX5_isKept 4 = .ok (.iload_n 1, 1) := by decide +kernel
theorem dX5_isKept_5 : decode cX5_isKept 5 = .ok (.aload_n 0, 1) := by decide +kernel
theorem dX5_isKept_6 : decode cX5_isKept 6 = .ok (.getfield 172, 3) := by decide +kernel
theorem dX5_isKept_9 : decode cX5_isKept 9 = .ok (.if_icmp .ge 19, 3) := by decide +kernel
theorem dX5_isKept_12 : decode cX5_isKept 12 = .ok (.aload_n 0, 1) := by decide +kernel
theorem dX5_isKept_13 : decode cX5_isKept 13 = .ok (.getfield 172, 3) := by decide +kernel
theorem dX5_isKept_16 : decode cX5_isKept 16 = .ok (.iload_n 1, 1) := by decide +kernel
theorem dX5_isKept_17 : decode cX5_isKept 17 = .ok (.isub, 1) := by decide +kernel
theorem dX5_isKept_18 : decode cX5_isKept 18 = .ok (.sipush 2000, 3) := by decide +kernel
theorem dX5_isKept_21 : decode cX5_isKept 21 = .ok (.if_icmp .gt 7, 3) := by decide +kernel
theorem dX5_isKept_24 : decode cX5_isKept 24 = .ok (.iconst 1, 1) := by decide +kernel
theorem dX5_isKept_25 : decode cX5_isKept 25 = .ok (.goto 4, 3) := by decide +kernel
theorem dX5_isKept_28 : decode cX5_isKept 28 = .ok (.iconst 0, 1) := by decide +kernel
theorem dX5_isKept_29 : decode cX5_isKept 29 = .ok (.ireturn, 1) := by decide +kernel
theorem dX5_sent_0 : decode cX5_sent 0 = .ok (.aload_n 0, 1) := by decide +kernel
theorem dX5_sent_1 : decode cX5_sent 1 = .ok (.iconst 0, 1) := by decide +kernel
theorem dX5_sent_2 : decode cX5_sent 2 = .ok (.putfield 54, 3) := by decide +kernel
theorem dX5_sent_5 : decode cX5_sent 5 = .ok (.aload_n 0, 1) := by decide +kernel
theorem dX5_sent_6 : decode cX5_sent 6 = .ok (.iload_n 1, 1) := by decide +kernel
theorem dX5_sent_7 : decode cX5_sent 7 = .ok (.invokevirtual 194, 3) := by decide +kernel
theorem dX5_sent_10 : decode cX5_sent 10 = .ok (.ifCond .eq 16, 3) := by decide +kernel
theorem dX5_sent_13 : decode cX5_sent 13 = .ok (.aload_n 0, 1) := by decide +kernel
theorem dX5_sent_14 : decode cX5_sent 14 = .ok (.getfield 48, 3) := by decide +kernel
theorem dX5_sent_17 : decode cX5_sent 17 = .ok (.iload_n 1, 1) := by decide +kernel
theorem dX5_sent_18 : decode cX5_sent 18 = .ok (.sipush 2000, 3) := by decide +kernel
theorem dX5_sent_21 : decode cX5_sent 21 = .ok (.irem, 1) := by decide +kernel
theorem dX5_sent_22 : decode cX5_sent 22 = .ok (.iaload, 1) := by decide +kernel
theorem dX5_sent_23 : decode cX5_sent 23 = .ok (.goto 4, 3) := by decide +kernel
theorem dX5_sent_26 : decode cX5_sent 26 = .ok (.iconst (-1), 1) := by decide +kernel
theorem dX5_sent_27 : decode cX5_sent 27 = .ok (.ireturn, 1) := by decide +kernel
theorem dX5_when_0 : decode cX5_when 0 = .ok (.aload_n 0, 1) := by decide +kernel
theorem dX5_when_1 : decode cX5_when 1 = .ok (.iconst 0, 1) := by decide +kernel
theorem dX5_when_2 : decode cX5_when 2 = .ok (.putfield 54, 3) := by decide +kernel
theorem dX5_when_5 : decode cX5_when 5 = .ok (.aload_n 0, 1) := by decide +kernel
theorem dX5_when_6 : decode cX5_when 6 = .ok (.iload_n 1, 1) := by decide +kernel
theorem dX5_when_7 : decode cX5_when 7 = .ok (.invokevirtual 194, 3) := by decide +kernel
theorem dX5_when_10 : decode cX5_when 10 = .ok (.ifCond .eq 16, 3) := by decide +kernel
theorem dX5_when_13 : decode cX5_when 13 = .ok (.aload_n 0, 1) := by decide +kernel
theorem dX5_when_14 : decode cX5_when 14 = .ok (.getfield 51, 3) := by decide +kernel
theorem dX5_when_17 : decode cX5_when 17 = .ok (.iload_n 1, 1) := by decide +kernel
theorem dX5_when_18 : decode cX5_when 18 = .ok (.sipush 2000, 3) := by decide +kernel
theorem dX5_when_21 : decode cX5_when 21 = .ok (.irem, 1) := by decide +kernel
theorem dX5_when_22 : decode cX5_when 22 = .ok (.iaload, 1) := by decide +kernel
theorem dX5_when_23 : decode cX5_when 23 = .ok (.goto 4, 3) := by decide +kernel
theorem dX5_when_26 : decode cX5_when 26 = .ok (.iconst (-1), 1) := by decide +kernel
theorem dX5_when_27 : decode cX5_when 27 = .ok (.ireturn, 1) := by decide +kernel
theorem dX5_variable_0 : decode cX5_variable 0 = .ok (.aload_n 0, 1) := by decide +kernel
theorem dX5_variable_1 : decode cX5_variable 1 = .ok (.iconst 0, 1) := by decide +kernel
theorem dX5_variable_2 : decode cX5_variable 2 = .ok (.putfield 54, 3) := by decide +kernel
theorem dX5_variable_5 : decode cX5_variable 5 = .ok (.iload_n 1, 1) := by decide +kernel
theorem dX5_variable_6 : decode cX5_variable 6 = .ok (.ifCond .lt 8, 3) := by decide +kernel
theorem dX5_variable_9 : decode cX5_variable 9 = .ok (.iload_n 1, 1) := by decide +kernel
theorem dX5_variable_10 : decode cX5_variable 10 = .ok (.iconst 3, 1) := by decide +kernel
theorem dX5_variable_11 : decode cX5_variable 11 = .ok (.if_icmp .le 7, 3) := by decide +kernel
theorem dX5_variable_14 : decode cX5_variable 14 = .ok (.ldc2_w 39, 3) := by decide +kernel
theorem dX5_variable_17 : decode cX5_variable 17 = .ok (.lreturn, 1) := by decide +kernel
theorem dX5_variable_18 : decode cX5_variable 18 = .ok (.aload_n 0, 1) := by decide +kernel
theorem dX5_variable_19 : decode cX5_variable 19 = .ok (.getfield 16, 3) := by decide +kernel
theorem dX5_variable_22 : decode cX5_variable 22 = .ok (.iload_n 1, 1) := by decide +kernel
theorem dX5_variable_23 : decode cX5_variable 23 = .ok (.iaload, 1) := by decide +kernel
theorem dX5_variable_24 : decode cX5_variable 24 = .ok (.istore_n 3, 1) := by decide +kernel
theorem dX5_variable_25 : decode cX5_variable 25 = .ok (.aload_n 0, 1) := by decide +kernel
theorem dX5_variable_26 : decode cX5_variable 26 = .ok (.getfield 16, 3) := by decide +kernel
theorem dX5_variable_29 : decode cX5_variable 29 = .ok (.iload_n 1, 1) := by decide +kernel
theorem dX5_variable_30 : decode cX5_variable 30 = .ok (.iload_n 2, 1) := by decide +kernel
theorem dX5_variable_31 : decode cX5_variable 31 = .ok (.iastore, 1) := by decide +kernel
theorem dX5_variable_32 : decode cX5_variable 32 = .ok (.iload_n 3, 1) := by decide +kernel
theorem dX5_variable_33 : decode cX5_variable 33 = .ok (.i2l, 1) := by decide +kernel
theorem dX5_variable_34 : decode cX5_variable 34 = .ok (.lreturn, 1) := by decide +kernel
theorem dX5_failure_0 : decode cX5_failure 0 = .ok (.aload_n 0, 1) := by decide +kernel
theorem dX5_failure_1 : decode cX5_failure 1 = .ok (.iconst 0, 1) := by decide +kernel
theorem dX5_failure_2 : decode cX5_failure 2 = .ok (.putfield 54, 3) := by decide +kernel
theorem dX5_failure_5 : decode cX5_failure 5 = .ok (.aload_n 0, 1) := by decide +kernel
theorem dX5_failure_6 : decode cX5_failure 6 = .ok (.getfield 130, 3) := by decide +kernel
theorem dX5_failure_9 : decode cX5_failure 9 = .ok (.istore_n 2, 1) := by decide +kernel
theorem dX5_failure_10 : decode cX5_failure 10 = .ok (.aload_n 0, 1) := by decide +kernel
theorem dX5_failure_11 : decode cX5_failure 11 = .ok (.iload_n 1, 1) := by decide +kernel
theorem dX5_failure_12 : decode cX5_failure 12 = .ok (.putfield 130, 3) := by decide +kernel
theorem dX5_failure_15 : decode cX5_failure 15 = .ok (.iload_n 2, 1) := by decide +kernel
theorem dX5_failure_16 : decode cX5_failure 16 = .ok (.iload_n 1, 1) := by decide +kernel
theorem dX5_failure_17 : decode cX5_failure 17 = .ok (.if_icmp .ne 7, 3) := by decide +kernel
theorem dX5_failure_20 : decode cX5_failure 20 = .ok (.iconst 0, 1) := by decide +kernel
theorem dX5_failure_21 : decode cX5_failure 21 = .ok (.goto 4, 3) := by decide +kernel
theorem dX5_failure_24 : decode cX5_failure 24 = .ok (.iconst 1, 1) := by decide +kernel
theorem dX5_failure_25 : decode cX5_failure 25 = .ok (.ireturn, 1) := by decide +kernel
theorem dX5_has_0 : decode cX5_has 0 = .ok (.aload_n 0, 1) := by decide +kernel
theorem dX5_has_1 : decode cX5_has 1 = .ok (.iconst 0, 1) := by decide +kernel
theorem dX5_has_2 : decode cX5_has 2 = .ok (.putfield 54, 3) := by decide +kernel
theorem dX5_has_5 : decode cX5_has 5 = .ok (.iload_n 1, 1) := by decide +kernel
theorem dX5_has_6 : decode cX5_has 6 = .ok (.ifCond .lt 9, 3) := by decide +kernel
theorem dX5_has_9 : decode cX5_has 9 = .ok (.iload_n 1, 1) := by decide +kernel
theorem dX5_has_10 : decode cX5_has 10 = .ok (.bipush 9, 2) := by decide +kernel
theorem dX5_has_12 : decode cX5_has 12 = .ok (.if_icmp .le 7, 3) := by decide +kernel
theorem dX5_has_15 : decode cX5_has 15 = .ok (.ldc2_w 39, 3) := by decide +kernel
theorem dX5_has_18 : decode cX5_has 18 = .ok (.lreturn, 1) := by decide +kernel
theorem dX5_has_19 : decode cX5_has 19 = .ok (.iload_n 1, 1) := by decide +kernel
theorem dX5_has_20 : decode cX5_has 20 = .ok (.iconst 4, 1) := by decide +kernel
theorem dX5_has_21 : decode cX5_has 21 = .ok (.if_icmp .ge 47, 3) := by decide +kernel
theorem dX5_has_24 : decode cX5_has 24 = .ok (.iload_n 1, 1) := by decide +kernel
theorem dX5_has_25 : decode cX5_has 25 = .ok (.ifCond .ne 11, 3) := by decide +kernel
theorem dX5_has_28 : decode cX5_has 28 = .ok (.aload_n 0, 1) := by decide +kernel
theorem dX5_has_29 : decode cX5_has 29 = .ok (.getfield 80, 3) := by decide +kernel
theorem dX5_has_32 : decode cX5_has 32 = .ok (.i2l, 1) := by decide +kernel
theorem dX5_has_33 : decode cX5_has 33 = .ok (.goto 34, 3) := by decide +kernel
theorem dX5_has_36 : decode cX5_has 36 = .ok (.iload_n 1, 1) := by decide +kernel
theorem dX5_has_37 : decode cX5_has 37 = .ok (.iconst 1, 1) := by decide +kernel
theorem dX5_has_38 : decode cX5_has 38 = .ok (.if_icmp .ne 11, 3) := by decide +kernel
theorem dX5_has_41 : decode cX5_has 41 = .ok (.aload_n 0, 1) := by decide +kernel
theorem dX5_has_42 : decode cX5_has 42 = .ok (.getfield 99, 3) := by decide +kernel
theorem dX5_has_45 : decode cX5_has 45 = .ok (.i2l, 1) := by decide +kernel
theorem dX5_has_46 : decode cX5_has 46 = .ok (.goto 21, 3) := by decide +kernel
theorem dX5_has_49 : decode cX5_has 49 = .ok (.iload_n 1, 1) := by decide +kernel
theorem dX5_has_50 : decode cX5_has 50 = .ok (.iconst 2, 1) := by decide +kernel
theorem dX5_has_51 : decode cX5_has 51 = .ok (.if_icmp .ne 11, 3) := by decide +kernel
theorem dX5_has_54 : decode cX5_has 54 = .ok (.aload_n 0, 1) := by decide +kernel
theorem dX5_has_55 : decode cX5_has 55 = .ok (.getfield 102, 3) := by decide +kernel
theorem dX5_has_58 : decode cX5_has 58 = .ok (.i2l, 1) := by decide +kernel
theorem dX5_has_59 : decode cX5_has 59 = .ok (.goto 8, 3) := by decide +kernel
theorem dX5_has_62 : decode cX5_has 62 = .ok (.aload_n 0, 1) := by decide +kernel
theorem dX5_has_63 : decode cX5_has 63 = .ok (.getfield 19, 3) := by decide +kernel
theorem dX5_has_66 : decode cX5_has 66 = .ok (.i2l, 1) := by decide +kernel
theorem dX5_has_67 : decode cX5_has 67 = .ok (.lreturn, 1) := by decide +kernel
theorem dX5_has_68 : decode cX5_has 68 = .ok (.iload_n 1, 1) := by decide +kernel
theorem dX5_has_69 : decode cX5_has 69 = .ok (.bipush 6, 2) := by decide +kernel
theorem dX5_has_71 : decode cX5_has 71 = .ok (.if_icmp .ge 29, 3) := by decide +kernel
theorem dX5_has_74 : decode cX5_has 74 = .ok (.iload_n 1, 1) := by decide +kernel
theorem dX5_has_75 : decode cX5_has 75 = .ok (.iconst 5, 1) := by decide +kernel
theorem dX5_has_76 : decode cX5_has 76 = .ok (.if_icmp .ne 11, 3) := by decide +kernel
theorem dX5_has_79 : decode cX5_has 79 = .ok (.aload_n 0, 1) := by decide +kernel
theorem dX5_has_80 : decode cX5_has 80 = .ok (.getfield 30, 3) := by decide +kernel
theorem dX5_has_83 : decode cX5_has 83 = .ok (.i2l, 1) := by decide +kernel
theorem dX5_has_84 : decode cX5_has 84 = .ok (.goto 15, 3) := by decide +kernel
theorem dX5_has_87 : decode cX5_has 87 = .ok (.aload_n 0, 1) := by decide +kernel
theorem dX5_has_88 : decode cX5_has 88 = .ok (.getfield 105, 3) := by decide +kernel
theorem dX5_has_91 : decode cX5_has 91 = .ok (.ifCond .eq 7, 3) := by decide +kernel
theorem dX5_has_94 : decode cX5_has 94 = .ok (.lconst 1, 1) := by decide +kernel
theorem dX5_has_95 : decode cX5_has 95 = .ok (.goto 4, 3) := by decide +kernel
theorem dX5_has_98 : decode cX5_has 98 = .ok (.lconst 0, 1) := by decide +kernel
theorem dX5_has_99 : decode cX5_has 99 = .ok (.lreturn, 1) := by decide +kernel
theorem dX5_has_100 : decode cX5_has 100 = .ok (.iload_n 1, 1) := by decide +kernel
theorem dX5_has_101 : decode cX5_has 101 = .ok (.bipush 6, 2) := by decide +kernel
theorem dX5_has_103 : decode cX5_has 103 = .ok (.if_icmp .ne 11, 3) := by decide +kernel
theorem dX5_has_106 : decode cX5_has 106 = .ok (.aload_n 0, 1) := by decide +kernel
theorem dX5_has_107 : decode cX5_has 107 = .ok (.getfield 133, 3) := by decide +kernel
theorem dX5_has_110 : decode cX5_has 110 = .ok (.i2l, 1) := by decide +kernel
theorem dX5_has_111 : decode cX5_has 111 = .ok (.goto 36, 3) := by decide +kernel
theorem dX5_has_114 : decode cX5_has 114 = .ok (.iload_n 1, 1) := by decide +kernel
theorem dX5_has_115 : decode cX5_has 115 = .ok (.bipush 7, 2) := by decide +kernel
theorem dX5_has_117 : decode cX5_has 117 = .ok (.if_icmp .ne 11, 3) := by decide +kernel
theorem dX5_has_120 : decode cX5_has 120 = .ok (.aload_n 0, 1) := by decide +kernel
theorem dX5_has_121 : decode cX5_has 121 = .ok (.getfield 169, 3) := by decide +kernel
theorem dX5_has_124 : decode cX5_has 124 = .ok (.i2l, 1) := by decide +kernel
theorem dX5_has_125 : decode cX5_has 125 = .ok (.goto 22, 3) := by decide +kernel
theorem dX5_has_128 : decode cX5_has 128 = .ok (.iload_n 1, 1) := by decide +kernel
theorem dX5_has_129 : decode cX5_has 129 = .ok (.bipush 8, 2) := by decide +kernel
theorem dX5_has_131 : decode cX5_has 131 = .ok (.if_icmp .ne 11, 3) := by decide +kernel
theorem dX5_has_134 : decode cX5_has 134 = .ok (.aload_n 0, 1) := by decide +kernel
theorem dX5_has_135 : decode cX5_has 135 = .ok (.getfield 142, 3) := by decide +kernel
theorem dX5_has_138 : decode cX5_has 138 = .ok (.i2l, 1) := by decide +kernel
theorem dX5_has_139 : decode cX5_has 139 = .ok (.goto 8, 3) := by decide +kernel
theorem dX5_has_142 : decode cX5_has 142 = .ok (.aload_n 0, 1) := by decide +kernel
theorem dX5_has_143 : decode cX5_has 143 = .ok (.getfield 188, 3) := by decide +kernel
theorem dX5_has_146 : decode cX5_has 146 = .ok (.i2l, 1) := by decide +kernel
theorem dX5_has_147 : decode cX5_has 147 = .ok (.lreturn, 1) := by decide +kernel
theorem dX5_tag_0 : decode cX5_tag 0 = .ok (.aload_n 0, 1) := by decide +kernel
theorem dX5_tag_1 : decode cX5_tag 1 = .ok (.iconst 0, 1) := by decide +kernel
theorem dX5_tag_2 : decode cX5_tag 2 = .ok (.putfield 54, 3) := by decide +kernel
theorem dX5_tag_5 : decode cX5_tag 5 = .ok (.iload_n 1, 1) := by decide +kernel
theorem dX5_tag_6 : decode cX5_tag 6 = .ok (.ifCond .lt 18, 3) := by decide +kernel
theorem dX5_tag_9 : decode cX5_tag 9 = .ok (.iload_n 1, 1) := by decide +kernel
theorem dX5_tag_10 : decode cX5_tag 10 = .ok (.bipush 6, 2) := by decide +kernel
theorem dX5_tag_12 : decode cX5_tag 12 = .ok (.if_icmp .ge 12, 3) := by decide +kernel
theorem dX5_tag_15 : decode cX5_tag 15 = .ok (.aload_n 0, 1) := by decide +kernel
theorem dX5_tag_16 : decode cX5_tag 16 = .ok (.getfield 13, 3) := by decide +kernel
theorem dX5_tag_19 : decode cX5_tag 19 = .ok (.iload_n 1, 1) := by decide +kernel
theorem dX5_tag_20 : decode cX5_tag 20 = .ok (.iaload, 1) := by decide +kernel
theorem dX5_tag_21 : decode cX5_tag 21 = .ok (.goto 4, 3) := by decide +kernel
theorem dX5_tag_24 : decode cX5_tag 24 = .ok (.iconst (-1), 1) := by decide +kernel
theorem dX5_tag_25 : decode cX5_tag 25 = .ok (.ireturn, 1) := by decide +kernel
theorem dX5_now_0 : decode cX5_now 0 = .ok (.aload_n 0, 1) := by decide +kernel
theorem dX5_now_1 : decode cX5_now 1 = .ok (.iconst 0, 1) := by decide +kernel
theorem dX5_now_2 : decode cX5_now 2 = .ok (.putfield 54, 3) := by decide +kernel
theorem dX5_now_5 : decode cX5_now 5 = .ok (.aload_n 0, 1) := by decide +kernel
theorem dX5_now_6 : decode cX5_now 6 = .ok (.getfield 151, 3) := by decide +kernel
theorem dX5_now_9 : decode cX5_now 9 = .ok (.ireturn, 1) := by decide +kernel
end
section
theorem dJ9_max_f86c9_0 : decode cJ9_max_f86c9 0 = .ok (.lload_n 0, 1) := by decide +kernel
theorem dJ9_max_f86c9_1 : decode cJ9_max_f86c9 1 = .ok (.lload_n 2, 1) := by decide +kernel
theorem dJ9_max_f86c9_2 : decode cJ9_max_f86c9 2 = .ok (.lcmp, 1) := by decide +kernel
theorem dJ9_max_f86c9_3 : decode cJ9_max_f86c9 3 = .ok (.ifCond .lt 7, 3) := by decide +kernel
theorem dJ9_max_f86c9_6 : decode cJ9_max_f86c9 6 = .ok (.lload_n 0, 1) := by decide +kernel
theorem dJ9_max_f86c9_7 : decode cJ9_max_f86c9 7 = .ok (.goto 4, 3) := by decide +kernel
theorem dJ9_max_f86c9_10 : decode cJ9_max_f86c9 10 = .ok (.lload_n 2, 1) := by decide +kernel
theorem dJ9_max_f86c9_11 : decode cJ9_max_f86c9 11 = .ok (.lreturn, 1) := by decide +kernel
theorem dJ9_min_7cf53_0 : decode cJ9_min_7cf53 0 = .ok (.iload_n 0, 1) := by decide +kernel
theorem dJ9_min_7cf53_1 : decode cJ9_min_7cf53 1 = .ok (.iload_n 1, 1) := by decide +kernel
theorem dJ9_min_7cf53_2 : decode cJ9_min_7cf53 2 = .ok (.if_icmp .gt 7, 3) := by decide +kernel
theorem dJ9_min_7cf53_5 : decode cJ9_min_7cf53 5 = .ok (.iload_n 0, 1) := by decide +kernel
theorem dJ9_min_7cf53_6 : decode cJ9_min_7cf53 6 = .ok (.goto 4, 3) := by decide +kernel
theorem dJ9_min_7cf53_9 : decode cJ9_min_7cf53 9 = .ok (.iload_n 1, 1) := by decide +kernel
theorem dJ9_min_7cf53_10 : decode cJ9_min_7cf53 10 = .ok (.ireturn, 1) := by decide +kernel
theorem dJ9_min_f86c9_0 : decode cJ9_min_f86c9 0 = .ok (.lload_n 0, 1) := by decide +kernel
theorem dJ9_min_f86c9_1 : decode cJ9_min_f86c9 1 = .ok (.lload_n 2, 1) := by decide +kernel
theorem dJ9_min_f86c9_2 : decode cJ9_min_f86c9 2 = .ok (.lcmp, 1) := by decide +kernel
theorem dJ9_min_f86c9_3 : decode cJ9_min_f86c9 3 = .ok (.ifCond .gt 7, 3) := by decide +kernel
theorem dJ9_min_f86c9_6 : decode cJ9_min_f86c9 6 = .ok (.lload_n 0, 1) := by decide +kernel
theorem dJ9_min_f86c9_7 : decode cJ9_min_f86c9 7 = .ok (.goto 4, 3) := by decide +kernel
theorem dJ9_min_f86c9_10 : decode cJ9_min_f86c9 10 = .ok (.lload_n 2, 1) := by decide +kernel
theorem dJ9_min_f86c9_11 : decode cJ9_min_f86c9 11 = .ok (.lreturn, 1) := by decide +kernel
theorem dL_cell_0 : decode cL_cell 0 = .ok (.iload_n 1, 1) := by decide +kernel
theorem dL_cell_1 : decode cL_cell 1 = .ok (.aload_n 0, 1) := by decide +kernel
theorem dL_cell_2 : decode cL_cell 2 = .ok (.arraylength, 1) := by decide +kernel
theorem dL_cell_3 : decode cL_cell 3 = .ok (.if_icmp .ge 9, 3) := by decide +kernel
theorem dL_cell_6 : decode cL_cell 6 = .ok (.aload_n 0, 1) := by decide +kernel
theorem dL_cell_7 : decode cL_cell 7 = .ok (.iload_n 1, 1) := by decide +kernel
theorem dL_cell_8 : decode cL_cell 8 = .ok (.iaload, 1) := by decide +kernel
theorem dL_cell_9 : decode cL_cell 9 = .ok (.goto 4, 3) := by decide +kernel
theorem dL_cell_12 : decode cL_cell 12 = .ok (.iconst 0, 1) := by decide +kernel
theorem dL_cell_13 : decode cL_cell 13 = .ok (.ireturn, 1) := by decide +kernel
theorem dL_law_0 : decode cL_law 0 = .ok (.new 7, 3) := by decide +kernel
theorem dL_law_3 : decode cL_law 3 = .ok (.dup, 1) := by decide +kernel
theorem dL_law_4 : decode cL_law 4 = .ok (.aload_n 0, 1) := by decide +kernel
theorem dL_law_5 : decode cL_law 5 = .ok (.iconst 0, 1) := by decide +kernel
theorem dL_law_6 : decode cL_law 6 = .ok (.invokestatic 9, 3) := by decide +kernel
theorem dL_law_9 : decode cL_law 9 = .ok (.aload_n 0, 1) := by decide +kernel
theorem dL_law_10 : decode cL_law 10 = .ok (.iconst 1, 1) := by decide +kernel
theorem dL_law_11 : decode cL_law 11 = .ok (.invokestatic 9, 3) := by decide +kernel
theorem dL_law_14 : decode cL_law 14 = .ok (.aload_n 0, 1) := by decide +kernel
theorem dL_law_15 : decode cL_law 15 = .ok (.iconst 2, 1) := by decide +kernel
theorem dL_law_16 : decode cL_law 16 = .ok (.invokestatic 9, 3) := by decide +kernel
theorem dL_law_19 : decode cL_law 19 = .ok (.invokespecial 15, 3) := by decide +kernel
theorem dL_law_22 : decode cL_law 22 = .ok (.astore_n 1, 1) := by decide +kernel
theorem dL_law_23 : decode cL_law 23 = .ok (.new 18, 3) := by decide +kernel
theorem dL_law_26 : decode cL_law 26 = .ok (.dup, 1) := by decide +kernel
theorem dL_law_27 : decode cL_law 27 = .ok (.aload_n 0, 1) := by decide +kernel
theorem dL_law_28 : decode cL_law 28 = .ok (.iconst 0, 1) := by decide +kernel
theorem dL_law_29 : decode cL_law 29 = .ok (.invokestatic 9, 3) := by decide +kernel
theorem dL_law_32 : decode cL_law 32 = .ok (.aload_n 0, 1) := by decide +kernel
theorem dL_law_33 : decode cL_law 33 = .ok (.iconst 1, 1) := by decide +kernel
theorem dL_law_34 : decode cL_law 34 = .ok (.invokestatic 9, 3) := by decide +kernel
theorem dL_law_37 : decode cL_law 37 = .ok (.aload_n 0, 1) := by decide +kernel
theorem dL_law_38 : decode cL_law 38 = .ok (.iconst 2, 1) := by decide +kernel
theorem dL_law_39 : decode cL_law 39 = .ok (.invokestatic 9, 3) := by decide +kernel
theorem dL_law_42 : decode cL_law 42 = .ok (.invokespecial 20, 3) := by decide +kernel
theorem dL_law_45 : decode cL_law 45 = .ok (.astore_n 2, 1) := by decide +kernel
theorem dL_law_46 : decode cL_law 46 = .ok (.iconst 3, 1) := by decide +kernel
theorem dL_law_47 : decode cL_law 47 = .ok (.istore_n 3, 1) := by decide +kernel
theorem dL_law_48 : decode cL_law 48 = .ok (.iload_n 3, 1) := by decide +kernel
theorem dL_law_49 : decode cL_law 49 = .ok (.aload_n 0, 1) := by decide +kernel
theorem dL_law_50 : decode cL_law 50 = .ok (.arraylength, 1) := by decide +kernel
theorem dL_law_51 : decode cL_law 51 = .ok (.iconst 3, 1) := by decide +kernel
theorem dL_law_52 : decode cL_law 52 = .ok (.isub, 1) := by decide +kernel
theorem dL_law_53 : decode cL_law 53 = .ok (.if_icmp .gt 317, 3) := by decide +kernel
theorem dL_law_56 : decode cL_law 56 = .ok (.aload_n 0, 1) := by decide +kernel
theorem dL_law_57 : decode cL_law 57 = .ok (.iload_n 3, 1) := by decide +kernel
theorem dL_law_58 : decode cL_law 58 = .ok (.iaload, 1) := by decide +kernel
theorem dL_law_59 : decode cL_law 59 = .ok (.bipush 15, 2) := by decide +kernel
theorem dL_law_61 : decode cL_law 61 = .ok (.iand, 1) := by decide +kernel
theorem dL_law_62 : decode cL_law 62 = .ok (.tableswitch 302 0 9 #[54, 77, 100, 123, 146, 169, 203, 242, 266, 289], 54) := by decide +kernel
theorem dL_law_116 : decode cL_law 116 = .ok (.aload_n 1, 1) := by decide +kernel
theorem dL_law_117 : decode cL_law 117 = .ok (.aload_n 0, 1) := by decide +kernel
theorem dL_law_118 : decode cL_law 118 = .ok (.iload_n 3, 1) := by decide +kernel
theorem dL_law_119 : decode cL_law 119 = .ok (.iconst 1, 1) := by decide +kernel
theorem dL_law_120 : decode cL_law 120 = .ok (.iadd, 1) := by decide +kernel
theorem dL_law_121 : decode cL_law 121 = .ok (.iaload, 1) := by decide +kernel
theorem dL_law_122 : decode cL_law 122 = .ok (.invokevirtual 21, 3) := by decide +kernel
theorem dL_law_125 : decode cL_law 125 = .ok (.aload_n 2, 1) := by decide +kernel
theorem dL_law_126 : decode cL_law 126 = .ok (.aload_n 0, 1) := by decide +kernel
theorem dL_law_127 : decode cL_law 127 = .ok (.iload_n 3, 1) := by decide +kernel
theorem dL_law_128 : decode cL_law 128 = .ok (.iconst 1, 1) := by decide +kernel
theorem dL_law_129 : decode cL_law 129 = .ok (.iadd, 1) := by decide +kernel
theorem dL_law_130 : decode cL_law 130 = .ok (.iaload, 1) := by decide +kernel
theorem dL_law_131 : decode cL_law 131 = .ok (.invokevirtual 25, 3) := by decide +kernel
theorem dL_law_134 : decode cL_law 134 = .ok (.if_icmp .eq 230, 3) := by decide +kernel
theorem dL_law_137 : decode cL_law 137 = .ok (.iconst 0, 1) := by decide +kernel
theorem dL_law_138 : decode cL_law 138 = .ok (.ireturn, 1) := by decide +kernel
theorem dL_law_139 : decode cL_law 139 = .ok (.aload_n 1, 1) := by decide +kernel
theorem dL_law_140 : decode cL_law 140 = .ok (.aload_n 0, 1) := by decide +kernel
theorem dL_law_141 : decode cL_law 141 = .ok (.iload_n 3, 1) := by decide +kernel
theorem dL_law_142 : decode cL_law 142 = .ok (.iconst 1, 1) := by decide +kernel
theorem dL_law_143 : decode cL_law 143 = .ok (.iadd, 1) := by decide +kernel
theorem dL_law_144 : decode cL_law 144 = .ok (.iaload, 1) := by decide +kernel
theorem dL_law_145 : decode cL_law 145 = .ok (.invokevirtual 26, 3) := by decide +kernel
theorem dL_law_148 : decode cL_law 148 = .ok (.aload_n 2, 1) := by decide +kernel
theorem dL_law_149 : decode cL_law 149 = .ok (.aload_n 0, 1) := by decide +kernel
theorem dL_law_150 : decode cL_law 150 = .ok (.iload_n 3, 1) := by decide +kernel
theorem dL_law_151 : decode cL_law 151 = .ok (.iconst 1, 1) := by decide +kernel
theorem dL_law_152 : decode cL_law 152 = .ok (.iadd, 1) := by decide +kernel
theorem dL_law_153 : decode cL_law 153 = .ok (.iaload, 1) := by decide +kernel
theorem dL_law_154 : decode cL_law 154 = .ok (.invokevirtual 29, 3) := by decide +kernel
theorem dL_law_157 : decode cL_law 157 = .ok (.if_icmp .eq 207, 3) := by decide +kernel
theorem dL_law_160 : decode cL_law 160 = .ok (.iconst 0, 1) := by decide +kernel
theorem dL_law_161 : decode cL_law 161 = .ok (.ireturn, 1) := by decide +kernel
theorem dL_law_162 : decode cL_law 162 = .ok (.aload_n 1, 1) := by decide +kernel
theorem dL_law_163 : decode cL_law 163 = .ok (.aload_n 0, 1) := by decide +kernel
theorem dL_law_164 : decode cL_law 164 = .ok (.iload_n 3, 1) := by decide +kernel
theorem dL_law_165 : decode cL_law 165 = .ok (.iconst 1, 1) := by decide +kernel
theorem dL_law_166 : decode cL_law 166 = .ok (.iadd, 1) := by decide +kernel
theorem dL_law_167 : decode cL_law 167 = .ok (.iaload, 1) := by decide +kernel
theorem dL_law_168 : decode cL_law 168 = .ok (.invokevirtual 30, 3) := by decide +kernel
theorem dL_law_171 : decode cL_law 171 = .ok (.aload_n 2, 1) := by decide +kernel
theorem dL_law_172 : decode cL_law 172 = .ok (.aload_n 0, 1) := by decide +kernel
theorem dL_law_173 : decode cL_law 173 = .ok (.iload_n 3, 1) := by decide +kernel
theorem dL_law_174 : decode cL_law 174 = .ok (.iconst 1, 1) := by decide +kernel
theorem dL_law_175 : decode cL_law 175 = .ok (.iadd, 1) := by decide +kernel
theorem dL_law_176 : decode cL_law 176 = .ok (.iaload, 1) := by decide +kernel
theorem dL_law_177 : decode cL_law 177 = .ok (.invokevirtual 33, 3) := by decide +kernel
theorem dL_law_180 : decode cL_law 180 = .ok (.if_icmp .eq 184, 3) := by decide +kernel
theorem dL_law_183 : decode cL_law 183 = .ok (.iconst 0, 1) := by decide +kernel
theorem dL_law_184 : decode cL_law 184 = .ok (.ireturn, 1) := by decide +kernel
theorem dL_law_185 : decode cL_law 185 = .ok (.aload_n 1, 1) := by decide +kernel
theorem dL_law_186 : decode cL_law 186 = .ok (.aload_n 0, 1) := by decide +kernel
theorem dL_law_187 : decode cL_law 187 = .ok (.iload_n 3, 1) := by decide +kernel
theorem dL_law_188 : decode cL_law 188 = .ok (.iconst 1, 1) := by decide +kernel
theorem dL_law_189 : decode cL_law 189 = .ok (.iadd, 1) := by decide +kernel
theorem dL_law_190 : decode cL_law 190 = .ok (.iaload, 1) := by decide +kernel
theorem dL_law_191 : decode cL_law 191 = .ok (.invokevirtual 34, 3) := by decide +kernel
theorem dL_law_194 : decode cL_law 194 = .ok (.aload_n 2, 1) := by decide +kernel
theorem dL_law_195 : decode cL_law 195 = .ok (.aload_n 0, 1) := by decide +kernel
theorem dL_law_196 : decode cL_law 196 = .ok (.iload_n 3, 1) := by decide +kernel
theorem dL_law_197 : decode cL_law 197 = .ok (.iconst 1, 1) := by decide +kernel
theorem dL_law_198 : decode cL_law 198 = .ok (.iadd, 1) := by decide +kernel
theorem dL_law_199 : decode cL_law 199 = .ok (.iaload, 1) := by decide +kernel
theorem dL_law_200 : decode cL_law 200 = .ok (.invokevirtual 37, 3) := by decide +kernel
theorem dL_law_203 : decode cL_law 203 = .ok (.if_icmp .eq 161, 3) := by decide +kernel
theorem dL_law_206 : decode cL_law 206 = .ok (.iconst 0, 1) := by decide +kernel
theorem dL_law_207 : decode cL_law 207 = .ok (.ireturn, 1) := by decide +kernel
theorem dL_law_208 : decode cL_law 208 = .ok (.aload_n 1, 1) := by decide +kernel
theorem dL_law_209 : decode cL_law 209 = .ok (.aload_n 0, 1) := by decide +kernel
theorem dL_law_210 : decode cL_law 210 = .ok (.iload_n 3, 1) := by decide +kernel
theorem dL_law_211 : decode cL_law 211 = .ok (.iconst 1, 1) := by decide +kernel
theorem dL_law_212 : decode cL_law 212 = .ok (.iadd, 1) := by decide +kernel
theorem dL_law_213 : decode cL_law 213 = .ok (.iaload, 1) := by decide +kernel
theorem dL_law_214 : decode cL_law 214 = .ok (.invokevirtual 38, 3) := by decide +kernel
theorem dL_law_217 : decode cL_law 217 = .ok (.aload_n 2, 1) := by decide +kernel
theorem dL_law_218 : decode cL_law 218 = .ok (.aload_n 0, 1) := by decide +kernel
theorem dL_law_219 : decode cL_law 219 = .ok (.iload_n 3, 1) := by decide +kernel
theorem dL_law_220 : decode cL_law 220 = .ok (.iconst 1, 1) := by decide +kernel
theorem dL_law_221 : decode cL_law 221 = .ok (.iadd, 1) := by decide +kernel
theorem dL_law_222 : decode cL_law 222 = .ok (.iaload, 1) := by decide +kernel
theorem dL_law_223 : decode cL_law 223 = .ok (.invokevirtual 41, 3) := by decide +kernel
theorem dL_law_226 : decode cL_law 226 = .ok (.if_icmp .eq 138, 3) := by decide +kernel
theorem dL_law_229 : decode cL_law 229 = .ok (.iconst 0, 1) := by decide +kernel
theorem dL_law_230 : decode cL_law 230 = .ok (.ireturn, 1) := by decide +kernel
theorem dL_law_231 : decode cL_law 231 = .ok (.aload_n 1, 1) := by decide +kernel
theorem dL_law_232 : decode cL_law 232 = .ok (.aload_n 0, 1) := by decide +kernel
theorem dL_law_233 : decode cL_law 233 = .ok (.iload_n 3, 1) := by decide +kernel
theorem dL_law_234 : decode cL_law 234 = .ok (.iconst 1, 1) := by decide +kernel
theorem dL_law_235 : decode cL_law 235 = .ok (.iadd, 1) := by decide +kernel
theorem dL_law_236 : decode cL_law 236 = .ok (.iaload, 1) := by decide +kernel
theorem dL_law_237 : decode cL_law 237 = .ok (.aload_n 0, 1) := by decide +kernel
theorem dL_law_238 : decode cL_law 238 = .ok (.iload_n 3, 1) := by decide +kernel
theorem dL_law_239 : decode cL_law 239 = .ok (.iconst 2, 1) := by decide +kernel
theorem dL_law_240 : decode cL_law 240 = .ok (.iadd, 1) := by decide +kernel
theorem dL_law_241 : decode cL_law 241 = .ok (.iaload, 1) := by decide +kernel
theorem dL_law_242 : decode cL_law 242 = .ok (.invokevirtual 42, 3) := by decide +kernel
theorem dL_law_245 : decode cL_law 245 = .ok (.aload_n 2, 1) := by decide +kernel
theorem dL_law_246 : decode cL_law 246 = .ok (.aload_n 0, 1) := by decide +kernel
theorem dL_law_247 : decode cL_law 247 = .ok (.iload_n 3, 1) := by decide +kernel
theorem dL_law_248 : decode cL_law 248 = .ok (.iconst 1, 1) := by decide +kernel
theorem dL_law_249 : decode cL_law 249 = .ok (.iadd, 1) := by decide +kernel
theorem dL_law_250 : decode cL_law 250 = .ok (.iaload, 1) := by decide +kernel
theorem dL_law_251 : decode cL_law 251 = .ok (.aload_n 0, 1) := by decide +kernel
theorem dL_law_252 : decode cL_law 252 = .ok (.iload_n 3, 1) := by decide +kernel
theorem dL_law_253 : decode cL_law 253 = .ok (.iconst 2, 1) := by decide +kernel
theorem dL_law_254 : decode cL_law 254 = .ok (.iadd, 1) := by decide +kernel
theorem dL_law_255 : decode cL_law 255 = .ok (.iaload, 1) := by decide +kernel
theorem dL_law_256 : decode cL_law 256 = .ok (.invokevirtual 46, 3) := by decide +kernel
theorem dL_law_259 : decode cL_law 259 = .ok (.lcmp, 1) := by decide +kernel
theorem dL_law_260 : decode cL_law 260 = .ok (.ifCond .eq 104, 3) := by decide +kernel
theorem dL_law_263 : decode cL_law 263 = .ok (.iconst 0, 1) := by decide +kernel
theorem dL_law_264 : decode cL_law 264 = .ok (.ireturn, 1) := by decide +kernel
theorem dL_law_265 : decode cL_law 265 = .ok (.aload_n 1, 1) := by decide +kernel
theorem dL_law_266 : decode cL_law 266 = .ok (.aload_n 0, 1) := by decide +kernel
theorem dL_law_267 : decode cL_law 267 = .ok (.iload_n 3, 1) := by decide +kernel
theorem dL_law_268 : decode cL_law 268 = .ok (.iconst 1, 1) := by decide +kernel
theorem dL_law_269 : decode cL_law 269 = .ok (.iadd, 1) := by decide +kernel
theorem dL_law_270 : decode cL_law 270 = .ok (.iaload, 1) := by decide +kernel
theorem dL_law_271 : decode cL_law 271 = .ok (.ifCond .eq 7, 3) := by decide +kernel
theorem dL_law_274 : decode cL_law 274 = .ok (.iconst 1, 1) := by decide +kernel
theorem dL_law_275 : decode cL_law 275 = .ok (.goto 4, 3) := by decide +kernel
theorem dL_law_278 : decode cL_law 278 = .ok (.iconst 0, 1) := by decide +kernel
theorem dL_law_279 : decode cL_law 279 = .ok (.invokevirtual 47, 3) := by decide +kernel
theorem dL_law_282 : decode cL_law 282 = .ok (.aload_n 2, 1) := by decide +kernel
theorem dL_law_283 : decode cL_law 283 = .ok (.aload_n 0, 1) := by decide +kernel
theorem dL_law_284 : decode cL_law 284 = .ok (.iload_n 3, 1) := by decide +kernel
theorem dL_law_285 : decode cL_law 285 = .ok (.iconst 1, 1) := by decide +kernel
theorem dL_law_286 : decode cL_law 286 = .ok (.iadd, 1) := by decide +kernel
theorem dL_law_287 : decode cL_law 287 = .ok (.iaload, 1) := by decide +kernel
theorem dL_law_288 : decode cL_law 288 = .ok (.ifCond .eq 7, 3) := by decide +kernel
theorem dL_law_291 : decode cL_law 291 = .ok (.iconst 1, 1) := by decide +kernel
theorem dL_law_292 : decode cL_law 292 = .ok (.goto 4, 3) := by decide +kernel
theorem dL_law_295 : decode cL_law 295 = .ok (.iconst 0, 1) := by decide +kernel
theorem dL_law_296 : decode cL_law 296 = .ok (.invokevirtual 51, 3) := by decide +kernel
theorem dL_law_299 : decode cL_law 299 = .ok (.if_icmp .eq 65, 3) := by decide +kernel
theorem dL_law_302 : decode cL_law 302 = .ok (.iconst 0, 1) := by decide +kernel
theorem dL_law_303 : decode cL_law 303 = .ok (.ireturn, 1) := by decide +kernel
theorem dL_law_304 : decode cL_law 304 = .ok (.aload_n 1, 1) := by decide +kernel
theorem dL_law_305 : decode cL_law 305 = .ok (.aload_n 0, 1) := by decide +kernel
theorem dL_law_306 : decode cL_law 306 = .ok (.iload_n 3, 1) := by decide +kernel
theorem dL_law_307 : decode cL_law 307 = .ok (.iconst 1, 1) := by decide +kernel
theorem dL_law_308 : decode cL_law 308 = .ok (.iadd, 1) := by decide +kernel
theorem dL_law_309 : decode cL_law 309 = .ok (.iaload, 1) := by decide +kernel
theorem dL_law_310 : decode cL_law 310 = .ok (.invokevirtual 52, 3) := by decide +kernel
theorem dL_law_313 : decode cL_law 313 = .ok (.aload_n 2, 1) := by decide +kernel
theorem dL_law_314 : decode cL_law 314 = .ok (.aload_n 0, 1) := by decide +kernel
theorem dL_law_315 : decode cL_law 315 = .ok (.iload_n 3, 1) := by decide +kernel
theorem dL_law_316 : decode cL_law 316 = .ok (.iconst 1, 1) := by decide +kernel
theorem dL_law_317 : decode cL_law 317 = .ok (.iadd, 1) := by decide +kernel
theorem dL_law_318 : decode cL_law 318 = .ok (.iaload, 1) := by decide +kernel
theorem dL_law_319 : decode cL_law 319 = .ok (.invokevirtual 56, 3) := by decide +kernel
theorem dL_law_322 : decode cL_law 322 = .ok (.lcmp, 1) := by decide +kernel
theorem dL_law_323 : decode cL_law 323 = .ok (.ifCond .eq 41, 3) := by decide +kernel
theorem dL_law_326 : decode cL_law 326 = .ok (.iconst 0, 1) := by decide +kernel
theorem dL_law_327 : decode cL_law 327 = .ok (.ireturn, 1) := by decide +kernel
theorem dL_law_328 : decode cL_law 328 = .ok (.aload_n 1, 1) := by decide +kernel
theorem dL_law_329 : decode cL_law 329 = .ok (.aload_n 0, 1) := by decide +kernel
theorem dL_law_330 : decode cL_law 330 = .ok (.iload_n 3, 1) := by decide +kernel
theorem dL_law_331 : decode cL_law 331 = .ok (.iconst 1, 1) := by decide +kernel
theorem dL_law_332 : decode cL_law 332 = .ok (.iadd, 1) := by decide +kernel
theorem dL_law_333 : decode cL_law 333 = .ok (.iaload, 1) := by decide +kernel
theorem dL_law_334 : decode cL_law 334 = .ok (.invokevirtual 57, 3) := by decide +kernel
theorem dL_law_337 : decode cL_law 337 = .ok (.aload_n 2, 1) := by decide +kernel
theorem dL_law_338 : decode cL_law 338 = .ok (.aload_n 0, 1) := by decide +kernel
theorem dL_law_339 : decode cL_law 339 = .ok (.iload_n 3, 1) := by decide +kernel
theorem dL_law_340 : decode cL_law 340 = .ok (.iconst 1, 1) := by decide +kernel
theorem dL_law_341 : decode cL_law 341 = .ok (.iadd, 1) := by decide +kernel
theorem dL_law_342 : decode cL_law 342 = .ok (.iaload, 1) := by decide +kernel
theorem dL_law_343 : decode cL_law 343 = .ok (.invokevirtual 60, 3) := by decide +kernel
theorem dL_law_346 : decode cL_law 346 = .ok (.if_icmp .eq 18, 3) := by decide +kernel
theorem dL_law_349 : decode cL_law 349 = .ok (.iconst 0, 1) := by decide +kernel
theorem dL_law_350 : decode cL_law 350 = .ok (.ireturn, 1) := by decide +kernel
theorem dL_law_351 : decode cL_law 351 = .ok (.aload_n 1, 1) := by decide +kernel
theorem dL_law_352 : decode cL_law 352 = .ok (.invokevirtual 61, 3) := by decide +kernel
theorem dL_law_355 : decode cL_law 355 = .ok (.aload_n 2, 1) := by decide +kernel
theorem dL_law_356 : decode cL_law 356 = .ok (.invokevirtual 65, 3) := by decide +kernel
theorem dL_law_359 : decode cL_law 359 = .ok (.if_icmp .eq 5, 3) := by decide +kernel
theorem dL_law_362 : decode cL_law 362 = .ok (.iconst 0, 1) := by decide +kernel
theorem dL_law_363 : decode cL_law 363 = .ok (.ireturn, 1) := by decide +kernel
theorem dL_law_364 : decode cL_law 364 = .ok (.iinc 3 3, 3) := by decide +kernel
theorem dL_law_367 : decode cL_law 367 = .ok (.goto (-319), 3) := by decide +kernel
theorem dL_law_370 : decode cL_law 370 = .ok (.iconst 1, 1) := by decide +kernel
theorem dL_law_371 : decode cL_law 371 = .ok (.ireturn, 1) := by decide +kernel
end
section
/-! each word of the law's list -/
theorem inr1 : ∀ w ∈ wsL_law_r1, w ∈ wsL_law := fun _ h => List.mem_append_left _ (List.mem_append_left _ (List.mem_append_left _ (List.mem_append_left _ (List.mem_append_left _ (List.mem_append_left _ (List.mem_append_left _ (List.mem_append_left _ h)))))))
theorem inr2 : ∀ w ∈ wsL_law_r2, w ∈ wsL_law := fun _ h => List.mem_append_left _ (List.mem_append_left _ (List.mem_append_left _ (List.mem_append_left _ (List.mem_append_left _ (List.mem_append_left _ (List.mem_append_left _ (List.mem_append_right _ (List.mem_append_left _ h))))))))
theorem inr3 : ∀ w ∈ wsL_law_r3, w ∈ wsL_law := fun _ h => List.mem_append_left _ (List.mem_append_left _ (List.mem_append_left _ (List.mem_append_left _ (List.mem_append_left _ (List.mem_append_left _ (List.mem_append_left _ (List.mem_append_right _ (List.mem_append_right _ (List.mem_append_left _ h)))))))))
theorem inr4 : ∀ w ∈ wsL_law_r4, w ∈ wsL_law := fun _ h => List.mem_append_left _ (List.mem_append_left _ (List.mem_append_left _ (List.mem_append_left _ (List.mem_append_left _ (List.mem_append_left _ (List.mem_append_left _ (List.mem_append_right _ (List.mem_append_right _ (List.mem_append_right _ (List.mem_append_left _ h))))))))))
theorem inr5 : ∀ w ∈ wsL_law_r5, w ∈ wsL_law := fun _ h => List.mem_append_left _ (List.mem_append_left _ (List.mem_append_left _ (List.mem_append_left _ (List.mem_append_left _ (List.mem_append_left _ (List.mem_append_left _ (List.mem_append_right _ (List.mem_append_right _ (List.mem_append_right _ (List.mem_append_right _ (List.mem_append_left _ h)))))))))))
theorem inr6 : ∀ w ∈ wsL_law_r6, w ∈ wsL_law := fun _ h => List.mem_append_left _ (List.mem_append_left _ (List.mem_append_left _ (List.mem_append_left _ (List.mem_append_left _ (List.mem_append_left _ (List.mem_append_left _ (List.mem_append_right _ (List.mem_append_right _ (List.mem_append_right _ (List.mem_append_right _ (List.mem_append_right _ (List.mem_append_left _ h))))))))))))
theorem inr7 : ∀ w ∈ wsL_law_r7, w ∈ wsL_law := fun _ h => List.mem_append_left _ (List.mem_append_left _ (List.mem_append_left _ (List.mem_append_left _ (List.mem_append_left _ (List.mem_append_left _ (List.mem_append_left _ (List.mem_append_right _ (List.mem_append_right _ (List.mem_append_right _ (List.mem_append_right _ (List.mem_append_right _ (List.mem_append_right _ (List.mem_append_left _ h)))))))))))))
theorem inr8 : ∀ w ∈ wsL_law_r8, w ∈ wsL_law := fun _ h => List.mem_append_left _ (List.mem_append_left _ (List.mem_append_left _ (List.mem_append_left _ (List.mem_append_left _ (List.mem_append_left _ (List.mem_append_left _ (List.mem_append_right _ (List.mem_append_right _ (List.mem_append_right _ (List.mem_append_right _ (List.mem_append_right _ (List.mem_append_right _ (List.mem_append_right _ (List.mem_append_left _ h))))))))))))))
theorem inr9 : ∀ w ∈ wsL_law_r9, w ∈ wsL_law := fun _ h => List.mem_append_left _ (List.mem_append_left _ (List.mem_append_left _ (List.mem_append_left _ (List.mem_append_left _ (List.mem_append_left _ (List.mem_append_left _ (List.mem_append_right _ (List.mem_append_right _ (List.mem_append_right _ (List.mem_append_right _ (List.mem_append_right _ (List.mem_append_right _ (List.mem_append_right _ (List.mem_append_right _ (List.mem_append_left _ h)))))))))))))))
theorem inr10 : ∀ w ∈ wsL_law_r10, w ∈ wsL_law := fun _ h => List.mem_append_left _ (List.mem_append_left _ (List.mem_append_left _ (List.mem_append_left _ (List.mem_append_left _ (List.mem_append_left _ (List.mem_append_left _ (List.mem_append_right _ (List.mem_append_right _ (List.mem_append_right _ (List.mem_append_right _ (List.mem_append_right _ (List.mem_append_right _ (List.mem_append_right _ (List.mem_append_right _ (List.mem_append_right _ (List.mem_append_left _ h))))))))))))))))
theorem inr11 : ∀ w ∈ wsL_law_r11, w ∈ wsL_law := fun _ h => List.mem_append_left _ (List.mem_append_left _ (List.mem_append_left _ (List.mem_append_left _ (List.mem_append_left _ (List.mem_append_left _ (List.mem_append_left _ (List.mem_append_right _ (List.mem_append_right _ (List.mem_append_right _ (List.mem_append_right _ (List.mem_append_right _ (List.mem_append_right _ (List.mem_append_right _ (List.mem_append_right _ (List.mem_append_right _ (List.mem_append_right _ (List.mem_append_left _ h)))))))))))))))))
theorem inr12 : ∀ w ∈ wsL_law_r12, w ∈ wsL_law := fun _ h => List.mem_append_left _ (List.mem_append_left _ (List.mem_append_left _ (List.mem_append_left _ (List.mem_append_left _ (List.mem_append_left _ (List.mem_append_left _ (List.mem_append_right _ (List.mem_append_right _ (List.mem_append_right _ (List.mem_append_right _ (List.mem_append_right _ (List.mem_append_right _ (List.mem_append_right _ (List.mem_append_right _ (List.mem_append_right _ (List.mem_append_right _ (List.mem_append_right _ (List.mem_append_left _ h))))))))))))))))))
theorem inr13 : ∀ w ∈ wsL_law_r13, w ∈ wsL_law := fun _ h => List.mem_append_left _ (List.mem_append_left _ (List.mem_append_left _ (List.mem_append_left _ (List.mem_append_left _ (List.mem_append_left _ (List.mem_append_left _ (List.mem_append_right _ (List.mem_append_right _ (List.mem_append_right _ (List.mem_append_right _ (List.mem_append_right _ (List.mem_append_right _ (List.mem_append_right _ (List.mem_append_right _ (List.mem_append_right _ (List.mem_append_right _ (List.mem_append_right _ (List.mem_append_right _ (List.mem_append_left _ h)))))))))))))))))))
theorem inr14 : ∀ w ∈ wsL_law_r14, w ∈ wsL_law := fun _ h => List.mem_append_left _ (List.mem_append_left _ (List.mem_append_left _ (List.mem_append_left _ (List.mem_append_left _ (List.mem_append_left _ (List.mem_append_left _ (List.mem_append_right _ (List.mem_append_right _ (List.mem_append_right _ (List.mem_append_right _ (List.mem_append_right _ (List.mem_append_right _ (List.mem_append_right _ (List.mem_append_right _ (List.mem_append_right _ (List.mem_append_right _ (List.mem_append_right _ (List.mem_append_right _ (List.mem_append_right _ (List.mem_append_left _ h))))))))))))))))))))
theorem inr15 : ∀ w ∈ wsL_law_r15, w ∈ wsL_law := fun _ h => List.mem_append_left _ (List.mem_append_left _ (List.mem_append_left _ (List.mem_append_left _ (List.mem_append_left _ (List.mem_append_left _ (List.mem_append_left _ (List.mem_append_right _ (List.mem_append_right _ (List.mem_append_right _ (List.mem_append_right _ (List.mem_append_right _ (List.mem_append_right _ (List.mem_append_right _ (List.mem_append_right _ (List.mem_append_right _ (List.mem_append_right _ (List.mem_append_right _ (List.mem_append_right _ (List.mem_append_right _ (List.mem_append_right _ (List.mem_append_left _ h)))))))))))))))))))))
theorem inr16 : ∀ w ∈ wsL_law_r16, w ∈ wsL_law := fun _ h => List.mem_append_left _ (List.mem_append_left _ (List.mem_append_left _ (List.mem_append_left _ (List.mem_append_left _ (List.mem_append_left _ (List.mem_append_left _ (List.mem_append_right _ (List.mem_append_right _ (List.mem_append_right _ (List.mem_append_right _ (List.mem_append_right _ (List.mem_append_right _ (List.mem_append_right _ (List.mem_append_right _ (List.mem_append_right _ (List.mem_append_right _ (List.mem_append_right _ (List.mem_append_right _ (List.mem_append_right _ (List.mem_append_right _ (List.mem_append_right _ (List.mem_append_left _ h))))))))))))))))))))))
theorem inr17 : ∀ w ∈ wsL_law_r17, w ∈ wsL_law := fun _ h => List.mem_append_left _ (List.mem_append_left _ (List.mem_append_left _ (List.mem_append_left _ (List.mem_append_left _ (List.mem_append_left _ (List.mem_append_left _ (List.mem_append_right _ (List.mem_append_right _ (List.mem_append_right _ (List.mem_append_right _ (List.mem_append_right _ (List.mem_append_right _ (List.mem_append_right _ (List.mem_append_right _ (List.mem_append_right _ (List.mem_append_right _ (List.mem_append_right _ (List.mem_append_right _ (List.mem_append_right _ (List.mem_append_right _ (List.mem_append_right _ (List.mem_append_right _ (List.mem_append_left _ h)))))))))))))))))))))))
theorem inr18 : ∀ w ∈ wsL_law_r18, w ∈ wsL_law := fun _ h => List.mem_append_left _ (List.mem_append_left _ (List.mem_append_left _ (List.mem_append_left _ (List.mem_append_left _ (List.mem_append_left _ (List.mem_append_left _ (List.mem_append_right _ (List.mem_append_right _ (List.mem_append_right _ (List.mem_append_right _ (List.mem_append_right _ (List.mem_append_right _ (List.mem_append_right _ (List.mem_append_right _ (List.mem_append_right _ (List.mem_append_right _ (List.mem_append_right _ (List.mem_append_right _ (List.mem_append_right _ (List.mem_append_right _ (List.mem_append_right _ (List.mem_append_right _ (List.mem_append_right _ (List.mem_append_left _ h))))))))))))))))))))))))
theorem inr19 : ∀ w ∈ wsL_law_r19, w ∈ wsL_law := fun _ h => List.mem_append_left _ (List.mem_append_left _ (List.mem_append_left _ (List.mem_append_left _ (List.mem_append_left _ (List.mem_append_left _ (List.mem_append_left _ (List.mem_append_right _ (List.mem_append_right _ (List.mem_append_right _ (List.mem_append_right _ (List.mem_append_right _ (List.mem_append_right _ (List.mem_append_right _ (List.mem_append_right _ (List.mem_append_right _ (List.mem_append_right _ (List.mem_append_right _ (List.mem_append_right _ (List.mem_append_right _ (List.mem_append_right _ (List.mem_append_right _ (List.mem_append_right _ (List.mem_append_right _ (List.mem_append_right _ (List.mem_append_left _ h)))))))))))))))))))))))))
theorem inr20 : ∀ w ∈ wsL_law_r20, w ∈ wsL_law := fun _ h => List.mem_append_left _ (List.mem_append_left _ (List.mem_append_left _ (List.mem_append_left _ (List.mem_append_left _ (List.mem_append_left _ (List.mem_append_left _ (List.mem_append_right _ (List.mem_append_right _ (List.mem_append_right _ (List.mem_append_right _ (List.mem_append_right _ (List.mem_append_right _ (List.mem_append_right _ (List.mem_append_right _ (List.mem_append_right _ (List.mem_append_right _ (List.mem_append_right _ (List.mem_append_right _ (List.mem_append_right _ (List.mem_append_right _ (List.mem_append_right _ (List.mem_append_right _ (List.mem_append_right _ (List.mem_append_right _ (List.mem_append_right _ (List.mem_append_left _ h))))))))))))))))))))))))))
theorem inr21 : ∀ w ∈ wsL_law_r21, w ∈ wsL_law := fun _ h => List.mem_append_left _ (List.mem_append_left _ (List.mem_append_left _ (List.mem_append_left _ (List.mem_append_left _ (List.mem_append_left _ (List.mem_append_left _ (List.mem_append_right _ (List.mem_append_right _ (List.mem_append_right _ (List.mem_append_right _ (List.mem_append_right _ (List.mem_append_right _ (List.mem_append_right _ (List.mem_append_right _ (List.mem_append_right _ (List.mem_append_right _ (List.mem_append_right _ (List.mem_append_right _ (List.mem_append_right _ (List.mem_append_right _ (List.mem_append_right _ (List.mem_append_right _ (List.mem_append_right _ (List.mem_append_right _ (List.mem_append_right _ (List.mem_append_right _ (List.mem_append_left _ h)))))))))))))))))))))))))))
theorem inr22 : ∀ w ∈ wsL_law_r22, w ∈ wsL_law := fun _ h => List.mem_append_left _ (List.mem_append_left _ (List.mem_append_left _ (List.mem_append_left _ (List.mem_append_left _ (List.mem_append_left _ (List.mem_append_left _ (List.mem_append_right _ (List.mem_append_right _ (List.mem_append_right _ (List.mem_append_right _ (List.mem_append_right _ (List.mem_append_right _ (List.mem_append_right _ (List.mem_append_right _ (List.mem_append_right _ (List.mem_append_right _ (List.mem_append_right _ (List.mem_append_right _ (List.mem_append_right _ (List.mem_append_right _ (List.mem_append_right _ (List.mem_append_right _ (List.mem_append_right _ (List.mem_append_right _ (List.mem_append_right _ (List.mem_append_right _ (List.mem_append_right _ (List.mem_append_left _ h))))))))))))))))))))))))))))
theorem inr23 : ∀ w ∈ wsL_law_r23, w ∈ wsL_law := fun _ h => List.mem_append_left _ (List.mem_append_left _ (List.mem_append_left _ (List.mem_append_left _ (List.mem_append_left _ (List.mem_append_left _ (List.mem_append_left _ (List.mem_append_right _ (List.mem_append_right _ (List.mem_append_right _ (List.mem_append_right _ (List.mem_append_right _ (List.mem_append_right _ (List.mem_append_right _ (List.mem_append_right _ (List.mem_append_right _ (List.mem_append_right _ (List.mem_append_right _ (List.mem_append_right _ (List.mem_append_right _ (List.mem_append_right _ (List.mem_append_right _ (List.mem_append_right _ (List.mem_append_right _ (List.mem_append_right _ (List.mem_append_right _ (List.mem_append_right _ (List.mem_append_right _ (List.mem_append_right _ (h)))))))))))))))))))))))))))))
theorem kq_L_7 : Cond.classLink RL 7 RX4 ∈ wsL_law := inr1 _ (List.mem_of_getElem? (i := 0) rfl)
theorem kt_X4 : Cond.instantiable RX4 11 ∈ wsL_law := inr1 _ (List.mem_of_getElem? (i := 1) rfl)
theorem kn_X4 : Cond.initialized RX4 ∈ wsL_law := inr1 _ (List.mem_of_getElem? (i := 2) rfl)
theorem kq_L_18 : Cond.classLink RL 18 RX5 ∈ wsL_law := inr1 _ (List.mem_of_getElem? (i := 3) rfl)
theorem kt_X5 : Cond.instantiable RX5 28 ∈ wsL_law := inr1 _ (List.mem_of_getElem? (i := 4) rfl)
theorem kn_X5 : Cond.initialized RX5 ∈ wsL_law := inr1 _ (List.mem_of_getElem? (i := 5) rfl)
theorem km_L_9 : Cond.methodLink RL 9 yL_cell ∈ wsL_law := inr1 _ (List.mem_of_getElem? (i := 6) rfl)
theorem kz_yL_cell : Cond.static yL_cell ∈ wsL_law := inr1 _ (List.mem_of_getElem? (i := 7) rfl)
theorem kn_L : Cond.initialized RL ∈ wsL_law := inr1 _ (List.mem_of_getElem? (i := 8) rfl)
theorem kc_yL_cell : Cond.code yL_cell cL_cell 2 (some .int) ∈ wsL_law := inr1 _ (List.mem_of_getElem? (i := 9) rfl)
theorem km_L_15 : Cond.methodLink RL 15 yX4_init ∈ wsL_law := inr1 _ (List.mem_of_getElem? (i := 10) rfl)
theorem ki_yX4_init : Cond.instanceMethod yX4_init ∈ wsL_law := inr1 _ (List.mem_of_getElem? (i := 11) rfl)
theorem kc_yX4_init : Cond.code yX4_init cX4_init 4 none ∈ wsL_law := inr1 _ (List.mem_of_getElem? (i := 12) rfl)
theorem km_X4_1 : Cond.methodLink RX4 1 objectInit ∈ wsL_law := inr1 _ (List.mem_of_getElem? (i := 13) rfl)
theorem ki_objectInit : Cond.instanceMethod objectInit ∈ wsL_law := inr1 _ (List.mem_of_getElem? (i := 14) rfl)
theorem kc_objectInit : Cond.code objectInit ⟨#[0xb1]⟩ 1 none ∈ wsL_law := inr1 _ (List.mem_of_getElem? (i := 15) rfl)
theorem kq_X4_7 : Cond.classLink RX4 7 RX2 ∈ wsL_law := inr1 _ (List.mem_of_getElem? (i := 16) rfl)
theorem kt_X2 : Cond.instantiable RX2 14 ∈ wsL_law := inr1 _ (List.mem_of_getElem? (i := 17) rfl)
theorem kn_X2 : Cond.initialized RX2 ∈ wsL_law := inr1 _ (List.mem_of_getElem? (i := 18) rfl)
theorem kk_X4_11 : Cond.constant RX4 11 (16777215) ∈ wsL_law := inr1 _ (List.mem_of_getElem? (i := 19) rfl)
theorem kf_X4_15 : Cond.fieldLink RX4 15 "LoopDevice" "holdings" "LLoopDevice$Holdings;" ∈ wsL_law := inr1 _ (List.mem_of_getElem? (i := 20) rfl)
theorem kq_X4_19 : Cond.classLink RX4 19 RX0 ∈ wsL_law := inr1 _ (List.mem_of_getElem? (i := 21) rfl)
theorem kt_X0 : Cond.instantiable RX0 10 ∈ wsL_law := inr1 _ (List.mem_of_getElem? (i := 22) rfl)
theorem kn_X0 : Cond.initialized RX0 ∈ wsL_law := inr1 _ (List.mem_of_getElem? (i := 23) rfl)
theorem kf_X4_22 : Cond.fieldLink RX4 22 "LoopDevice" "reader" "LLoopDevice$FrameReader;" ∈ wsL_law := inr2 _ (List.mem_of_getElem? (i := 0) rfl)
theorem kq_X4_26 : Cond.classLink RX4 26 RX1 ∈ wsL_law := inr2 _ (List.mem_of_getElem? (i := 1) rfl)
theorem kt_X1 : Cond.instantiable RX1 5 ∈ wsL_law := inr2 _ (List.mem_of_getElem? (i := 2) rfl)
theorem kn_X1 : Cond.initialized RX1 ∈ wsL_law := inr2 _ (List.mem_of_getElem? (i := 3) rfl)
theorem kf_X4_29 : Cond.fieldLink RX4 29 "LoopDevice" "writer" "LLoopDevice$FrameWriter;" ∈ wsL_law := inr2 _ (List.mem_of_getElem? (i := 4) rfl)
theorem kq_X4_33 : Cond.classLink RX4 33 RX3 ∈ wsL_law := inr2 _ (List.mem_of_getElem? (i := 5) rfl)
theorem kt_X3 : Cond.instantiable RX3 3 ∈ wsL_law := inr2 _ (List.mem_of_getElem? (i := 6) rfl)
theorem kn_X3 : Cond.initialized RX3 ∈ wsL_law := inr2 _ (List.mem_of_getElem? (i := 7) rfl)
theorem kf_X4_36 : Cond.fieldLink RX4 36 "LoopDevice" "gone" "LLoopDevice$SentBytes;" ∈ wsL_law := inr2 _ (List.mem_of_getElem? (i := 8) rfl)
theorem km_X4_12 : Cond.methodLink RX4 12 yX2_init ∈ wsL_law := inr2 _ (List.mem_of_getElem? (i := 9) rfl)
theorem ki_yX2_init : Cond.instanceMethod yX2_init ∈ wsL_law := inr2 _ (List.mem_of_getElem? (i := 10) rfl)
theorem kc_yX2_init : Cond.code yX2_init cX2_init 5 none ∈ wsL_law := inr2 _ (List.mem_of_getElem? (i := 11) rfl)
theorem km_X2_3 : Cond.methodLink RX2 3 objectInit ∈ wsL_law := inr2 _ (List.mem_of_getElem? (i := 12) rfl)
theorem kf_X2_9 : Cond.fieldLink RX2 9 "LoopDevice$Holdings" "maker" "I" ∈ wsL_law := inr2 _ (List.mem_of_getElem? (i := 13) rfl)
theorem kf_X2_15 : Cond.fieldLink RX2 15 "LoopDevice$Holdings" "kind" "I" ∈ wsL_law := inr2 _ (List.mem_of_getElem? (i := 14) rfl)
theorem kf_X2_18 : Cond.fieldLink RX2 18 "LoopDevice$Holdings" "number" "I" ∈ wsL_law := inr2 _ (List.mem_of_getElem? (i := 15) rfl)
theorem kf_X2_21 : Cond.fieldLink RX2 21 "LoopDevice$Holdings" "upper" "I" ∈ wsL_law := inr2 _ (List.mem_of_getElem? (i := 16) rfl)
theorem kf_X2_24 : Cond.fieldLink RX2 24 "LoopDevice$Holdings" "changed" "I" ∈ wsL_law := inr2 _ (List.mem_of_getElem? (i := 17) rfl)
theorem kf_X2_27 : Cond.fieldLink RX2 27 "LoopDevice$Holdings" "cold" "I" ∈ wsL_law := inr2 _ (List.mem_of_getElem? (i := 18) rfl)
theorem kf_X2_30 : Cond.fieldLink RX2 30 "LoopDevice$Holdings" "burstCommand" "I" ∈ wsL_law := inr2 _ (List.mem_of_getElem? (i := 19) rfl)
theorem ka_int : Cond.arrayClass .int ∈ wsL_law := inr2 _ (List.mem_of_getElem? (i := 20) rfl)
theorem kf_X2_33 : Cond.fieldLink RX2 33 "LoopDevice$Holdings" "tagBytes" "[I" ∈ wsL_law := inr2 _ (List.mem_of_getElem? (i := 21) rfl)
theorem kf_X2_37 : Cond.fieldLink RX2 37 "LoopDevice$Holdings" "variables" "[I" ∈ wsL_law := inr2 _ (List.mem_of_getElem? (i := 22) rfl)
theorem km_X4_21 : Cond.methodLink RX4 21 yX0_init ∈ wsL_law := inr2 _ (List.mem_of_getElem? (i := 23) rfl)
theorem ki_yX0_init : Cond.instanceMethod yX0_init ∈ wsL_law := inr3 _ (List.mem_of_getElem? (i := 0) rfl)
theorem kc_yX0_init : Cond.code yX0_init cX0_init 1 none ∈ wsL_law := inr3 _ (List.mem_of_getElem? (i := 1) rfl)
theorem km_X0_3 : Cond.methodLink RX0 3 objectInit ∈ wsL_law := inr3 _ (List.mem_of_getElem? (i := 2) rfl)
theorem kf_X0_11 : Cond.fieldLink RX0 11 "LoopDevice$FrameReader" "address" "[I" ∈ wsL_law := inr3 _ (List.mem_of_getElem? (i := 3) rfl)
theorem kf_X0_15 : Cond.fieldLink RX0 15 "LoopDevice$FrameReader" "data" "[I" ∈ wsL_law := inr3 _ (List.mem_of_getElem? (i := 4) rfl)
theorem km_X4_28 : Cond.methodLink RX4 28 yX1_init ∈ wsL_law := inr3 _ (List.mem_of_getElem? (i := 5) rfl)
theorem ki_yX1_init : Cond.instanceMethod yX1_init ∈ wsL_law := inr3 _ (List.mem_of_getElem? (i := 6) rfl)
theorem kc_yX1_init : Cond.code yX1_init cX1_init 1 none ∈ wsL_law := inr3 _ (List.mem_of_getElem? (i := 7) rfl)
theorem km_X1_3 : Cond.methodLink RX1 3 objectInit ∈ wsL_law := inr3 _ (List.mem_of_getElem? (i := 8) rfl)
theorem kf_X1_11 : Cond.fieldLink RX1 11 "LoopDevice$FrameWriter" "bytes" "[I" ∈ wsL_law := inr3 _ (List.mem_of_getElem? (i := 9) rfl)
theorem km_X4_35 : Cond.methodLink RX4 35 yX3_init ∈ wsL_law := inr3 _ (List.mem_of_getElem? (i := 10) rfl)
theorem ki_yX3_init : Cond.instanceMethod yX3_init ∈ wsL_law := inr3 _ (List.mem_of_getElem? (i := 11) rfl)
theorem kc_yX3_init : Cond.code yX3_init cX3_init 1 none ∈ wsL_law := inr3 _ (List.mem_of_getElem? (i := 12) rfl)
theorem km_X3_3 : Cond.methodLink RX3 3 objectInit ∈ wsL_law := inr3 _ (List.mem_of_getElem? (i := 13) rfl)
theorem kf_X3_11 : Cond.fieldLink RX3 11 "LoopDevice$SentBytes" "bytes" "[I" ∈ wsL_law := inr3 _ (List.mem_of_getElem? (i := 14) rfl)
theorem kf_X3_15 : Cond.fieldLink RX3 15 "LoopDevice$SentBytes" "ticksOfBytes" "[I" ∈ wsL_law := inr3 _ (List.mem_of_getElem? (i := 15) rfl)
theorem km_L_20 : Cond.methodLink RL 20 yX5_init ∈ wsL_law := inr3 _ (List.mem_of_getElem? (i := 16) rfl)
theorem ki_yX5_init : Cond.instanceMethod yX5_init ∈ wsL_law := inr3 _ (List.mem_of_getElem? (i := 17) rfl)
theorem kc_yX5_init : Cond.code yX5_init cX5_init 5 none ∈ wsL_law := inr3 _ (List.mem_of_getElem? (i := 18) rfl)
theorem km_X5_1 : Cond.methodLink RX5 1 objectInit ∈ wsL_law := inr3 _ (List.mem_of_getElem? (i := 19) rfl)
theorem kf_X5_7 : Cond.fieldLink RX5 7 "LoopDeviceModel" "own" "[I" ∈ wsL_law := inr3 _ (List.mem_of_getElem? (i := 20) rfl)
theorem kf_X5_13 : Cond.fieldLink RX5 13 "LoopDeviceModel" "tags" "[I" ∈ wsL_law := inr3 _ (List.mem_of_getElem? (i := 21) rfl)
theorem kf_X5_16 : Cond.fieldLink RX5 16 "LoopDeviceModel" "variables" "[I" ∈ wsL_law := inr3 _ (List.mem_of_getElem? (i := 22) rfl)
theorem kf_X5_19 : Cond.fieldLink RX5 19 "LoopDeviceModel" "upper" "I" ∈ wsL_law := inr3 _ (List.mem_of_getElem? (i := 23) rfl)
theorem ka_boolean : Cond.arrayClass .boolean ∈ wsL_law := inr4 _ (List.mem_of_getElem? (i := 0) rfl)
theorem kf_X5_23 : Cond.fieldLink RX5 23 "LoopDeviceModel" "isChanged" "[Z" ∈ wsL_law := inr4 _ (List.mem_of_getElem? (i := 1) rfl)
theorem kf_X5_27 : Cond.fieldLink RX5 27 "LoopDeviceModel" "isCold" "[Z" ∈ wsL_law := inr4 _ (List.mem_of_getElem? (i := 2) rfl)
theorem kf_X5_30 : Cond.fieldLink RX5 30 "LoopDeviceModel" "burstCommand" "I" ∈ wsL_law := inr4 _ (List.mem_of_getElem? (i := 3) rfl)
theorem kf_X5_33 : Cond.fieldLink RX5 33 "LoopDeviceModel" "frame" "[I" ∈ wsL_law := inr4 _ (List.mem_of_getElem? (i := 4) rfl)
theorem kf_X5_36 : Cond.fieldLink RX5 36 "LoopDeviceModel" "out" "[I" ∈ wsL_law := inr4 _ (List.mem_of_getElem? (i := 5) rfl)
theorem kl_X5_39 : Cond.constantLong RX5 39 (-1) ∈ wsL_law := inr4 _ (List.mem_of_getElem? (i := 6) rfl)
theorem kf_X5_41 : Cond.fieldLink RX5 41 "LoopDeviceModel" "outFrom" "J" ∈ wsL_law := inr4 _ (List.mem_of_getElem? (i := 7) rfl)
theorem kf_X5_45 : Cond.fieldLink RX5 45 "LoopDeviceModel" "latest" "J" ∈ wsL_law := inr4 _ (List.mem_of_getElem? (i := 8) rfl)
theorem kf_X5_48 : Cond.fieldLink RX5 48 "LoopDeviceModel" "sentBytes" "[I" ∈ wsL_law := inr4 _ (List.mem_of_getElem? (i := 9) rfl)
theorem kf_X5_51 : Cond.fieldLink RX5 51 "LoopDeviceModel" "sentTicks" "[I" ∈ wsL_law := inr4 _ (List.mem_of_getElem? (i := 10) rfl)
theorem km_L_21 : Cond.methodLink RL 21 yX4_octet ∈ wsL_law := inr4 _ (List.mem_of_getElem? (i := 11) rfl)
theorem ki_yX4_octet : Cond.instanceMethod yX4_octet ∈ wsL_law := inr4 _ (List.mem_of_getElem? (i := 12) rfl)
theorem ks_yX4_octet : Cond.selects RX4 yX4_octet yX4_octet ∈ wsL_law := inr4 _ (List.mem_of_getElem? (i := 13) rfl)
theorem kc_yX4_octet : Cond.code yX4_octet cX4_octet 2 (some .int) ∈ wsL_law := inr4 _ (List.mem_of_getElem? (i := 14) rfl)
theorem kf_X4_44 : Cond.fieldLink RX4 44 "LoopDevice$SentBytes" "total" "I" ∈ wsL_law := inr4 _ (List.mem_of_getElem? (i := 15) rfl)
theorem km_X4_40 : Cond.methodLink RX4 40 yX4_passTick ∈ wsL_law := inr4 _ (List.mem_of_getElem? (i := 16) rfl)
theorem ki_yX4_passTick : Cond.instanceMethod yX4_passTick ∈ wsL_law := inr4 _ (List.mem_of_getElem? (i := 17) rfl)
theorem ks_yX4_passTick : Cond.selects RX4 yX4_passTick yX4_passTick ∈ wsL_law := inr4 _ (List.mem_of_getElem? (i := 18) rfl)
theorem kc_yX4_passTick : Cond.code yX4_passTick cX4_passTick 4 none ∈ wsL_law := inr4 _ (List.mem_of_getElem? (i := 19) rfl)
theorem kf_X4_101 : Cond.fieldLink RX4 101 "LoopDevice" "ticks" "I" ∈ wsL_law := inr4 _ (List.mem_of_getElem? (i := 20) rfl)
theorem kf_X4_134 : Cond.fieldLink RX4 134 "LoopDevice" "quietTicks" "I" ∈ wsL_law := inr4 _ (List.mem_of_getElem? (i := 21) rfl)
theorem km_X4_104 : Cond.methodLink RX4 104 yX4_burstIsDue ∈ wsL_law := inr4 _ (List.mem_of_getElem? (i := 22) rfl)
theorem ki_yX4_burstIsDue : Cond.instanceMethod yX4_burstIsDue ∈ wsL_law := inr4 _ (List.mem_of_getElem? (i := 23) rfl)
theorem ks_yX4_burstIsDue : Cond.selects RX4 yX4_burstIsDue yX4_burstIsDue ∈ wsL_law := inr5 _ (List.mem_of_getElem? (i := 0) rfl)
theorem kc_yX4_burstIsDue : Cond.code yX4_burstIsDue cX4_burstIsDue 1 (some .boolean) ∈ wsL_law := inr5 _ (List.mem_of_getElem? (i := 1) rfl)
theorem kf_X4_80 : Cond.fieldLink RX4 80 "LoopDevice$Holdings" "burstOn" "Z" ∈ wsL_law := inr5 _ (List.mem_of_getElem? (i := 2) rfl)
theorem km_X4_111 : Cond.methodLink RX4 111 yX1_isBusy ∈ wsL_law := inr5 _ (List.mem_of_getElem? (i := 3) rfl)
theorem ki_yX1_isBusy : Cond.instanceMethod yX1_isBusy ∈ wsL_law := inr5 _ (List.mem_of_getElem? (i := 4) rfl)
theorem ks_yX1_isBusy : Cond.selects RX1 yX1_isBusy yX1_isBusy ∈ wsL_law := inr5 _ (List.mem_of_getElem? (i := 5) rfl)
theorem kc_yX1_isBusy : Cond.code yX1_isBusy cX1_isBusy 1 (some .boolean) ∈ wsL_law := inr5 _ (List.mem_of_getElem? (i := 6) rfl)
theorem kf_X1_15 : Cond.fieldLink RX1 15 "LoopDevice$FrameWriter" "next" "I" ∈ wsL_law := inr5 _ (List.mem_of_getElem? (i := 7) rfl)
theorem kf_X1_19 : Cond.fieldLink RX1 19 "LoopDevice$FrameWriter" "length" "I" ∈ wsL_law := inr5 _ (List.mem_of_getElem? (i := 8) rfl)
theorem km_X4_108 : Cond.methodLink RX4 108 yX4_beginBurst ∈ wsL_law := inr5 _ (List.mem_of_getElem? (i := 9) rfl)
theorem ki_yX4_beginBurst : Cond.instanceMethod yX4_beginBurst ∈ wsL_law := inr5 _ (List.mem_of_getElem? (i := 10) rfl)
theorem ks_yX4_beginBurst : Cond.selects RX4 yX4_beginBurst yX4_beginBurst ∈ wsL_law := inr5 _ (List.mem_of_getElem? (i := 11) rfl)
theorem kc_yX4_beginBurst : Cond.code yX4_beginBurst cX4_beginBurst 1 none ∈ wsL_law := inr5 _ (List.mem_of_getElem? (i := 12) rfl)
theorem kf_X4_89 : Cond.fieldLink RX4 89 "LoopDevice" "bursts" "I" ∈ wsL_law := inr5 _ (List.mem_of_getElem? (i := 13) rfl)
theorem kf_X4_137 : Cond.fieldLink RX4 137 "LoopDevice" "burstMaster" "I" ∈ wsL_law := inr5 _ (List.mem_of_getElem? (i := 14) rfl)
theorem kf_X4_83 : Cond.fieldLink RX4 83 "LoopDevice$Holdings" "burstCommand" "I" ∈ wsL_law := inr5 _ (List.mem_of_getElem? (i := 15) rfl)
theorem km_X4_140 : Cond.methodLink RX4 140 yX4_compose ∈ wsL_law := inr5 _ (List.mem_of_getElem? (i := 16) rfl)
theorem ki_yX4_compose : Cond.instanceMethod yX4_compose ∈ wsL_law := inr5 _ (List.mem_of_getElem? (i := 17) rfl)
theorem ks_yX4_compose : Cond.selects RX4 yX4_compose yX4_compose ∈ wsL_law := inr5 _ (List.mem_of_getElem? (i := 18) rfl)
theorem kc_yX4_compose : Cond.code yX4_compose cX4_compose 5 none ∈ wsL_law := inr5 _ (List.mem_of_getElem? (i := 19) rfl)
theorem km_X4_215 : Cond.methodLink RX4 215 yX1_begin ∈ wsL_law := inr5 _ (List.mem_of_getElem? (i := 20) rfl)
theorem ki_yX1_begin : Cond.instanceMethod yX1_begin ∈ wsL_law := inr5 _ (List.mem_of_getElem? (i := 21) rfl)
theorem ks_yX1_begin : Cond.selects RX1 yX1_begin yX1_begin ∈ wsL_law := inr5 _ (List.mem_of_getElem? (i := 22) rfl)
theorem kc_yX1_begin : Cond.code yX1_begin cX1_begin 3 none ∈ wsL_law := inr5 _ (List.mem_of_getElem? (i := 23) rfl)
theorem kf_X1_22 : Cond.fieldLink RX1 22 "LoopDevice$FrameWriter" "waits" "Z" ∈ wsL_law := inr6 _ (List.mem_of_getElem? (i := 0) rfl)
theorem km_X1_26 : Cond.methodLink RX1 26 yX1_add ∈ wsL_law := inr6 _ (List.mem_of_getElem? (i := 1) rfl)
theorem ki_yX1_add : Cond.instanceMethod yX1_add ∈ wsL_law := inr6 _ (List.mem_of_getElem? (i := 2) rfl)
theorem ks_yX1_add : Cond.selects RX1 yX1_add yX1_add ∈ wsL_law := inr6 _ (List.mem_of_getElem? (i := 3) rfl)
theorem kc_yX1_add : Cond.code yX1_add cX1_add 2 none ∈ wsL_law := inr6 _ (List.mem_of_getElem? (i := 4) rfl)
theorem km_X4_218 : Cond.methodLink RX4 218 yX4_addAddress ∈ wsL_law := inr6 _ (List.mem_of_getElem? (i := 5) rfl)
theorem ki_yX4_addAddress : Cond.instanceMethod yX4_addAddress ∈ wsL_law := inr6 _ (List.mem_of_getElem? (i := 6) rfl)
theorem ks_yX4_addAddress : Cond.selects RX4 yX4_addAddress yX4_addAddress ∈ wsL_law := inr6 _ (List.mem_of_getElem? (i := 7) rfl)
theorem kc_yX4_addAddress : Cond.code yX4_addAddress cX4_addAddress 4 none ∈ wsL_law := inr6 _ (List.mem_of_getElem? (i := 8) rfl)
theorem kf_X4_236 : Cond.fieldLink RX4 236 "LoopDevice$Holdings" "maker" "I" ∈ wsL_law := inr6 _ (List.mem_of_getElem? (i := 9) rfl)
theorem kf_X4_239 : Cond.fieldLink RX4 239 "LoopDevice$Holdings" "kind" "I" ∈ wsL_law := inr6 _ (List.mem_of_getElem? (i := 10) rfl)
theorem kf_X4_68 : Cond.fieldLink RX4 68 "LoopDevice$Holdings" "shortAddress" "I" ∈ wsL_law := inr6 _ (List.mem_of_getElem? (i := 11) rfl)
theorem km_X4_222 : Cond.methodLink RX4 222 yX1_add ∈ wsL_law := inr6 _ (List.mem_of_getElem? (i := 12) rfl)
theorem km_X4_241 : Cond.methodLink RX4 241 yX4_addNumber ∈ wsL_law := inr6 _ (List.mem_of_getElem? (i := 13) rfl)
theorem ki_yX4_addNumber : Cond.instanceMethod yX4_addNumber ∈ wsL_law := inr6 _ (List.mem_of_getElem? (i := 14) rfl)
theorem ks_yX4_addNumber : Cond.selects RX4 yX4_addNumber yX4_addNumber ∈ wsL_law := inr6 _ (List.mem_of_getElem? (i := 15) rfl)
theorem kc_yX4_addNumber : Cond.code yX4_addNumber cX4_addNumber 1 none ∈ wsL_law := inr6 _ (List.mem_of_getElem? (i := 16) rfl)
theorem kf_X4_256 : Cond.fieldLink RX4 256 "LoopDevice$Holdings" "number" "I" ∈ wsL_law := inr6 _ (List.mem_of_getElem? (i := 17) rfl)
theorem km_X4_224 : Cond.methodLink RX4 224 yX1_beginCount ∈ wsL_law := inr6 _ (List.mem_of_getElem? (i := 18) rfl)
theorem ki_yX1_beginCount : Cond.instanceMethod yX1_beginCount ∈ wsL_law := inr6 _ (List.mem_of_getElem? (i := 19) rfl)
theorem ks_yX1_beginCount : Cond.selects RX1 yX1_beginCount yX1_beginCount ∈ wsL_law := inr6 _ (List.mem_of_getElem? (i := 20) rfl)
theorem kc_yX1_beginCount : Cond.code yX1_beginCount cX1_beginCount 1 none ∈ wsL_law := inr6 _ (List.mem_of_getElem? (i := 21) rfl)
theorem kf_X1_30 : Cond.fieldLink RX1 30 "LoopDevice$FrameWriter" "countPlace" "I" ∈ wsL_law := inr6 _ (List.mem_of_getElem? (i := 22) rfl)
theorem km_X4_227 : Cond.methodLink RX4 227 yX2_statusFor ∈ wsL_law := inr6 _ (List.mem_of_getElem? (i := 23) rfl)
theorem ki_yX2_statusFor : Cond.instanceMethod yX2_statusFor ∈ wsL_law := inr7 _ (List.mem_of_getElem? (i := 0) rfl)
theorem ks_yX2_statusFor : Cond.selects RX2 yX2_statusFor yX2_statusFor ∈ wsL_law := inr7 _ (List.mem_of_getElem? (i := 1) rfl)
theorem kc_yX2_statusFor : Cond.code yX2_statusFor cX2_statusFor 4 (some .int) ∈ wsL_law := inr7 _ (List.mem_of_getElem? (i := 2) rfl)
theorem kf_X2_44 : Cond.fieldLink RX2 44 "LoopDevice$Holdings" "failed" "Z" ∈ wsL_law := inr7 _ (List.mem_of_getElem? (i := 3) rfl)
theorem kf_X2_48 : Cond.fieldLink RX2 48 "LoopDevice$Holdings" "lower" "I" ∈ wsL_law := inr7 _ (List.mem_of_getElem? (i := 4) rfl)
theorem km_X2_40 : Cond.methodLink RX2 40 yX2_variableAt ∈ wsL_law := inr7 _ (List.mem_of_getElem? (i := 5) rfl)
theorem ki_yX2_variableAt : Cond.instanceMethod yX2_variableAt ∈ wsL_law := inr7 _ (List.mem_of_getElem? (i := 6) rfl)
theorem ks_yX2_variableAt : Cond.selects RX2 yX2_variableAt yX2_variableAt ∈ wsL_law := inr7 _ (List.mem_of_getElem? (i := 7) rfl)
theorem kc_yX2_variableAt : Cond.code yX2_variableAt cX2_variableAt 2 (some .int) ∈ wsL_law := inr7 _ (List.mem_of_getElem? (i := 8) rfl)
theorem km_X4_230 : Cond.methodLink RX4 230 yX4_addData ∈ wsL_law := inr7 _ (List.mem_of_getElem? (i := 9) rfl)
theorem ki_yX4_addData : Cond.instanceMethod yX4_addData ∈ wsL_law := inr7 _ (List.mem_of_getElem? (i := 10) rfl)
theorem ks_yX4_addData : Cond.selects RX4 yX4_addData yX4_addData ∈ wsL_law := inr7 _ (List.mem_of_getElem? (i := 11) rfl)
theorem kc_yX4_addData : Cond.code yX4_addData cX4_addData 3 none ∈ wsL_law := inr7 _ (List.mem_of_getElem? (i := 12) rfl)
theorem kf_X4_71 : Cond.fieldLink RX4 71 "LoopDevice$Holdings" "unit" "I" ∈ wsL_law := inr7 _ (List.mem_of_getElem? (i := 13) rfl)
theorem kf_X4_64 : Cond.fieldLink RX4 64 "LoopDevice$Holdings" "failed" "Z" ∈ wsL_law := inr7 _ (List.mem_of_getElem? (i := 14) rfl)
theorem kf_X4_86 : Cond.fieldLink RX4 86 "LoopDevice" "answers" "I" ∈ wsL_law := inr7 _ (List.mem_of_getElem? (i := 15) rfl)
theorem km_X4_244 : Cond.methodLink RX4 244 yX4_addIdentity ∈ wsL_law := inr7 _ (List.mem_of_getElem? (i := 16) rfl)
theorem ki_yX4_addIdentity : Cond.instanceMethod yX4_addIdentity ∈ wsL_law := inr7 _ (List.mem_of_getElem? (i := 17) rfl)
theorem ks_yX4_addIdentity : Cond.selects RX4 yX4_addIdentity yX4_addIdentity ∈ wsL_law := inr7 _ (List.mem_of_getElem? (i := 18) rfl)
theorem kc_yX4_addIdentity : Cond.code yX4_addIdentity cX4_addIdentity 1 none ∈ wsL_law := inr7 _ (List.mem_of_getElem? (i := 19) rfl)
theorem km_X4_57 : Cond.methodLink RX4 57 yX2_variableAt ∈ wsL_law := inr7 _ (List.mem_of_getElem? (i := 20) rfl)
theorem km_X4_247 : Cond.methodLink RX4 247 yX1_addFour ∈ wsL_law := inr7 _ (List.mem_of_getElem? (i := 21) rfl)
theorem ki_yX1_addFour : Cond.instanceMethod yX1_addFour ∈ wsL_law := inr7 _ (List.mem_of_getElem? (i := 22) rfl)
theorem ks_yX1_addFour : Cond.selects RX1 yX1_addFour yX1_addFour ∈ wsL_law := inr7 _ (List.mem_of_getElem? (i := 23) rfl)
theorem kc_yX1_addFour : Cond.code yX1_addFour cX1_addFour 2 none ∈ wsL_law := inr8 _ (List.mem_of_getElem? (i := 0) rfl)
theorem km_X4_250 : Cond.methodLink RX4 250 yX2_level ∈ wsL_law := inr8 _ (List.mem_of_getElem? (i := 1) rfl)
theorem ki_yX2_level : Cond.instanceMethod yX2_level ∈ wsL_law := inr8 _ (List.mem_of_getElem? (i := 2) rfl)
theorem ks_yX2_level : Cond.selects RX2 yX2_level yX2_level ∈ wsL_law := inr8 _ (List.mem_of_getElem? (i := 3) rfl)
theorem kc_yX2_level : Cond.code yX2_level cX2_level 5 (some .int) ∈ wsL_law := inr8 _ (List.mem_of_getElem? (i := 4) rfl)
theorem kl_X2_51 : Cond.constantLong RX2 51 (16000) ∈ wsL_law := inr8 _ (List.mem_of_getElem? (i := 5) rfl)
theorem kl_X2_53 : Cond.constantLong RX2 53 (4000) ∈ wsL_law := inr8 _ (List.mem_of_getElem? (i := 6) rfl)
theorem kl_X2_55 : Cond.constantLong RX2 55 (3800) ∈ wsL_law := inr8 _ (List.mem_of_getElem? (i := 7) rfl)
theorem kl_X2_57 : Cond.constantLong RX2 57 (20500) ∈ wsL_law := inr8 _ (List.mem_of_getElem? (i := 8) rfl)
theorem km_X2_59 : Cond.methodLink RX2 59 Lib.MathLoose.min_long.x ∈ wsL_law := inr8 _ (List.mem_of_getElem? (i := 9) rfl)
theorem kz_Lib_MathLoose_min_long_x : Cond.static Lib.MathLoose.min_long.x ∈ wsL_law := inr8 _ (List.mem_of_getElem? (i := 10) rfl)
theorem kn_Math : Cond.initialized "java/lang/Math" ∈ wsL_law := inr8 _ (List.mem_of_getElem? (i := 11) rfl)
theorem kc_Lib_MathLoose_min_long_x : Cond.code Lib.MathLoose.min_long.x Lib.MathLoose.min_long.code 4 (some .long) ∈ wsL_law := inr8 _ (List.mem_of_getElem? (i := 12) rfl)
theorem km_X2_65 : Cond.methodLink RX2 65 Lib.MathLoose.max_long.x ∈ wsL_law := inr8 _ (List.mem_of_getElem? (i := 13) rfl)
theorem kz_Lib_MathLoose_max_long_x : Cond.static Lib.MathLoose.max_long.x ∈ wsL_law := inr8 _ (List.mem_of_getElem? (i := 14) rfl)
theorem kc_Lib_MathLoose_max_long_x : Cond.code Lib.MathLoose.max_long.x Lib.MathLoose.max_long.code 4 (some .long) ∈ wsL_law := inr8 _ (List.mem_of_getElem? (i := 15) rfl)
theorem km_X4_98 : Cond.methodLink RX4 98 yX2_tagByte ∈ wsL_law := inr8 _ (List.mem_of_getElem? (i := 16) rfl)
theorem ki_yX2_tagByte : Cond.instanceMethod yX2_tagByte ∈ wsL_law := inr8 _ (List.mem_of_getElem? (i := 17) rfl)
theorem ks_yX2_tagByte : Cond.selects RX2 yX2_tagByte yX2_tagByte ∈ wsL_law := inr8 _ (List.mem_of_getElem? (i := 18) rfl)
theorem kc_yX2_tagByte : Cond.code yX2_tagByte cX2_tagByte 2 (some .int) ∈ wsL_law := inr8 _ (List.mem_of_getElem? (i := 19) rfl)
theorem km_X4_253 : Cond.methodLink RX4 253 yX4_addEcho ∈ wsL_law := inr8 _ (List.mem_of_getElem? (i := 20) rfl)
theorem ki_yX4_addEcho : Cond.instanceMethod yX4_addEcho ∈ wsL_law := inr8 _ (List.mem_of_getElem? (i := 21) rfl)
theorem ks_yX4_addEcho : Cond.selects RX4 yX4_addEcho yX4_addEcho ∈ wsL_law := inr8 _ (List.mem_of_getElem? (i := 22) rfl)
theorem kc_yX4_addEcho : Cond.code yX4_addEcho cX4_addEcho 3 none ∈ wsL_law := inr8 _ (List.mem_of_getElem? (i := 23) rfl)
theorem kf_X4_190 : Cond.fieldLink RX4 190 "LoopDevice$FrameReader" "count" "I" ∈ wsL_law := inr9 _ (List.mem_of_getElem? (i := 0) rfl)
theorem km_X4_212 : Cond.methodLink RX4 212 yX4_setsSomething ∈ wsL_law := inr9 _ (List.mem_of_getElem? (i := 1) rfl)
theorem kz_yX4_setsSomething : Cond.static yX4_setsSomething ∈ wsL_law := inr9 _ (List.mem_of_getElem? (i := 2) rfl)
theorem kc_yX4_setsSomething : Cond.code yX4_setsSomething cX4_setsSomething 1 (some .boolean) ∈ wsL_law := inr9 _ (List.mem_of_getElem? (i := 3) rfl)
theorem km_X4_193 : Cond.methodLink RX4 193 yX0_dataAt ∈ wsL_law := inr9 _ (List.mem_of_getElem? (i := 4) rfl)
theorem ki_yX0_dataAt : Cond.instanceMethod yX0_dataAt ∈ wsL_law := inr9 _ (List.mem_of_getElem? (i := 5) rfl)
theorem ks_yX0_dataAt : Cond.selects RX0 yX0_dataAt yX0_dataAt ∈ wsL_law := inr9 _ (List.mem_of_getElem? (i := 6) rfl)
theorem kc_yX0_dataAt : Cond.code yX0_dataAt cX0_dataAt 2 (some .int) ∈ wsL_law := inr9 _ (List.mem_of_getElem? (i := 7) rfl)
theorem kf_X0_63 : Cond.fieldLink RX0 63 "LoopDevice$FrameReader" "count" "I" ∈ wsL_law := inr9 _ (List.mem_of_getElem? (i := 8) rfl)
theorem km_X4_233 : Cond.methodLink RX4 233 yX1_end ∈ wsL_law := inr9 _ (List.mem_of_getElem? (i := 9) rfl)
theorem ki_yX1_end : Cond.instanceMethod yX1_end ∈ wsL_law := inr9 _ (List.mem_of_getElem? (i := 10) rfl)
theorem ks_yX1_end : Cond.selects RX1 yX1_end yX1_end ∈ wsL_law := inr9 _ (List.mem_of_getElem? (i := 11) rfl)
theorem kc_yX1_end : Cond.code yX1_end cX1_end 3 none ∈ wsL_law := inr9 _ (List.mem_of_getElem? (i := 12) rfl)
theorem km_X4_114 : Cond.methodLink RX4 114 yX1_takeNext ∈ wsL_law := inr9 _ (List.mem_of_getElem? (i := 13) rfl)
theorem ki_yX1_takeNext : Cond.instanceMethod yX1_takeNext ∈ wsL_law := inr9 _ (List.mem_of_getElem? (i := 14) rfl)
theorem ks_yX1_takeNext : Cond.selects RX1 yX1_takeNext yX1_takeNext ∈ wsL_law := inr9 _ (List.mem_of_getElem? (i := 15) rfl)
theorem kc_yX1_takeNext : Cond.code yX1_takeNext cX1_takeNext 2 (some .int) ∈ wsL_law := inr9 _ (List.mem_of_getElem? (i := 16) rfl)
theorem km_X4_118 : Cond.methodLink RX4 118 yX3_add ∈ wsL_law := inr9 _ (List.mem_of_getElem? (i := 17) rfl)
theorem ki_yX3_add : Cond.instanceMethod yX3_add ∈ wsL_law := inr9 _ (List.mem_of_getElem? (i := 18) rfl)
theorem ks_yX3_add : Cond.selects RX3 yX3_add yX3_add ∈ wsL_law := inr9 _ (List.mem_of_getElem? (i := 19) rfl)
theorem kc_yX3_add : Cond.code yX3_add cX3_add 4 none ∈ wsL_law := inr9 _ (List.mem_of_getElem? (i := 20) rfl)
theorem kf_X3_18 : Cond.fieldLink RX3 18 "LoopDevice$SentBytes" "total" "I" ∈ wsL_law := inr9 _ (List.mem_of_getElem? (i := 21) rfl)
theorem km_X4_121 : Cond.methodLink RX4 121 yX0_beginAnew ∈ wsL_law := inr9 _ (List.mem_of_getElem? (i := 22) rfl)
theorem ki_yX0_beginAnew : Cond.instanceMethod yX0_beginAnew ∈ wsL_law := inr9 _ (List.mem_of_getElem? (i := 23) rfl)
theorem ks_yX0_beginAnew : Cond.selects RX0 yX0_beginAnew yX0_beginAnew ∈ wsL_law := inr10 _ (List.mem_of_getElem? (i := 0) rfl)
theorem kc_yX0_beginAnew : Cond.code yX0_beginAnew cX0_beginAnew 1 none ∈ wsL_law := inr10 _ (List.mem_of_getElem? (i := 1) rfl)
theorem kf_X0_18 : Cond.fieldLink RX0 18 "LoopDevice$FrameReader" "place" "I" ∈ wsL_law := inr10 _ (List.mem_of_getElem? (i := 2) rfl)
theorem kf_X0_22 : Cond.fieldLink RX0 22 "LoopDevice$FrameReader" "preamble" "I" ∈ wsL_law := inr10 _ (List.mem_of_getElem? (i := 3) rfl)
theorem km_X4_124 : Cond.methodLink RX4 124 yX0_take ∈ wsL_law := inr10 _ (List.mem_of_getElem? (i := 4) rfl)
theorem ki_yX0_take : Cond.instanceMethod yX0_take ∈ wsL_law := inr10 _ (List.mem_of_getElem? (i := 5) rfl)
theorem ks_yX0_take : Cond.selects RX0 yX0_take yX0_take ∈ wsL_law := inr10 _ (List.mem_of_getElem? (i := 6) rfl)
theorem kc_yX0_take : Cond.code yX0_take cX0_take 2 (some .boolean) ∈ wsL_law := inr10 _ (List.mem_of_getElem? (i := 7) rfl)
theorem kf_X0_25 : Cond.fieldLink RX0 25 "LoopDevice$FrameReader" "sum" "I" ∈ wsL_law := inr10 _ (List.mem_of_getElem? (i := 8) rfl)
theorem kf_X0_28 : Cond.fieldLink RX0 28 "LoopDevice$FrameReader" "sumIsRight" "Z" ∈ wsL_law := inr10 _ (List.mem_of_getElem? (i := 9) rfl)
theorem kf_X0_39 : Cond.fieldLink RX0 39 "LoopDevice$FrameReader" "command" "I" ∈ wsL_law := inr10 _ (List.mem_of_getElem? (i := 10) rfl)
theorem km_X0_32 : Cond.methodLink RX0 32 yX0_beginAnew ∈ wsL_law := inr10 _ (List.mem_of_getElem? (i := 11) rfl)
theorem km_X0_35 : Cond.methodLink RX0 35 yX0_takeAddress ∈ wsL_law := inr10 _ (List.mem_of_getElem? (i := 12) rfl)
theorem ki_yX0_takeAddress : Cond.instanceMethod yX0_takeAddress ∈ wsL_law := inr10 _ (List.mem_of_getElem? (i := 13) rfl)
theorem ks_yX0_takeAddress : Cond.selects RX0 yX0_takeAddress yX0_takeAddress ∈ wsL_law := inr10 _ (List.mem_of_getElem? (i := 14) rfl)
theorem kc_yX0_takeAddress : Cond.code yX0_takeAddress cX0_takeAddress 2 none ∈ wsL_law := inr10 _ (List.mem_of_getElem? (i := 15) rfl)
theorem kf_X0_60 : Cond.fieldLink RX0 60 "LoopDevice$FrameReader" "taken" "I" ∈ wsL_law := inr10 _ (List.mem_of_getElem? (i := 16) rfl)
theorem kf_X0_57 : Cond.fieldLink RX0 57 "LoopDevice$FrameReader" "isLong" "Z" ∈ wsL_law := inr10 _ (List.mem_of_getElem? (i := 17) rfl)
theorem km_X0_42 : Cond.methodLink RX0 42 yX0_takeCount ∈ wsL_law := inr10 _ (List.mem_of_getElem? (i := 18) rfl)
theorem ki_yX0_takeCount : Cond.instanceMethod yX0_takeCount ∈ wsL_law := inr10 _ (List.mem_of_getElem? (i := 19) rfl)
theorem ks_yX0_takeCount : Cond.selects RX0 yX0_takeCount yX0_takeCount ∈ wsL_law := inr10 _ (List.mem_of_getElem? (i := 20) rfl)
theorem kc_yX0_takeCount : Cond.code yX0_takeCount cX0_takeCount 2 none ∈ wsL_law := inr10 _ (List.mem_of_getElem? (i := 21) rfl)
theorem km_X0_45 : Cond.methodLink RX0 45 yX0_takeData ∈ wsL_law := inr10 _ (List.mem_of_getElem? (i := 22) rfl)
theorem ki_yX0_takeData : Cond.instanceMethod yX0_takeData ∈ wsL_law := inr10 _ (List.mem_of_getElem? (i := 23) rfl)
theorem ks_yX0_takeData : Cond.selects RX0 yX0_takeData yX0_takeData ∈ wsL_law := inr11 _ (List.mem_of_getElem? (i := 0) rfl)
theorem kc_yX0_takeData : Cond.code yX0_takeData cX0_takeData 2 none ∈ wsL_law := inr11 _ (List.mem_of_getElem? (i := 1) rfl)
theorem km_X0_48 : Cond.methodLink RX0 48 yX0_takePreamble ∈ wsL_law := inr11 _ (List.mem_of_getElem? (i := 2) rfl)
theorem ki_yX0_takePreamble : Cond.instanceMethod yX0_takePreamble ∈ wsL_law := inr11 _ (List.mem_of_getElem? (i := 3) rfl)
theorem ks_yX0_takePreamble : Cond.selects RX0 yX0_takePreamble yX0_takePreamble ∈ wsL_law := inr11 _ (List.mem_of_getElem? (i := 4) rfl)
theorem kc_yX0_takePreamble : Cond.code yX0_takePreamble cX0_takePreamble 3 none ∈ wsL_law := inr11 _ (List.mem_of_getElem? (i := 5) rfl)
theorem km_X0_51 : Cond.methodLink RX0 51 Lib.Math.min.name ∈ wsL_law := inr11 _ (List.mem_of_getElem? (i := 6) rfl)
theorem kz_Lib_Math_min_name : Cond.static Lib.Math.min.name ∈ wsL_law := inr11 _ (List.mem_of_getElem? (i := 7) rfl)
theorem kc_Lib_Math_min_name : Cond.code Lib.Math.min.name Lib.Math.min.code 2 (some .int) ∈ wsL_law := inr11 _ (List.mem_of_getElem? (i := 8) rfl)
theorem km_X4_128 : Cond.methodLink RX4 128 yX4_countFrame ∈ wsL_law := inr11 _ (List.mem_of_getElem? (i := 9) rfl)
theorem ki_yX4_countFrame : Cond.instanceMethod yX4_countFrame ∈ wsL_law := inr11 _ (List.mem_of_getElem? (i := 10) rfl)
theorem ks_yX4_countFrame : Cond.selects RX4 yX4_countFrame yX4_countFrame ∈ wsL_law := inr11 _ (List.mem_of_getElem? (i := 11) rfl)
theorem kc_yX4_countFrame : Cond.code yX4_countFrame cX4_countFrame 2 (some .boolean) ∈ wsL_law := inr11 _ (List.mem_of_getElem? (i := 12) rfl)
theorem kf_X4_144 : Cond.fieldLink RX4 144 "LoopDevice$FrameReader" "sumIsRight" "Z" ∈ wsL_law := inr11 _ (List.mem_of_getElem? (i := 13) rfl)
theorem kf_X4_92 : Cond.fieldLink RX4 92 "LoopDevice" "goodFrames" "I" ∈ wsL_law := inr11 _ (List.mem_of_getElem? (i := 14) rfl)
theorem kf_X4_95 : Cond.fieldLink RX4 95 "LoopDevice" "otherFrames" "I" ∈ wsL_law := inr11 _ (List.mem_of_getElem? (i := 15) rfl)
theorem km_X4_147 : Cond.methodLink RX4 147 yX4_isForDevice ∈ wsL_law := inr11 _ (List.mem_of_getElem? (i := 16) rfl)
theorem ki_yX4_isForDevice : Cond.instanceMethod yX4_isForDevice ∈ wsL_law := inr11 _ (List.mem_of_getElem? (i := 17) rfl)
theorem ks_yX4_isForDevice : Cond.selects RX4 yX4_isForDevice yX4_isForDevice ∈ wsL_law := inr11 _ (List.mem_of_getElem? (i := 18) rfl)
theorem kc_yX4_isForDevice : Cond.code yX4_isForDevice cX4_isForDevice 1 (some .boolean) ∈ wsL_law := inr11 _ (List.mem_of_getElem? (i := 19) rfl)
theorem kf_X4_150 : Cond.fieldLink RX4 150 "LoopDevice$FrameReader" "isLong" "Z" ∈ wsL_law := inr11 _ (List.mem_of_getElem? (i := 20) rfl)
theorem km_X4_153 : Cond.methodLink RX4 153 yX0_station ∈ wsL_law := inr11 _ (List.mem_of_getElem? (i := 21) rfl)
theorem ki_yX0_station : Cond.instanceMethod yX0_station ∈ wsL_law := inr11 _ (List.mem_of_getElem? (i := 22) rfl)
theorem ks_yX0_station : Cond.selects RX0 yX0_station yX0_station ∈ wsL_law := inr11 _ (List.mem_of_getElem? (i := 23) rfl)
theorem kc_yX0_station : Cond.code yX0_station cX0_station 1 (some .int) ∈ wsL_law := inr12 _ (List.mem_of_getElem? (i := 0) rfl)
theorem km_X0_66 : Cond.methodLink RX0 66 yX0_addressAt ∈ wsL_law := inr12 _ (List.mem_of_getElem? (i := 1) rfl)
theorem ki_yX0_addressAt : Cond.instanceMethod yX0_addressAt ∈ wsL_law := inr12 _ (List.mem_of_getElem? (i := 2) rfl)
theorem ks_yX0_addressAt : Cond.selects RX0 yX0_addressAt yX0_addressAt ∈ wsL_law := inr12 _ (List.mem_of_getElem? (i := 3) rfl)
theorem kc_yX0_addressAt : Cond.code yX0_addressAt cX0_addressAt 2 (some .int) ∈ wsL_law := inr12 _ (List.mem_of_getElem? (i := 4) rfl)
theorem km_X4_156 : Cond.methodLink RX4 156 yX4_isBroadcast ∈ wsL_law := inr12 _ (List.mem_of_getElem? (i := 5) rfl)
theorem ki_yX4_isBroadcast : Cond.instanceMethod yX4_isBroadcast ∈ wsL_law := inr12 _ (List.mem_of_getElem? (i := 6) rfl)
theorem ks_yX4_isBroadcast : Cond.selects RX4 yX4_isBroadcast yX4_isBroadcast ∈ wsL_law := inr12 _ (List.mem_of_getElem? (i := 7) rfl)
theorem kc_yX4_isBroadcast : Cond.code yX4_isBroadcast cX4_isBroadcast 1 (some .boolean) ∈ wsL_law := inr12 _ (List.mem_of_getElem? (i := 8) rfl)
theorem kf_X4_169 : Cond.fieldLink RX4 169 "LoopDevice$FrameReader" "command" "I" ∈ wsL_law := inr12 _ (List.mem_of_getElem? (i := 9) rfl)
theorem km_X4_159 : Cond.methodLink RX4 159 yX0_kind ∈ wsL_law := inr12 _ (List.mem_of_getElem? (i := 10) rfl)
theorem ki_yX0_kind : Cond.instanceMethod yX0_kind ∈ wsL_law := inr12 _ (List.mem_of_getElem? (i := 11) rfl)
theorem ks_yX0_kind : Cond.selects RX0 yX0_kind yX0_kind ∈ wsL_law := inr12 _ (List.mem_of_getElem? (i := 12) rfl)
theorem kc_yX0_kind : Cond.code yX0_kind cX0_kind 1 (some .int) ∈ wsL_law := inr12 _ (List.mem_of_getElem? (i := 13) rfl)
theorem km_X4_162 : Cond.methodLink RX4 162 yX0_number ∈ wsL_law := inr12 _ (List.mem_of_getElem? (i := 14) rfl)
theorem ki_yX0_number : Cond.instanceMethod yX0_number ∈ wsL_law := inr12 _ (List.mem_of_getElem? (i := 15) rfl)
theorem ks_yX0_number : Cond.selects RX0 yX0_number yX0_number ∈ wsL_law := inr12 _ (List.mem_of_getElem? (i := 16) rfl)
theorem kc_yX0_number : Cond.code yX0_number cX0_number 1 (some .int) ∈ wsL_law := inr12 _ (List.mem_of_getElem? (i := 17) rfl)
theorem km_X4_165 : Cond.methodLink RX4 165 yX2_hasLongAddress ∈ wsL_law := inr12 _ (List.mem_of_getElem? (i := 18) rfl)
theorem ki_yX2_hasLongAddress : Cond.instanceMethod yX2_hasLongAddress ∈ wsL_law := inr12 _ (List.mem_of_getElem? (i := 19) rfl)
theorem ks_yX2_hasLongAddress : Cond.selects RX2 yX2_hasLongAddress yX2_hasLongAddress ∈ wsL_law := inr12 _ (List.mem_of_getElem? (i := 20) rfl)
theorem kc_yX2_hasLongAddress : Cond.code yX2_hasLongAddress cX2_hasLongAddress 4 (some .boolean) ∈ wsL_law := inr12 _ (List.mem_of_getElem? (i := 21) rfl)
theorem km_X4_131 : Cond.methodLink RX4 131 yX4_answerFrame ∈ wsL_law := inr12 _ (List.mem_of_getElem? (i := 22) rfl)
theorem ki_yX4_answerFrame : Cond.instanceMethod yX4_answerFrame ∈ wsL_law := inr12 _ (List.mem_of_getElem? (i := 23) rfl)
theorem ks_yX4_answerFrame : Cond.selects RX4 yX4_answerFrame yX4_answerFrame ∈ wsL_law := inr13 _ (List.mem_of_getElem? (i := 0) rfl)
theorem kc_yX4_answerFrame : Cond.code yX4_answerFrame cX4_answerFrame 3 none ∈ wsL_law := inr13 _ (List.mem_of_getElem? (i := 1) rfl)
theorem kf_X4_184 : Cond.fieldLink RX4 184 "LoopDevice$Holdings" "cold" "I" ∈ wsL_law := inr13 _ (List.mem_of_getElem? (i := 2) rfl)
theorem km_X4_172 : Cond.methodLink RX4 172 yX4_codeOfFrame ∈ wsL_law := inr13 _ (List.mem_of_getElem? (i := 3) rfl)
theorem ki_yX4_codeOfFrame : Cond.instanceMethod yX4_codeOfFrame ∈ wsL_law := inr13 _ (List.mem_of_getElem? (i := 4) rfl)
theorem ks_yX4_codeOfFrame : Cond.selects RX4 yX4_codeOfFrame yX4_codeOfFrame ∈ wsL_law := inr13 _ (List.mem_of_getElem? (i := 5) rfl)
theorem kc_yX4_codeOfFrame : Cond.code yX4_codeOfFrame cX4_codeOfFrame 3 (some .int) ∈ wsL_law := inr13 _ (List.mem_of_getElem? (i := 6) rfl)
theorem km_X4_187 : Cond.methodLink RX4 187 yX4_countOfCommand ∈ wsL_law := inr13 _ (List.mem_of_getElem? (i := 7) rfl)
theorem kz_yX4_countOfCommand : Cond.static yX4_countOfCommand ∈ wsL_law := inr13 _ (List.mem_of_getElem? (i := 8) rfl)
theorem kc_yX4_countOfCommand : Cond.code yX4_countOfCommand cX4_countOfCommand 1 (some .int) ∈ wsL_law := inr13 _ (List.mem_of_getElem? (i := 9) rfl)
theorem km_X4_196 : Cond.methodLink RX4 196 yX4_tagIsInFrame ∈ wsL_law := inr13 _ (List.mem_of_getElem? (i := 10) rfl)
theorem ki_yX4_tagIsInFrame : Cond.instanceMethod yX4_tagIsInFrame ∈ wsL_law := inr13 _ (List.mem_of_getElem? (i := 11) rfl)
theorem ks_yX4_tagIsInFrame : Cond.selects RX4 yX4_tagIsInFrame yX4_tagIsInFrame ∈ wsL_law := inr13 _ (List.mem_of_getElem? (i := 12) rfl)
theorem kc_yX4_tagIsInFrame : Cond.code yX4_tagIsInFrame cX4_tagIsInFrame 2 (some .boolean) ∈ wsL_law := inr13 _ (List.mem_of_getElem? (i := 13) rfl)
theorem km_X4_199 : Cond.methodLink RX4 199 yX0_fourAt ∈ wsL_law := inr13 _ (List.mem_of_getElem? (i := 14) rfl)
theorem ki_yX0_fourAt : Cond.instanceMethod yX0_fourAt ∈ wsL_law := inr13 _ (List.mem_of_getElem? (i := 15) rfl)
theorem ks_yX0_fourAt : Cond.selects RX0 yX0_fourAt yX0_fourAt ∈ wsL_law := inr13 _ (List.mem_of_getElem? (i := 16) rfl)
theorem kc_yX0_fourAt : Cond.code yX0_fourAt cX0_fourAt 2 (some .int) ∈ wsL_law := inr13 _ (List.mem_of_getElem? (i := 17) rfl)
theorem km_X0_70 : Cond.methodLink RX0 70 yX0_dataAt ∈ wsL_law := inr13 _ (List.mem_of_getElem? (i := 18) rfl)
theorem km_X4_202 : Cond.methodLink RX4 202 yX4_codeOfEnds ∈ wsL_law := inr13 _ (List.mem_of_getElem? (i := 19) rfl)
theorem kz_yX4_codeOfEnds : Cond.static yX4_codeOfEnds ∈ wsL_law := inr13 _ (List.mem_of_getElem? (i := 20) rfl)
theorem kc_yX4_codeOfEnds : Cond.code yX4_codeOfEnds cX4_codeOfEnds 2 (some .int) ∈ wsL_law := inr13 _ (List.mem_of_getElem? (i := 21) rfl)
theorem km_X4_175 : Cond.methodLink RX4 175 yX0_master ∈ wsL_law := inr13 _ (List.mem_of_getElem? (i := 22) rfl)
theorem ki_yX0_master : Cond.instanceMethod yX0_master ∈ wsL_law := inr13 _ (List.mem_of_getElem? (i := 23) rfl)
theorem ks_yX0_master : Cond.selects RX0 yX0_master yX0_master ∈ wsL_law := inr14 _ (List.mem_of_getElem? (i := 0) rfl)
theorem kc_yX0_master : Cond.code yX0_master cX0_master 1 (some .int) ∈ wsL_law := inr14 _ (List.mem_of_getElem? (i := 1) rfl)
theorem km_X4_178 : Cond.methodLink RX4 178 yX4_carryOut ∈ wsL_law := inr14 _ (List.mem_of_getElem? (i := 2) rfl)
theorem ki_yX4_carryOut : Cond.instanceMethod yX4_carryOut ∈ wsL_law := inr14 _ (List.mem_of_getElem? (i := 3) rfl)
theorem ks_yX4_carryOut : Cond.selects RX4 yX4_carryOut yX4_carryOut ∈ wsL_law := inr14 _ (List.mem_of_getElem? (i := 4) rfl)
theorem kc_yX4_carryOut : Cond.code yX4_carryOut cX4_carryOut 4 none ∈ wsL_law := inr14 _ (List.mem_of_getElem? (i := 5) rfl)
theorem kf_X4_77 : Cond.fieldLink RX4 77 "LoopDevice$Holdings" "upper" "I" ∈ wsL_law := inr14 _ (List.mem_of_getElem? (i := 6) rfl)
theorem kf_X4_74 : Cond.fieldLink RX4 74 "LoopDevice$Holdings" "lower" "I" ∈ wsL_law := inr14 _ (List.mem_of_getElem? (i := 7) rfl)
theorem kf_X4_209 : Cond.fieldLink RX4 209 "LoopDevice$Holdings" "changed" "I" ∈ wsL_law := inr14 _ (List.mem_of_getElem? (i := 8) rfl)
theorem km_X4_206 : Cond.methodLink RX4 206 yX2_setTagByte ∈ wsL_law := inr14 _ (List.mem_of_getElem? (i := 9) rfl)
theorem ki_yX2_setTagByte : Cond.instanceMethod yX2_setTagByte ∈ wsL_law := inr14 _ (List.mem_of_getElem? (i := 10) rfl)
theorem ks_yX2_setTagByte : Cond.selects RX2 yX2_setTagByte yX2_setTagByte ∈ wsL_law := inr14 _ (List.mem_of_getElem? (i := 11) rfl)
theorem kc_yX2_setTagByte : Cond.code yX2_setTagByte cX2_setTagByte 3 none ∈ wsL_law := inr14 _ (List.mem_of_getElem? (i := 12) rfl)
theorem km_X4_181 : Cond.methodLink RX4 181 yX1_waitOneTick ∈ wsL_law := inr14 _ (List.mem_of_getElem? (i := 13) rfl)
theorem ki_yX1_waitOneTick : Cond.instanceMethod yX1_waitOneTick ∈ wsL_law := inr14 _ (List.mem_of_getElem? (i := 14) rfl)
theorem ks_yX1_waitOneTick : Cond.selects RX1 yX1_waitOneTick yX1_waitOneTick ∈ wsL_law := inr14 _ (List.mem_of_getElem? (i := 15) rfl)
theorem kc_yX1_waitOneTick : Cond.code yX1_waitOneTick cX1_waitOneTick 1 none ∈ wsL_law := inr14 _ (List.mem_of_getElem? (i := 16) rfl)
theorem km_L_25 : Cond.methodLink RL 25 yX5_octet ∈ wsL_law := inr14 _ (List.mem_of_getElem? (i := 17) rfl)
theorem ki_yX5_octet : Cond.instanceMethod yX5_octet ∈ wsL_law := inr14 _ (List.mem_of_getElem? (i := 18) rfl)
theorem ks_yX5_octet : Cond.selects RX5 yX5_octet yX5_octet ∈ wsL_law := inr14 _ (List.mem_of_getElem? (i := 19) rfl)
theorem kc_yX5_octet : Cond.code yX5_octet cX5_octet 2 (some .int) ∈ wsL_law := inr14 _ (List.mem_of_getElem? (i := 20) rfl)
theorem kf_X5_54 : Cond.fieldLink RX5 54 "LoopDeviceModel" "thrown" "I" ∈ wsL_law := inr14 _ (List.mem_of_getElem? (i := 21) rfl)
theorem kf_X5_172 : Cond.fieldLink RX5 172 "LoopDeviceModel" "sent" "I" ∈ wsL_law := inr14 _ (List.mem_of_getElem? (i := 22) rfl)
theorem km_X5_191 : Cond.methodLink RX5 191 yX5_pass ∈ wsL_law := inr14 _ (List.mem_of_getElem? (i := 23) rfl)
theorem ki_yX5_pass : Cond.instanceMethod yX5_pass ∈ wsL_law := inr15 _ (List.mem_of_getElem? (i := 0) rfl)
theorem ks_yX5_pass : Cond.selects RX5 yX5_pass yX5_pass ∈ wsL_law := inr15 _ (List.mem_of_getElem? (i := 1) rfl)
theorem kc_yX5_pass : Cond.code yX5_pass cX5_pass 4 none ∈ wsL_law := inr15 _ (List.mem_of_getElem? (i := 2) rfl)
theorem kf_X5_105 : Cond.fieldLink RX5 105 "LoopDeviceModel" "isBurst" "Z" ∈ wsL_law := inr15 _ (List.mem_of_getElem? (i := 3) rfl)
theorem kf_X5_65 : Cond.fieldLink RX5 65 "LoopDeviceModel" "preamble" "I" ∈ wsL_law := inr15 _ (List.mem_of_getElem? (i := 4) rfl)
theorem kf_X5_68 : Cond.fieldLink RX5 68 "LoopDeviceModel" "came" "I" ∈ wsL_law := inr15 _ (List.mem_of_getElem? (i := 5) rfl)
theorem kl_X5_167 : Cond.constantLong RX5 167 (8) ∈ wsL_law := inr15 _ (List.mem_of_getElem? (i := 6) rfl)
theorem kf_X5_169 : Cond.fieldLink RX5 169 "LoopDeviceModel" "bursts" "I" ∈ wsL_law := inr15 _ (List.mem_of_getElem? (i := 7) rfl)
theorem kf_X5_151 : Cond.fieldLink RX5 151 "LoopDeviceModel" "now" "I" ∈ wsL_law := inr15 _ (List.mem_of_getElem? (i := 8) rfl)
theorem kf_X5_109 : Cond.fieldLink RX5 109 "LoopDeviceModel" "outSize" "I" ∈ wsL_law := inr15 _ (List.mem_of_getElem? (i := 9) rfl)
theorem kf_X5_188 : Cond.fieldLink RX5 188 "LoopDeviceModel" "bad" "I" ∈ wsL_law := inr15 _ (List.mem_of_getElem? (i := 10) rfl)
theorem km_X5_160 : Cond.methodLink RX5 160 yX5_isBusy ∈ wsL_law := inr15 _ (List.mem_of_getElem? (i := 11) rfl)
theorem ki_yX5_isBusy : Cond.instanceMethod yX5_isBusy ∈ wsL_law := inr15 _ (List.mem_of_getElem? (i := 12) rfl)
theorem ks_yX5_isBusy : Cond.selects RX5 yX5_isBusy yX5_isBusy ∈ wsL_law := inr15 _ (List.mem_of_getElem? (i := 13) rfl)
theorem kc_yX5_isBusy : Cond.code yX5_isBusy cX5_isBusy 1 (some .boolean) ∈ wsL_law := inr15 _ (List.mem_of_getElem? (i := 14) rfl)
theorem km_X5_163 : Cond.methodLink RX5 163 yX5_quiet ∈ wsL_law := inr15 _ (List.mem_of_getElem? (i := 15) rfl)
theorem ki_yX5_quiet : Cond.instanceMethod yX5_quiet ∈ wsL_law := inr15 _ (List.mem_of_getElem? (i := 16) rfl)
theorem ks_yX5_quiet : Cond.selects RX5 yX5_quiet yX5_quiet ∈ wsL_law := inr15 _ (List.mem_of_getElem? (i := 17) rfl)
theorem kc_yX5_quiet : Cond.code yX5_quiet cX5_quiet 1 (some .long) ∈ wsL_law := inr15 _ (List.mem_of_getElem? (i := 18) rfl)
theorem km_X5_156 : Cond.methodLink RX5 156 yX5_send ∈ wsL_law := inr15 _ (List.mem_of_getElem? (i := 19) rfl)
theorem ki_yX5_send : Cond.instanceMethod yX5_send ∈ wsL_law := inr15 _ (List.mem_of_getElem? (i := 20) rfl)
theorem ks_yX5_send : Cond.selects RX5 yX5_send yX5_send ∈ wsL_law := inr15 _ (List.mem_of_getElem? (i := 21) rfl)
theorem kc_yX5_send : Cond.code yX5_send cX5_send 11 none ∈ wsL_law := inr15 _ (List.mem_of_getElem? (i := 22) rfl)
theorem kf_X5_80 : Cond.fieldLink RX5 80 "LoopDeviceModel" "shortAddress" "I" ∈ wsL_law := inr15 _ (List.mem_of_getElem? (i := 23) rfl)
theorem km_X5_112 : Cond.methodLink RX5 112 yX5_put ∈ wsL_law := inr16 _ (List.mem_of_getElem? (i := 0) rfl)
theorem ki_yX5_put : Cond.instanceMethod yX5_put ∈ wsL_law := inr16 _ (List.mem_of_getElem? (i := 1) rfl)
theorem ks_yX5_put : Cond.selects RX5 yX5_put yX5_put ∈ wsL_law := inr16 _ (List.mem_of_getElem? (i := 2) rfl)
theorem kc_yX5_put : Cond.code yX5_put cX5_put 2 none ∈ wsL_law := inr16 _ (List.mem_of_getElem? (i := 3) rfl)
theorem km_X5_136 : Cond.methodLink RX5 136 yX5_statusOf ∈ wsL_law := inr16 _ (List.mem_of_getElem? (i := 4) rfl)
theorem ki_yX5_statusOf : Cond.instanceMethod yX5_statusOf ∈ wsL_law := inr16 _ (List.mem_of_getElem? (i := 5) rfl)
theorem ks_yX5_statusOf : Cond.selects RX5 yX5_statusOf yX5_statusOf ∈ wsL_law := inr16 _ (List.mem_of_getElem? (i := 6) rfl)
theorem kc_yX5_statusOf : Cond.code yX5_statusOf cX5_statusOf 3 (some .int) ∈ wsL_law := inr16 _ (List.mem_of_getElem? (i := 7) rfl)
theorem kf_X5_130 : Cond.fieldLink RX5 130 "LoopDeviceModel" "hasFailed" "Z" ∈ wsL_law := inr16 _ (List.mem_of_getElem? (i := 8) rfl)
theorem kf_X5_102 : Cond.fieldLink RX5 102 "LoopDeviceModel" "lower" "I" ∈ wsL_law := inr16 _ (List.mem_of_getElem? (i := 9) rfl)
theorem km_X5_139 : Cond.methodLink RX5 139 yX5_putData ∈ wsL_law := inr16 _ (List.mem_of_getElem? (i := 10) rfl)
theorem ki_yX5_putData : Cond.instanceMethod yX5_putData ∈ wsL_law := inr16 _ (List.mem_of_getElem? (i := 11) rfl)
theorem ks_yX5_putData : Cond.selects RX5 yX5_putData yX5_putData ∈ wsL_law := inr16 _ (List.mem_of_getElem? (i := 12) rfl)
theorem kc_yX5_putData : Cond.code yX5_putData cX5_putData 3 none ∈ wsL_law := inr16 _ (List.mem_of_getElem? (i := 13) rfl)
theorem kf_X5_99 : Cond.fieldLink RX5 99 "LoopDeviceModel" "unit" "I" ∈ wsL_law := inr16 _ (List.mem_of_getElem? (i := 14) rfl)
theorem kf_X5_133 : Cond.fieldLink RX5 133 "LoopDeviceModel" "answers" "I" ∈ wsL_law := inr16 _ (List.mem_of_getElem? (i := 15) rfl)
theorem km_X5_124 : Cond.methodLink RX5 124 yX5_putWord ∈ wsL_law := inr16 _ (List.mem_of_getElem? (i := 16) rfl)
theorem ki_yX5_putWord : Cond.instanceMethod yX5_putWord ∈ wsL_law := inr16 _ (List.mem_of_getElem? (i := 17) rfl)
theorem ks_yX5_putWord : Cond.selects RX5 yX5_putWord yX5_putWord ∈ wsL_law := inr16 _ (List.mem_of_getElem? (i := 18) rfl)
theorem kc_yX5_putWord : Cond.code yX5_putWord cX5_putWord 2 none ∈ wsL_law := inr16 _ (List.mem_of_getElem? (i := 19) rfl)
theorem km_X5_127 : Cond.methodLink RX5 127 yX5_putLevel ∈ wsL_law := inr16 _ (List.mem_of_getElem? (i := 20) rfl)
theorem ki_yX5_putLevel : Cond.instanceMethod yX5_putLevel ∈ wsL_law := inr16 _ (List.mem_of_getElem? (i := 21) rfl)
theorem ks_yX5_putLevel : Cond.selects RX5 yX5_putLevel yX5_putLevel ∈ wsL_law := inr16 _ (List.mem_of_getElem? (i := 22) rfl)
theorem kc_yX5_putLevel : Cond.code yX5_putLevel cX5_putLevel 5 none ∈ wsL_law := inr16 _ (List.mem_of_getElem? (i := 23) rfl)
theorem kl_X5_116 : Cond.constantLong RX5 116 (16000) ∈ wsL_law := inr17 _ (List.mem_of_getElem? (i := 0) rfl)
theorem kl_X5_118 : Cond.constantLong RX5 118 (4000) ∈ wsL_law := inr17 _ (List.mem_of_getElem? (i := 1) rfl)
theorem kl_X5_120 : Cond.constantLong RX5 120 (3800) ∈ wsL_law := inr17 _ (List.mem_of_getElem? (i := 2) rfl)
theorem kl_X5_122 : Cond.constantLong RX5 122 (20500) ∈ wsL_law := inr17 _ (List.mem_of_getElem? (i := 3) rfl)
theorem km_X5_71 : Cond.methodLink RX5 71 yX5_count ∈ wsL_law := inr17 _ (List.mem_of_getElem? (i := 4) rfl)
theorem ki_yX5_count : Cond.instanceMethod yX5_count ∈ wsL_law := inr17 _ (List.mem_of_getElem? (i := 5) rfl)
theorem ks_yX5_count : Cond.selects RX5 yX5_count yX5_count ∈ wsL_law := inr17 _ (List.mem_of_getElem? (i := 6) rfl)
theorem kc_yX5_count : Cond.code yX5_count cX5_count 1 (some .int) ∈ wsL_law := inr17 _ (List.mem_of_getElem? (i := 7) rfl)
theorem km_X5_57 : Cond.methodLink RX5 57 yX5_addressSize ∈ wsL_law := inr17 _ (List.mem_of_getElem? (i := 8) rfl)
theorem ki_yX5_addressSize : Cond.instanceMethod yX5_addressSize ∈ wsL_law := inr17 _ (List.mem_of_getElem? (i := 9) rfl)
theorem ks_yX5_addressSize : Cond.selects RX5 yX5_addressSize yX5_addressSize ∈ wsL_law := inr17 _ (List.mem_of_getElem? (i := 10) rfl)
theorem kc_yX5_addressSize : Cond.code yX5_addressSize cX5_addressSize 1 (some .int) ∈ wsL_law := inr17 _ (List.mem_of_getElem? (i := 11) rfl)
theorem km_X5_61 : Cond.methodLink RX5 61 yX5_data ∈ wsL_law := inr17 _ (List.mem_of_getElem? (i := 12) rfl)
theorem ki_yX5_data : Cond.instanceMethod yX5_data ∈ wsL_law := inr17 _ (List.mem_of_getElem? (i := 13) rfl)
theorem ks_yX5_data : Cond.selects RX5 yX5_data yX5_data ∈ wsL_law := inr17 _ (List.mem_of_getElem? (i := 14) rfl)
theorem kc_yX5_data : Cond.code yX5_data cX5_data 2 (some .int) ∈ wsL_law := inr17 _ (List.mem_of_getElem? (i := 15) rfl)
theorem km_X5_74 : Cond.methodLink RX5 74 yX5_forget ∈ wsL_law := inr17 _ (List.mem_of_getElem? (i := 16) rfl)
theorem ki_yX5_forget : Cond.instanceMethod yX5_forget ∈ wsL_law := inr17 _ (List.mem_of_getElem? (i := 17) rfl)
theorem ks_yX5_forget : Cond.selects RX5 yX5_forget yX5_forget ∈ wsL_law := inr17 _ (List.mem_of_getElem? (i := 18) rfl)
theorem kc_yX5_forget : Cond.code yX5_forget cX5_forget 1 none ∈ wsL_law := inr17 _ (List.mem_of_getElem? (i := 19) rfl)
theorem km_X5_175 : Cond.methodLink RX5 175 yX5_keep ∈ wsL_law := inr17 _ (List.mem_of_getElem? (i := 20) rfl)
theorem ki_yX5_keep : Cond.instanceMethod yX5_keep ∈ wsL_law := inr17 _ (List.mem_of_getElem? (i := 21) rfl)
theorem ks_yX5_keep : Cond.selects RX5 yX5_keep yX5_keep ∈ wsL_law := inr17 _ (List.mem_of_getElem? (i := 22) rfl)
theorem kc_yX5_keep : Cond.code yX5_keep cX5_keep 3 (some .boolean) ∈ wsL_law := inr17 _ (List.mem_of_getElem? (i := 23) rfl)
theorem km_X5_179 : Cond.methodLink RX5 179 yX5_isRight ∈ wsL_law := inr18 _ (List.mem_of_getElem? (i := 0) rfl)
theorem ki_yX5_isRight : Cond.instanceMethod yX5_isRight ∈ wsL_law := inr18 _ (List.mem_of_getElem? (i := 1) rfl)
theorem ks_yX5_isRight : Cond.selects RX5 yX5_isRight yX5_isRight ∈ wsL_law := inr18 _ (List.mem_of_getElem? (i := 2) rfl)
theorem kc_yX5_isRight : Cond.code yX5_isRight cX5_isRight 3 (some .boolean) ∈ wsL_law := inr18 _ (List.mem_of_getElem? (i := 3) rfl)
theorem km_X5_182 : Cond.methodLink RX5 182 yX5_isOwn ∈ wsL_law := inr18 _ (List.mem_of_getElem? (i := 4) rfl)
theorem ki_yX5_isOwn : Cond.instanceMethod yX5_isOwn ∈ wsL_law := inr18 _ (List.mem_of_getElem? (i := 5) rfl)
theorem ks_yX5_isOwn : Cond.selects RX5 yX5_isOwn yX5_isOwn ∈ wsL_law := inr18 _ (List.mem_of_getElem? (i := 6) rfl)
theorem kc_yX5_isOwn : Cond.code yX5_isOwn cX5_isOwn 3 (some .boolean) ∈ wsL_law := inr18 _ (List.mem_of_getElem? (i := 7) rfl)
theorem km_X5_83 : Cond.methodLink RX5 83 yX5_isBroadcast ∈ wsL_law := inr18 _ (List.mem_of_getElem? (i := 8) rfl)
theorem ki_yX5_isBroadcast : Cond.instanceMethod yX5_isBroadcast ∈ wsL_law := inr18 _ (List.mem_of_getElem? (i := 9) rfl)
theorem ks_yX5_isBroadcast : Cond.selects RX5 yX5_isBroadcast yX5_isBroadcast ∈ wsL_law := inr18 _ (List.mem_of_getElem? (i := 10) rfl)
theorem kc_yX5_isBroadcast : Cond.code yX5_isBroadcast cX5_isBroadcast 1 (some .boolean) ∈ wsL_law := inr18 _ (List.mem_of_getElem? (i := 11) rfl)
theorem km_X5_77 : Cond.methodLink RX5 77 yX5_command ∈ wsL_law := inr18 _ (List.mem_of_getElem? (i := 12) rfl)
theorem ki_yX5_command : Cond.instanceMethod yX5_command ∈ wsL_law := inr18 _ (List.mem_of_getElem? (i := 13) rfl)
theorem ks_yX5_command : Cond.selects RX5 yX5_command yX5_command ∈ wsL_law := inr18 _ (List.mem_of_getElem? (i := 14) rfl)
theorem kc_yX5_command : Cond.code yX5_command cX5_command 1 (some .int) ∈ wsL_law := inr18 _ (List.mem_of_getElem? (i := 15) rfl)
theorem km_X5_185 : Cond.methodLink RX5 185 yX5_answer ∈ wsL_law := inr18 _ (List.mem_of_getElem? (i := 16) rfl)
theorem ki_yX5_answer : Cond.instanceMethod yX5_answer ∈ wsL_law := inr18 _ (List.mem_of_getElem? (i := 17) rfl)
theorem ks_yX5_answer : Cond.selects RX5 yX5_answer yX5_answer ∈ wsL_law := inr18 _ (List.mem_of_getElem? (i := 18) rfl)
theorem kc_yX5_answer : Cond.code yX5_answer cX5_answer 2 none ∈ wsL_law := inr18 _ (List.mem_of_getElem? (i := 19) rfl)
theorem kf_X5_142 : Cond.fieldLink RX5 142 "LoopDeviceModel" "good" "I" ∈ wsL_law := inr18 _ (List.mem_of_getElem? (i := 20) rfl)
theorem kl_X5_154 : Cond.constantLong RX5 154 (2) ∈ wsL_law := inr18 _ (List.mem_of_getElem? (i := 21) rfl)
theorem km_X5_145 : Cond.methodLink RX5 145 yX5_codeOf ∈ wsL_law := inr18 _ (List.mem_of_getElem? (i := 22) rfl)
theorem ki_yX5_codeOf : Cond.instanceMethod yX5_codeOf ∈ wsL_law := inr18 _ (List.mem_of_getElem? (i := 23) rfl)
theorem ks_yX5_codeOf : Cond.selects RX5 yX5_codeOf yX5_codeOf ∈ wsL_law := inr19 _ (List.mem_of_getElem? (i := 0) rfl)
theorem kc_yX5_codeOf : Cond.code yX5_codeOf cX5_codeOf 3 (some .int) ∈ wsL_law := inr19 _ (List.mem_of_getElem? (i := 1) rfl)
theorem km_X5_87 : Cond.methodLink RX5 87 yX5_countWanted ∈ wsL_law := inr19 _ (List.mem_of_getElem? (i := 2) rfl)
theorem kz_yX5_countWanted : Cond.static yX5_countWanted ∈ wsL_law := inr19 _ (List.mem_of_getElem? (i := 3) rfl)
theorem kc_yX5_countWanted : Cond.code yX5_countWanted cX5_countWanted 1 (some .int) ∈ wsL_law := inr19 _ (List.mem_of_getElem? (i := 4) rfl)
theorem km_X5_90 : Cond.methodLink RX5 90 yX5_hasTag ∈ wsL_law := inr19 _ (List.mem_of_getElem? (i := 5) rfl)
theorem ki_yX5_hasTag : Cond.instanceMethod yX5_hasTag ∈ wsL_law := inr19 _ (List.mem_of_getElem? (i := 6) rfl)
theorem ks_yX5_hasTag : Cond.selects RX5 yX5_hasTag yX5_hasTag ∈ wsL_law := inr19 _ (List.mem_of_getElem? (i := 7) rfl)
theorem kc_yX5_hasTag : Cond.code yX5_hasTag cX5_hasTag 3 (some .boolean) ∈ wsL_law := inr19 _ (List.mem_of_getElem? (i := 8) rfl)
theorem km_X5_93 : Cond.methodLink RX5 93 yX5_word ∈ wsL_law := inr19 _ (List.mem_of_getElem? (i := 9) rfl)
theorem ki_yX5_word : Cond.instanceMethod yX5_word ∈ wsL_law := inr19 _ (List.mem_of_getElem? (i := 10) rfl)
theorem ks_yX5_word : Cond.selects RX5 yX5_word yX5_word ∈ wsL_law := inr19 _ (List.mem_of_getElem? (i := 11) rfl)
theorem kc_yX5_word : Cond.code yX5_word cX5_word 2 (some .int) ∈ wsL_law := inr19 _ (List.mem_of_getElem? (i := 12) rfl)
theorem km_X5_148 : Cond.methodLink RX5 148 yX5_obey ∈ wsL_law := inr19 _ (List.mem_of_getElem? (i := 13) rfl)
theorem ki_yX5_obey : Cond.instanceMethod yX5_obey ∈ wsL_law := inr19 _ (List.mem_of_getElem? (i := 14) rfl)
theorem ks_yX5_obey : Cond.selects RX5 yX5_obey yX5_obey ∈ wsL_law := inr19 _ (List.mem_of_getElem? (i := 15) rfl)
theorem kc_yX5_obey : Cond.code yX5_obey cX5_obey 3 none ∈ wsL_law := inr19 _ (List.mem_of_getElem? (i := 16) rfl)
theorem km_X5_96 : Cond.methodLink RX5 96 yX5_master ∈ wsL_law := inr19 _ (List.mem_of_getElem? (i := 17) rfl)
theorem ki_yX5_master : Cond.instanceMethod yX5_master ∈ wsL_law := inr19 _ (List.mem_of_getElem? (i := 18) rfl)
theorem ks_yX5_master : Cond.selects RX5 yX5_master yX5_master ∈ wsL_law := inr19 _ (List.mem_of_getElem? (i := 19) rfl)
theorem kc_yX5_master : Cond.code yX5_master cX5_master 1 (some .int) ∈ wsL_law := inr19 _ (List.mem_of_getElem? (i := 20) rfl)
theorem km_L_26 : Cond.methodLink RL 26 yX4_octets ∈ wsL_law := inr19 _ (List.mem_of_getElem? (i := 21) rfl)
theorem ki_yX4_octets : Cond.instanceMethod yX4_octets ∈ wsL_law := inr19 _ (List.mem_of_getElem? (i := 22) rfl)
theorem ks_yX4_octets : Cond.selects RX4 yX4_octets yX4_octets ∈ wsL_law := inr19 _ (List.mem_of_getElem? (i := 23) rfl)
theorem kc_yX4_octets : Cond.code yX4_octets cX4_octets 3 (some .int) ∈ wsL_law := inr20 _ (List.mem_of_getElem? (i := 0) rfl)
theorem km_L_29 : Cond.methodLink RL 29 yX5_octets ∈ wsL_law := inr20 _ (List.mem_of_getElem? (i := 1) rfl)
theorem ki_yX5_octets : Cond.instanceMethod yX5_octets ∈ wsL_law := inr20 _ (List.mem_of_getElem? (i := 2) rfl)
theorem ks_yX5_octets : Cond.selects RX5 yX5_octets yX5_octets ∈ wsL_law := inr20 _ (List.mem_of_getElem? (i := 3) rfl)
theorem kc_yX5_octets : Cond.code yX5_octets cX5_octets 3 (some .int) ∈ wsL_law := inr20 _ (List.mem_of_getElem? (i := 4) rfl)
theorem km_L_30 : Cond.methodLink RL 30 yX4_tick ∈ wsL_law := inr20 _ (List.mem_of_getElem? (i := 5) rfl)
theorem ki_yX4_tick : Cond.instanceMethod yX4_tick ∈ wsL_law := inr20 _ (List.mem_of_getElem? (i := 6) rfl)
theorem ks_yX4_tick : Cond.selects RX4 yX4_tick yX4_tick ∈ wsL_law := inr20 _ (List.mem_of_getElem? (i := 7) rfl)
theorem kc_yX4_tick : Cond.code yX4_tick cX4_tick 3 (some .int) ∈ wsL_law := inr20 _ (List.mem_of_getElem? (i := 8) rfl)
theorem km_L_33 : Cond.methodLink RL 33 yX5_tick ∈ wsL_law := inr20 _ (List.mem_of_getElem? (i := 9) rfl)
theorem ki_yX5_tick : Cond.instanceMethod yX5_tick ∈ wsL_law := inr20 _ (List.mem_of_getElem? (i := 10) rfl)
theorem ks_yX5_tick : Cond.selects RX5 yX5_tick yX5_tick ∈ wsL_law := inr20 _ (List.mem_of_getElem? (i := 11) rfl)
theorem kc_yX5_tick : Cond.code yX5_tick cX5_tick 3 (some .int) ∈ wsL_law := inr20 _ (List.mem_of_getElem? (i := 12) rfl)
theorem km_L_34 : Cond.methodLink RL 34 yX4_sent ∈ wsL_law := inr20 _ (List.mem_of_getElem? (i := 13) rfl)
theorem ki_yX4_sent : Cond.instanceMethod yX4_sent ∈ wsL_law := inr20 _ (List.mem_of_getElem? (i := 14) rfl)
theorem ks_yX4_sent : Cond.selects RX4 yX4_sent yX4_sent ∈ wsL_law := inr20 _ (List.mem_of_getElem? (i := 15) rfl)
theorem kc_yX4_sent : Cond.code yX4_sent cX4_sent 2 (some .int) ∈ wsL_law := inr20 _ (List.mem_of_getElem? (i := 16) rfl)
theorem km_X4_48 : Cond.methodLink RX4 48 yX3_byteAt ∈ wsL_law := inr20 _ (List.mem_of_getElem? (i := 17) rfl)
theorem ki_yX3_byteAt : Cond.instanceMethod yX3_byteAt ∈ wsL_law := inr20 _ (List.mem_of_getElem? (i := 18) rfl)
theorem ks_yX3_byteAt : Cond.selects RX3 yX3_byteAt yX3_byteAt ∈ wsL_law := inr20 _ (List.mem_of_getElem? (i := 19) rfl)
theorem kc_yX3_byteAt : Cond.code yX3_byteAt cX3_byteAt 3 (some .int) ∈ wsL_law := inr20 _ (List.mem_of_getElem? (i := 20) rfl)
theorem km_X3_22 : Cond.methodLink RX3 22 yX3_placeOf ∈ wsL_law := inr20 _ (List.mem_of_getElem? (i := 21) rfl)
theorem ki_yX3_placeOf : Cond.instanceMethod yX3_placeOf ∈ wsL_law := inr20 _ (List.mem_of_getElem? (i := 22) rfl)
theorem ks_yX3_placeOf : Cond.selects RX3 yX3_placeOf yX3_placeOf ∈ wsL_law := inr20 _ (List.mem_of_getElem? (i := 23) rfl)
theorem kc_yX3_placeOf : Cond.code yX3_placeOf cX3_placeOf 2 (some .int) ∈ wsL_law := inr21 _ (List.mem_of_getElem? (i := 0) rfl)
theorem km_L_37 : Cond.methodLink RL 37 yX5_sent ∈ wsL_law := inr21 _ (List.mem_of_getElem? (i := 1) rfl)
theorem ki_yX5_sent : Cond.instanceMethod yX5_sent ∈ wsL_law := inr21 _ (List.mem_of_getElem? (i := 2) rfl)
theorem ks_yX5_sent : Cond.selects RX5 yX5_sent yX5_sent ∈ wsL_law := inr21 _ (List.mem_of_getElem? (i := 3) rfl)
theorem kc_yX5_sent : Cond.code yX5_sent cX5_sent 2 (some .int) ∈ wsL_law := inr21 _ (List.mem_of_getElem? (i := 4) rfl)
theorem km_X5_194 : Cond.methodLink RX5 194 yX5_isKept ∈ wsL_law := inr21 _ (List.mem_of_getElem? (i := 5) rfl)
theorem ki_yX5_isKept : Cond.instanceMethod yX5_isKept ∈ wsL_law := inr21 _ (List.mem_of_getElem? (i := 6) rfl)
theorem ks_yX5_isKept : Cond.selects RX5 yX5_isKept yX5_isKept ∈ wsL_law := inr21 _ (List.mem_of_getElem? (i := 7) rfl)
theorem kc_yX5_isKept : Cond.code yX5_isKept cX5_isKept 2 (some .boolean) ∈ wsL_law := inr21 _ (List.mem_of_getElem? (i := 8) rfl)
theorem km_L_38 : Cond.methodLink RL 38 yX4_when ∈ wsL_law := inr21 _ (List.mem_of_getElem? (i := 9) rfl)
theorem ki_yX4_when : Cond.instanceMethod yX4_when ∈ wsL_law := inr21 _ (List.mem_of_getElem? (i := 10) rfl)
theorem ks_yX4_when : Cond.selects RX4 yX4_when yX4_when ∈ wsL_law := inr21 _ (List.mem_of_getElem? (i := 11) rfl)
theorem kc_yX4_when : Cond.code yX4_when cX4_when 2 (some .int) ∈ wsL_law := inr21 _ (List.mem_of_getElem? (i := 12) rfl)
theorem km_X4_52 : Cond.methodLink RX4 52 yX3_tickAt ∈ wsL_law := inr21 _ (List.mem_of_getElem? (i := 13) rfl)
theorem ki_yX3_tickAt : Cond.instanceMethod yX3_tickAt ∈ wsL_law := inr21 _ (List.mem_of_getElem? (i := 14) rfl)
theorem ks_yX3_tickAt : Cond.selects RX3 yX3_tickAt yX3_tickAt ∈ wsL_law := inr21 _ (List.mem_of_getElem? (i := 15) rfl)
theorem kc_yX3_tickAt : Cond.code yX3_tickAt cX3_tickAt 3 (some .int) ∈ wsL_law := inr21 _ (List.mem_of_getElem? (i := 16) rfl)
theorem km_L_41 : Cond.methodLink RL 41 yX5_when ∈ wsL_law := inr21 _ (List.mem_of_getElem? (i := 17) rfl)
theorem ki_yX5_when : Cond.instanceMethod yX5_when ∈ wsL_law := inr21 _ (List.mem_of_getElem? (i := 18) rfl)
theorem ks_yX5_when : Cond.selects RX5 yX5_when yX5_when ∈ wsL_law := inr21 _ (List.mem_of_getElem? (i := 19) rfl)
theorem kc_yX5_when : Cond.code yX5_when cX5_when 2 (some .int) ∈ wsL_law := inr21 _ (List.mem_of_getElem? (i := 20) rfl)
theorem km_L_42 : Cond.methodLink RL 42 yX4_variable ∈ wsL_law := inr21 _ (List.mem_of_getElem? (i := 21) rfl)
theorem ki_yX4_variable : Cond.instanceMethod yX4_variable ∈ wsL_law := inr21 _ (List.mem_of_getElem? (i := 22) rfl)
theorem ks_yX4_variable : Cond.selects RX4 yX4_variable yX4_variable ∈ wsL_law := inr21 _ (List.mem_of_getElem? (i := 23) rfl)
theorem kc_yX4_variable : Cond.code yX4_variable cX4_variable 5 (some .long) ∈ wsL_law := inr22 _ (List.mem_of_getElem? (i := 0) rfl)
theorem kl_X4_55 : Cond.constantLong RX4 55 (-1) ∈ wsL_law := inr22 _ (List.mem_of_getElem? (i := 1) rfl)
theorem km_X4_60 : Cond.methodLink RX4 60 yX2_setVariable ∈ wsL_law := inr22 _ (List.mem_of_getElem? (i := 2) rfl)
theorem ki_yX2_setVariable : Cond.instanceMethod yX2_setVariable ∈ wsL_law := inr22 _ (List.mem_of_getElem? (i := 3) rfl)
theorem ks_yX2_setVariable : Cond.selects RX2 yX2_setVariable yX2_setVariable ∈ wsL_law := inr22 _ (List.mem_of_getElem? (i := 4) rfl)
theorem kc_yX2_setVariable : Cond.code yX2_setVariable cX2_setVariable 3 none ∈ wsL_law := inr22 _ (List.mem_of_getElem? (i := 5) rfl)
theorem km_L_46 : Cond.methodLink RL 46 yX5_variable ∈ wsL_law := inr22 _ (List.mem_of_getElem? (i := 6) rfl)
theorem ki_yX5_variable : Cond.instanceMethod yX5_variable ∈ wsL_law := inr22 _ (List.mem_of_getElem? (i := 7) rfl)
theorem ks_yX5_variable : Cond.selects RX5 yX5_variable yX5_variable ∈ wsL_law := inr22 _ (List.mem_of_getElem? (i := 8) rfl)
theorem kc_yX5_variable : Cond.code yX5_variable cX5_variable 4 (some .long) ∈ wsL_law := inr22 _ (List.mem_of_getElem? (i := 9) rfl)
theorem km_L_47 : Cond.methodLink RL 47 yX4_failure ∈ wsL_law := inr22 _ (List.mem_of_getElem? (i := 10) rfl)
theorem ki_yX4_failure : Cond.instanceMethod yX4_failure ∈ wsL_law := inr22 _ (List.mem_of_getElem? (i := 11) rfl)
theorem ks_yX4_failure : Cond.selects RX4 yX4_failure yX4_failure ∈ wsL_law := inr22 _ (List.mem_of_getElem? (i := 12) rfl)
theorem kc_yX4_failure : Cond.code yX4_failure cX4_failure 2 (some .int) ∈ wsL_law := inr22 _ (List.mem_of_getElem? (i := 13) rfl)
theorem km_L_51 : Cond.methodLink RL 51 yX5_failure ∈ wsL_law := inr22 _ (List.mem_of_getElem? (i := 14) rfl)
theorem ki_yX5_failure : Cond.instanceMethod yX5_failure ∈ wsL_law := inr22 _ (List.mem_of_getElem? (i := 15) rfl)
theorem ks_yX5_failure : Cond.selects RX5 yX5_failure yX5_failure ∈ wsL_law := inr22 _ (List.mem_of_getElem? (i := 16) rfl)
theorem kc_yX5_failure : Cond.code yX5_failure cX5_failure 3 (some .int) ∈ wsL_law := inr22 _ (List.mem_of_getElem? (i := 17) rfl)
theorem km_L_52 : Cond.methodLink RL 52 yX4_has ∈ wsL_law := inr22 _ (List.mem_of_getElem? (i := 18) rfl)
theorem ki_yX4_has : Cond.instanceMethod yX4_has ∈ wsL_law := inr22 _ (List.mem_of_getElem? (i := 19) rfl)
theorem ks_yX4_has : Cond.selects RX4 yX4_has yX4_has ∈ wsL_law := inr22 _ (List.mem_of_getElem? (i := 20) rfl)
theorem kc_yX4_has : Cond.code yX4_has cX4_has 2 (some .long) ∈ wsL_law := inr22 _ (List.mem_of_getElem? (i := 21) rfl)
theorem km_L_56 : Cond.methodLink RL 56 yX5_has ∈ wsL_law := inr22 _ (List.mem_of_getElem? (i := 22) rfl)
theorem ki_yX5_has : Cond.instanceMethod yX5_has ∈ wsL_law := inr22 _ (List.mem_of_getElem? (i := 23) rfl)
theorem ks_yX5_has : Cond.selects RX5 yX5_has yX5_has ∈ wsL_law := inr23 _ (List.mem_of_getElem? (i := 0) rfl)
theorem kc_yX5_has : Cond.code yX5_has cX5_has 2 (some .long) ∈ wsL_law := inr23 _ (List.mem_of_getElem? (i := 1) rfl)
theorem km_L_57 : Cond.methodLink RL 57 yX4_tag ∈ wsL_law := inr23 _ (List.mem_of_getElem? (i := 2) rfl)
theorem ki_yX4_tag : Cond.instanceMethod yX4_tag ∈ wsL_law := inr23 _ (List.mem_of_getElem? (i := 3) rfl)
theorem ks_yX4_tag : Cond.selects RX4 yX4_tag yX4_tag ∈ wsL_law := inr23 _ (List.mem_of_getElem? (i := 4) rfl)
theorem kc_yX4_tag : Cond.code yX4_tag cX4_tag 2 (some .int) ∈ wsL_law := inr23 _ (List.mem_of_getElem? (i := 5) rfl)
theorem km_L_60 : Cond.methodLink RL 60 yX5_tag ∈ wsL_law := inr23 _ (List.mem_of_getElem? (i := 6) rfl)
theorem ki_yX5_tag : Cond.instanceMethod yX5_tag ∈ wsL_law := inr23 _ (List.mem_of_getElem? (i := 7) rfl)
theorem ks_yX5_tag : Cond.selects RX5 yX5_tag yX5_tag ∈ wsL_law := inr23 _ (List.mem_of_getElem? (i := 8) rfl)
theorem kc_yX5_tag : Cond.code yX5_tag cX5_tag 2 (some .int) ∈ wsL_law := inr23 _ (List.mem_of_getElem? (i := 9) rfl)
theorem km_L_61 : Cond.methodLink RL 61 yX4_now ∈ wsL_law := inr23 _ (List.mem_of_getElem? (i := 10) rfl)
theorem ki_yX4_now : Cond.instanceMethod yX4_now ∈ wsL_law := inr23 _ (List.mem_of_getElem? (i := 11) rfl)
theorem ks_yX4_now : Cond.selects RX4 yX4_now yX4_now ∈ wsL_law := inr23 _ (List.mem_of_getElem? (i := 12) rfl)
theorem kc_yX4_now : Cond.code yX4_now cX4_now 1 (some .int) ∈ wsL_law := inr23 _ (List.mem_of_getElem? (i := 13) rfl)
theorem km_L_65 : Cond.methodLink RL 65 yX5_now ∈ wsL_law := inr23 _ (List.mem_of_getElem? (i := 14) rfl)
theorem ki_yX5_now : Cond.instanceMethod yX5_now ∈ wsL_law := inr23 _ (List.mem_of_getElem? (i := 15) rfl)
theorem ks_yX5_now : Cond.selects RX5 yX5_now yX5_now ∈ wsL_law := inr23 _ (List.mem_of_getElem? (i := 16) rfl)
theorem kc_yX5_now : Cond.code yX5_now cX5_now 1 (some .int) ∈ wsL_law := inr23 _ (List.mem_of_getElem? (i := 17) rfl)
end
section
/-! words of every method: its own code, and the law's list -/
abbrev wG (y : MethodName) (b : ByteArray) (n : Nat) (r : Option FieldType) : List Cond := Cond.code y b n r :: wsL_law
set_option maxRecDepth 100000 in
theorem wG_all : wsL_law.all goodWord = true := by decide +kernel
theorem wG_in {y : MethodName} {b : ByteArray} {n : Nat} {r : Option FieldType} (h : Cond.code y b n r ∈ wsL_law) : GoodIn wsL_law (wG y b n r) := by
  intro w hw
  have hm : w ∈ wsL_law := by
    rcases List.mem_cons.mp hw with q | q
    · rw [q]; exact h
    · exact q
  exact ⟨hm, good_of_word (List.all_eq_true.mp wG_all w hm)⟩
theorem wG_V {own C : String} {idx : Nat} {y : MethodName} {b : ByteArray} {n : Nat} {r : Option FieldType} (h1 : Cond.methodLink own idx y ∈ wsL_law) (h2 : Cond.instanceMethod y ∈ wsL_law) (h3 : Cond.selects C y y ∈ wsL_law) (h4 : Cond.initialized C ∈ wsL_law) (h5 : Cond.code y b n r ∈ wsL_law) : GoodIn wsL_law (wsV own idx C y (wG y b n r)) := by
  intro w hw
  rcases List.mem_append.mp hw with q | q
  · have hm : w ∈ wsL_law := by
      simp only [List.mem_cons, List.not_mem_nil, or_false] at q
      rcases q with q | q | q | q <;> rw [q] <;> assumption
    exact ⟨hm, good_of_word (List.all_eq_true.mp wG_all w hm)⟩
  · exact wG_in h5 w q
theorem wG_S {own : String} {idx : Nat} {y : MethodName} {b : ByteArray} {n : Nat} {r : Option FieldType} (h1 : Cond.methodLink own idx y ∈ wsL_law) (h2 : Cond.static y ∈ wsL_law) (h4 : Cond.initialized own ∈ wsL_law) (h5 : Cond.code y b n r ∈ wsL_law) : GoodIn wsL_law (wsS own idx y (wG y b n r)) := by
  intro w hw
  rcases List.mem_append.mp hw with q | q
  · have hm : w ∈ wsL_law := by
      simp only [List.mem_cons, List.not_mem_nil, or_false] at q
      rcases q with q | q | q <;> rw [q] <;> assumption
    exact ⟨hm, good_of_word (List.all_eq_true.mp wG_all w hm)⟩
  · exact wG_in h5 w q
/-! a state: int fields, long fields, rows -/
abbrev Sg : Type := (Nat → Int32) × (Nat → Int64) × (Nat → Nat → Int32)
def gI (z : Sg) (k : Nat) : Int32 := z.1 k
def gL (z : Sg) (k : Nat) : Int64 := z.2.1 k
def gA (z : Sg) (r : Nat) : Nat → Int32 := z.2.2 r
def pI (z : Sg) (k : Nat) (v : Int32) : Sg := (upd z.1 k v, z.2.1, z.2.2)
def pL (z : Sg) (k : Nat) (v : Int64) : Sg := (z.1, vp_updL z.2.1 k v, z.2.2)
def pA (z : Sg) (r i : Nat) (v : Int32) : Sg := (z.1, z.2.1, fun j => if j = r then upd (z.2.2 r) i v else z.2.2 j)
def bd {α : Type} {β : Sort _} (a : α) (F : α → β) : β := F a
theorem bd_e {α β : Type} {a : α} {F : α → β} {r : β} (h : bd a F = r) : ∃ z, z = a ∧ F z = r := ⟨a, rfl, h⟩
theorem bd_s {α : Type} {a z : α} {F : α → Prop} (e : z = a) (h : bd a F) : F z := by subst e; exact h
theorem if_t {α : Type} {c : Prop} [Decidable c] {a b r : α} (h : c) (e : (if c then a else b) = r) : a = r := by rw [if_pos h] at e; exact e
theorem if_f {α : Type} {c : Prop} [Decidable c] {a b r : α} (h : ¬ c) (e : (if c then a else b) = r) : b = r := by rw [if_neg h] at e; exact e
theorem vi_of {i M : Int32} {n : Nat} (hM : M.toInt = n) (h0 : ¬ i < 0) (h1 : i < M) : vp_in i n := by
  rw [vp_in_iff]
  rw [Int32.lt_iff_toInt_lt] at h0 h1
  have h2 : (0 : Int32).toInt = 0 := rfl
  omega
theorem vi_of2 {i M : Int32} {n : Nat} (hM : M.toInt = n) (h0 : ¬ i < 0) (h1 : ¬ M ≤ i) : vp_in i n := by
  refine vi_of hM h0 ?_
  rw [Int32.le_iff_toInt_le] at h1
  rw [Int32.lt_iff_toInt_lt]
  omega
/-! contracts over a state -/
def CPre (D : va_G) (wf : Sg → va_W) (ty : List (ClassId × FieldType)) (sz : Nat) (z : Sg) (U : State) : Prop := U.heap.size = sz ∧ va_P D vwCl (wf z) U.heap ∧ va_K D vwCl ty U ∧ va_D (fun _ => True) (wf z)
def CQ (D : va_G) (wf : Sg → va_W) (A : Nat → Prop) (res : Option Value) (z : Sg) : Array Value → State → Outcome → State → Prop := fun _ st oc t => oc = .returned res ∧ va_P D vwCl (wf z) t.heap ∧ va_F A st t
def CT (D : va_G) (wf : Sg → va_W) (ty : List (ClassId × FieldType)) (l : Launch) (y : MethodName) (ws : List Cond) (rm : Room) (av : List Value) (z : Sg) (res : Option Value) (z' : Sg) : Prop := ∀ sz : Nat, Met l y ws rm (va_Pc av (CPre D wf ty sz z)) (CQ D wf (va_A (wf z) sz) res z') 0 0 (va_A (wf z) sz)
def Wd (D : va_G) (wf : Sg → va_W) (ty : List (ClassId × FieldType)) (A : Nat → Prop) (s : State) (H : Heap) (locs : List Loc) (z : Sg) : Prop := va_P D vwCl (wf z) H ∧ va_K D vwCl ty s ∧ va_D A (wf z) ∧ va_S A s.heap H locs
theorem CT.ofW {D : va_G} {wf : Sg → va_W} {ty : List (ClassId × FieldType)} {l : Launch} {y : MethodName} {cc : ByteArray} {maxL : Nat} {ret : Option FieldType} {rm : Room} {av : List Value} {z : Sg} {res : Option Value} {z' : Sg} (hy : plainName y.cls = true) (hlen : (lg_sl av).length ≤ maxL)
    (body : ∀ (p : Program) (e : Env) (R : Room) (s : State) (m : MethodId) (args : Array Value) (below : List Frame) (meth : Method) (c : Code) (A : Nat → Prop), R = rm → CallFix p m c cc maxL s args wsL_law y.cls → meth.sig.returnType = ret → meth.locks = false → (∀ q : Nat, s.heap.size ≤ q → A q) → Wd D wf ty A s s.heap [] z → ∀ ls : Array Slot, lv_has ls maxL (lv_args 0 av) → W p l e R s m args below meth c s.heap [] 0 0 (MQ below (CQ D wf A res z') args s 0 0 A) (F0 m 0 ls [])) : CT D wf ty l y (wG y cc maxL ret) rm av z res z' := by
  intro sz
  refine Met.ofW (cc := cc) (maxL := maxL) (ret := ret) hy rfl ?_
  intro p e s m args below meth c s₁ B hml hv
  obtain ⟨rfl, hsz, hP, hK, hD0⟩ := hv
  subst hsz
  have hD := hD0.self (sz := s.heap.size)
  have hts := atoms_spec (ws := wG y cc maxL ret) B.pre
  have hown := findClass_of_methodNamed B.named
  rw [lg_entry_eq]
  exact body p e _ s m _ below meth c _ rfl ⟨B.exec, B.bytes, hml, hown, fun w hw => hts w (List.mem_cons_of_mem _ hw)⟩ B.returns B.notSynchronized (fun q h => Or.inr h) ⟨hP, hK, hD, va_S.rf⟩ _ (lv_entry av hlen)
theorem va_D.addr {A : Nat → Prop} {ws ws' : va_W} (h : va_D A ws) (e : ws'.map (·.1) = ws.map (·.1)) : va_D A ws' := by
  have key : ∀ (k : Nat) (q : Nat × va_E), ws'[k]? = some q → ∃ q0, ws[k]? = some q0 ∧ q0.1 = q.1 := by
    intro k q hk
    have h1 : (ws'.map (·.1))[k]? = some q.1 := by rw [List.getElem?_map, hk]; rfl
    rw [e, List.getElem?_map] at h1
    cases h2 : ws[k]? with
    | none => rw [h2] at h1; cases h1
    | some q0 => rw [h2] at h1; exact ⟨q0, rfl, Option.some.inj h1⟩
  refine ⟨fun i j x y hi hj hxy => ?_, fun k q hk => ?_⟩
  · obtain ⟨x0, h1, h2⟩ := key i x hi
    obtain ⟨y0, h3, h4⟩ := key j y hj
    exact h.1 i j x0 y0 h1 h3 (h2.trans (hxy.trans h4.symm))
  · obtain ⟨q0, h1, h2⟩ := key k q hk
    rw [← h2]
    exact h.2 k q0 h1
theorem ct_blind {D : va_G} {wf : Sg → va_W} {ty : List (ClassId × FieldType)} {av : List Value} {sz : Nat} {z : Sg} : FrameBlind (va_Pc av (CPre D wf ty sz z)) := by
  intro a U g mk q
  obtain ⟨q0, q1, qP, qK, qD⟩ := q
  exact ⟨q0, q1, qP, va_K.moved (u := U) (U := U.calling g mk a) (Vm.Alike.refl U.vm) qK, qD⟩
section CTR
variable {p : Program} {l : Launch} {e : Env} {R : Room} {s : State} {m : MethodId} {args : Array Value} {below : List Frame} {meth : Method} {c : Code} {H : Heap} {locs : List Loc} {cells slots : Nat} {Q : State → Prop}
variable {cc : ByteArray} {nL pc : Nat} {ls : Array Slot} {rest st0 : List Value} {D : va_G} {wf : Sg → va_W} {ty : List (ClassId × FieldType)} {A : Nat → Prop} {a : Nat} {z z' : Sg} {own C : String} {idx : Nat} {res : Option Value}
theorem ct_run {av : Array Value} (hr : va_Run p l e R s m args below meth c H locs cells slots 0 0 (F0 m pc ls st0) rest (CQ D wf (va_A (wf z) H.size) res z' av) (va_A (wf z) H.size)) (hA : ∀ q : Nat, s.heap.size ≤ q → A q) (hW : Wd D wf ty A s H locs z) (ha : (wf z').map (·.1) = (wf z).map (·.1))
    (kk : ∀ (H1 : Heap) (locs1 : List Loc), Wd D wf ty A s H1 locs1 z' → W p l e R s m args below meth c H1 locs1 cells slots Q (F0 m (pc + 3) ls (res.toList ++ rest))) : W p l e R s m args below meth c H locs cells slots Q (F0 m pc ls st0) := by
  obtain ⟨hP, hK, hD, hS⟩ := hW
  intro T hT X
  obtain ⟨v, st₀, t, T', L, h0, X', hL, e1, e2, ⟨hv, hb, hz, hk⟩, st⟩ := hr T hT X
  cases hv
  rw [h0] at hz hk
  have hfree : ∀ q, va_A (wf z) H.size q → A q := fun q h => by
    rcases h with ⟨k, e9, h⟩ | h
    · exact hD.2 k (q, e9) h
    · exact hA q (Nat.le_trans hS.1 h)
  have hS1 : va_S A s.heap T'.heap (locs ++ L) := by
    refine ⟨Nat.le_trans hS.1 (by rw [e1]; exact hz), fun q h1 h2 => ?_, fun q hq => ?_⟩
    · rw [e1, hk q (Nat.lt_of_lt_of_le h1 hS.1) (fun y => h2 (hfree q y))]
      exact hS.2.1 q h1 h2
    · rcases List.mem_append.mp hq with h | h
      · exact hS.2.2 q h
      · exact hfree _ (hL q h)
  obtain ⟨t2, a1, b1⟩ := kk T'.heap (locs ++ L) ⟨by rw [e1]; exact hb, hK, hD.addr ha, hS1⟩ T' rfl X'
  exact ⟨t2, st t2 a1, b1⟩
theorem ct_V {y : MethodName} {cy : ByteArray} {ny : Nat} {ry : Option FieldType} {rm : Room} {b : Nat} {As : List Value} {ci n q0 N : Nat} {T : u_T} {fs : List Value} (S : CallFix p m c cc nL s args wsL_law own) (hA : ∀ q : Nat, s.heap.size ≤ q → A q) (hW : Wd D wf ty A s H locs z) (hM : CT D wf ty l y (wG y cy ny ry) rm (.ref b :: As) z res z') (hG : GoodIn wsL_law (wsV own idx C y (wG y cy ny ry))) (hc0 : rm.cells = 0 ∧ rm.slots = 0)
    (hd : y.cls = C ∧ y.cls ≠ "java/lang/invoke/MethodHandle" ∧ y.cls ≠ "java/lang/invoke/VarHandle" ∧ (parseMethodDescriptor y.desc).map (fun d => d.parameters.length) = some n) (hR : rm.frames + 1 ≤ R.frames ∧ 8 + (ny + 11) + rm.locals ≤ R.locals) (hcl : vwCl[ci]? = some (C, T, N)) (he : (wf z)[q0]? = some (b, .inr (ci, fs))) (ha : (wf z').map (·.1) = (wf z).map (·.1)) (hn : As.length = n) (hsize : ls.size = nL) (hst : st0 = As.reverse ++ .ref b :: rest) (hrm : (rest.map fun v => v.category).sum ≤ 8) (hcs : cells ≤ R.cells ∧ slots ≤ R.slots) (hdg : decode cc pc = .ok (.invokevirtual idx, 3))
    (kk : ∀ (H1 : Heap) (locs1 : List Loc), Wd D wf ty A s H1 locs1 z' → W p l e R s m args below meth c H1 locs1 cells slots Q (F0 m (pc + 3) ls (res.toList ++ rest))) : W p l e R s m args below meth c H locs cells slots Q (F0 m pc ls st0) := by
  obtain ⟨hP, hK, hD, hS⟩ := id hW
  exact ct_run (va_runV (As := As) (rest := rest) S (hM H.size) (cwV n S.2.2.2.2 hG rfl hc0.1 hc0.2 hd hR) ⟨ct_blind, va_recv hK hP hcl he, fun U hU hW => ⟨rfl, by rw [hU], by rw [hU]; exact hP, va_K.moved hW.alike hK, hD.weaken (fun _ _ _ _ => trivial)⟩⟩ rfl hn hsize hst (lv_room hrm) hdg hcs) hA hW ha kk
theorem ct_S {y : MethodName} {cy : ByteArray} {ny : Nat} {ry : Option FieldType} {rm : Room} {As : List Value} {n : Nat} (S : CallFix p m c cc nL s args wsL_law own) (hA : ∀ q : Nat, s.heap.size ≤ q → A q) (hW : Wd D wf ty A s H locs z) (hM : CT D wf ty l y (wG y cy ny ry) rm As z res z') (hG : GoodIn wsL_law (wsS own idx y (wG y cy ny ry))) (hc0 : rm.cells = 0 ∧ rm.slots = 0)
    (hd : y.cls = own ∧ y.cls ≠ "java/lang/invoke/MethodHandle" ∧ y.cls ≠ "java/lang/invoke/VarHandle" ∧ (parseMethodDescriptor y.desc).map (fun d => d.parameters.length) = some n) (hR : rm.frames + 1 ≤ R.frames ∧ 8 + (ny + 11) + rm.locals ≤ R.locals) (ha : (wf z').map (·.1) = (wf z).map (·.1)) (hn : As.length = n) (hsize : ls.size = nL) (hst : st0 = As.reverse ++ rest) (hrm : (rest.map fun v => v.category).sum ≤ 8) (hcs : cells ≤ R.cells ∧ slots ≤ R.slots) (hdg : decode cc pc = .ok (.invokestatic idx, 3))
    (kk : ∀ (H1 : Heap) (locs1 : List Loc), Wd D wf ty A s H1 locs1 z' → W p l e R s m args below meth c H1 locs1 cells slots Q (F0 m (pc + 3) ls (res.toList ++ rest))) : W p l e R s m args below meth c H locs cells slots Q (F0 m pc ls st0) := by
  obtain ⟨hP, hK, hD, hS⟩ := id hW
  exact ct_run (va_runS (As := As) (rest := rest) S (hM H.size) (cwS n S.2.2.2.2 hG rfl hc0.1 hc0.2 hd hR) ⟨ct_blind, fun U hU hW => ⟨rfl, by rw [hU], by rw [hU]; exact hP, va_K.moved hW.alike hK, hD.weaken (fun _ _ _ _ => trivial)⟩⟩ rfl hn hsize hst (lv_room hrm) hdg hcs) hA hW ha kk
theorem ct_i {v : Int32} (S : CallFix p m c cc nL s args wsL_law own) (hr : meth.sig.returnType = some .int) (hlocks : meth.locks = false) (hW : Wd D wf ty A s H locs z) (hd : decode cc pc = .ok (.ireturn, 1)) : W p l e R s m args below meth c H locs 0 0 (MQ below (CQ D wf A (some (.int v)) z) args s 0 0 A) (F0 m pc ls [.int v]) := W.iret S.1 S.2.1 hr (fun t ht _ => ⟨rfl, by rw [ht]; exact hW.1, hW.2.2.2.F ht⟩) hW.2.2.2.2.2 hd hlocks
theorem ct_z {v : Int32} (hv : v = 0 ∨ v = 1) (S : CallFix p m c cc nL s args wsL_law own) (hr : meth.sig.returnType = some .boolean) (hlocks : meth.locks = false) (hW : Wd D wf ty A s H locs z) (hd : decode cc pc = .ok (.ireturn, 1)) : W p l e R s m args below meth c H locs 0 0 (MQ below (CQ D wf A (some (.int v)) z) args s 0 0 A) (F0 m pc ls [.int v]) := W.zret S.1 S.2.1 hr (by rcases hv with rfl | rfl <;> rfl) (fun t ht _ => ⟨rfl, by rw [ht]; exact hW.1, hW.2.2.2.F ht⟩) hW.2.2.2.2.2 hd hlocks
theorem ct_l {v : Int64} (S : CallFix p m c cc nL s args wsL_law own) (hr : meth.sig.returnType = some .long) (hlocks : meth.locks = false) (hW : Wd D wf ty A s H locs z) (hd : decode cc pc = .ok (.lreturn, 1)) : W p l e R s m args below meth c H locs 0 0 (MQ below (CQ D wf A (some (.long v)) z) args s 0 0 A) (F0 m pc ls [.long v]) := W.lret S.1 S.2.1 hr (fun t ht _ => ⟨rfl, by rw [ht]; exact hW.1, hW.2.2.2.F ht⟩) hW.2.2.2.2.2 hd hlocks
theorem ct_v (S : CallFix p m c cc nL s args wsL_law own) (hr : meth.sig.returnType = none) (hlocks : meth.locks = false) (hW : Wd D wf ty A s H locs z) (hd : decode cc pc = .ok (.return_, 1)) : W p l e R s m args below meth c H locs 0 0 (MQ below (CQ D wf A none z) args s 0 0 A) (F0 m pc ls []) := W.vret S.1 S.2.1 hr (fun t ht _ => ⟨rfl, by rw [ht]; exact hW.1, hW.2.2.2.F ht⟩) hW.2.2.2.2.2 hd hlocks
theorem wd_get {T : u_T} {N ci : Nat} {fs : List Value} {v : Value} (S : CallFix p m c cc nL s args wsL_law own) (hW : Wd D wf ty A s H locs z) (q0 : Nat) (he : (wf z)[q0]? = some (a, .inr (ci, fs))) (hc : vwCl[ci]? = some (C, T, N)) (hin : ∀ w ∈ u_ws C T N, w ∈ wsL_law) (k : Nat) (hk : k < N) (hlink : Cond.fieldLink own idx (T k).1 (T k).2.1 (T k).2.2.1 ∈ wsL_law) (hv : fs[k]? = some v) (hdg : decode cc pc = .ok (.getfield idx, 3))
    (kk : W p l e R s m args below meth c H locs cells slots Q (F0 m (pc + 3) ls (v :: rest))) : W p l e R s m args below meth c H locs cells slots Q (F0 m pc ls (.ref a :: rest)) := va_get S.1 S.2.1 S.2.2.2.2 hin S.2.2.2.1 hW.2.1 hW.1 q0 he hc k hk (S.2.2.2.2 _ hlink) (fun _ h => h) hv hdg kk
theorem wd_put {T : u_T} {N ci : Nat} {fs : List Value} {v : Value} {vt : FieldType} (S : CallFix p m c cc nL s args wsL_law own) (hW : Wd D wf ty A s H locs z) (q0 : Nat) (he : (wf z)[q0]? = some (a, .inr (ci, fs))) (hc : vwCl[ci]? = some (C, T, N)) (hin : ∀ w ∈ u_ws C T N, w ∈ wsL_law) (ty0 : Nat → FieldType) (hty : ∀ k, k < N → parseFieldDescriptor (T k).2.2.1 = some (ty0 k)) (hnm : ∀ a, a < N → ∀ b, b < N → a ≠ b → (T a).2.1 ≠ (T b).2.1) (k : Nat) (hk : k < N) (hlink : Cond.fieldLink own idx (T k).1 (T k).2.1 (T k).2.2.1 ∈ wsL_law) (hfin : (T k).2.2.2 = false) (hd : parseFieldDescriptor (T k).2.2.1 = some vt) (hn : narrow vt v = v) (hfit : fits vt v = true) (hl : k < fs.length) (hz : (wf z).set q0 (a, .inr (ci, fs.set k v)) = wf z') (hdg : decode cc pc = .ok (.putfield idx, 3))
    (kk : ∀ (H1 : Heap) (locs1 : List Loc), Wd D wf ty A s H1 locs1 z' → W p l e R s m args below meth c H1 locs1 cells slots Q (F0 m (pc + 3) ls rest)) : W p l e R s m args below meth c H locs cells slots Q (F0 m pc ls (v :: .ref a :: rest)) :=
  va_put S.1 S.2.1 S.2.2.2.2 hin ty0 hty hnm S.2.2.2.1 hW.2.1 hW.1 hW.2.2.1 hW.2.2.2 q0 he hc k hk (S.2.2.2.2 _ hlink) (fun _ h => h) hfin hd hn hfit hl hdg (fun H1 locs1 h1 h2 h3 => kk H1 locs1 ⟨hz ▸ h1, hW.2.1, hz ▸ h2, h3⟩)
theorem wd_iald {cA : ClassId} {n : Nat} {f : Nat → Int32} {i : Int32} (S : CallFix p m c cc nL s args wsL_law own) (hW : Wd D wf ty A s H locs z) (q0 t0 : Nat) (ha : (wf z)[q0]? = some (a, .inl (cA, n, .inl f))) (ht : ty[t0]? = some (cA, .int)) (hin : vp_in i n) (hdg : decode cc pc = .ok (.iaload, 1))
    (kk : W p l e R s m args below meth c H locs cells slots Q (F0 m (pc + 1) ls (.int (f i.toNatClampNeg) :: rest))) : W p l e R s m args below meth c H locs cells slots Q (F0 m pc ls (.int i :: .ref a :: rest)) := va_iald S.1 S.2.1 hW.2.1 hW.1 q0 t0 ha ht hin hdg kk
theorem wd_zald {cA : ClassId} {n : Nat} {f : Nat → Int32} {i : Int32} (S : CallFix p m c cc nL s args wsL_law own) (hW : Wd D wf ty A s H locs z) (q0 t0 : Nat) (ha : (wf z)[q0]? = some (a, .inl (cA, n, .inl f))) (ht : ty[t0]? = some (cA, .boolean)) (hin : vp_in i n) (hdg : decode cc pc = .ok (.baload, 1))
    (kk : W p l e R s m args below meth c H locs cells slots Q (F0 m (pc + 1) ls (.int (f i.toNatClampNeg) :: rest))) : W p l e R s m args below meth c H locs cells slots Q (F0 m pc ls (.int i :: .ref a :: rest)) := va_zald S.1 S.2.1 hW.2.1 hW.1 q0 t0 ha ht hin hdg kk
theorem wd_iast {cA : ClassId} {n : Nat} {f : Nat → Int32} {i x : Int32} (S : CallFix p m c cc nL s args wsL_law own) (hW : Wd D wf ty A s H locs z) (q0 t0 : Nat) (ha : (wf z)[q0]? = some (a, .inl (cA, n, .inl f))) (ht : ty[t0]? = some (cA, .int)) (hin : vp_in i n) (hz : (wf z).set q0 (a, .inl (cA, n, .inl (upd f i.toNatClampNeg x))) = wf z') (hdg : decode cc pc = .ok (.iastore, 1))
    (kk : ∀ (H1 : Heap) (locs1 : List Loc), Wd D wf ty A s H1 locs1 z' → W p l e R s m args below meth c H1 locs1 cells slots Q (F0 m (pc + 1) ls rest)) : W p l e R s m args below meth c H locs cells slots Q (F0 m pc ls (.int x :: .int i :: .ref a :: rest)) := va_iast S.1 S.2.1 hW.2.1 hW.1 hW.2.2.1 hW.2.2.2 q0 t0 ha ht hin hdg (fun H1 locs1 h1 h2 h3 => kk H1 locs1 ⟨hz ▸ h1, hW.2.1, hz ▸ h2, h3⟩)
theorem wd_zast {cA : ClassId} {n : Nat} {f : Nat → Int32} {i x : Int32} (S : CallFix p m c cc nL s args wsL_law own) (hW : Wd D wf ty A s H locs z) (q0 t0 : Nat) (ha : (wf z)[q0]? = some (a, .inl (cA, n, .inl f))) (ht : ty[t0]? = some (cA, .boolean)) (hin : vp_in i n) (hz : (wf z).set q0 (a, .inl (cA, n, .inl (upd f i.toNatClampNeg (vp_nar .boolean x)))) = wf z') (hdg : decode cc pc = .ok (.bastore, 1))
    (kk : ∀ (H1 : Heap) (locs1 : List Loc), Wd D wf ty A s H1 locs1 z' → W p l e R s m args below meth c H1 locs1 cells slots Q (F0 m (pc + 1) ls rest)) : W p l e R s m args below meth c H locs cells slots Q (F0 m pc ls (.int x :: .int i :: .ref a :: rest)) := va_zast S.1 S.2.1 hW.2.1 hW.1 hW.2.2.1 hW.2.2.2 q0 t0 ha ht hin hdg (fun H1 locs1 h1 h2 h3 => kk H1 locs1 ⟨hz ▸ h1, hW.2.1, hz ▸ h2, h3⟩)
theorem wd_alen {cA : ClassId} {x : vp_A} {vt : FieldType} {v : Int32} (S : CallFix p m c cc nL s args wsL_law own) (hW : Wd D wf ty A s H locs z) (q0 t0 : Nat) (ha : (wf z)[q0]? = some (a, .inl (cA, x))) (ht : ty[t0]? = some (cA, vt)) (hv : Int32.ofNat x.1 = v) (hdg : decode cc pc = .ok (.arraylength, 1))
    (kk : W p l e R s m args below meth c H locs cells slots Q (F0 m (pc + 1) ls (.int v :: rest))) : W p l e R s m args below meth c H locs cells slots Q (F0 m pc ls (.ref a :: rest)) := va_alen S.1 S.2.1 hW.2.1 hW.1 q0 t0 ha ht hv hdg kk
end CTR
end

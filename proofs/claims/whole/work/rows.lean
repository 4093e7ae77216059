section
-- ===== PART A: goes FIRST, ahead of the names: the tables' words, and 'selects' of the private methods out of them =====
/-- a private method of a class that the tables say can be made, by its rows of tables_1 -/
def lw_okq (q : MethodName × Nat) : Prop := (q.1.cls ≠ "java/lang/invoke/MethodHandle" ∧ q.1.cls ≠ "java/lang/invoke/VarHandle") ∧ Cond.instantiable q.1.cls q.2 ∈ tables_1 ∧ Cond.privateMethod q.1 ∈ tables_1 ∧ Cond.instanceMethod q.1 ∈ tables_1
theorem lw_p0 : lw_okq (⟨"MadeRunners$Checker", "verdictOn", "(LMadeRunners$Block;)I"⟩, 1) := ⟨⟨by decide +kernel, by decide +kernel⟩, List.mem_of_getElem? (i := 57) (by decide +kernel), List.mem_of_getElem? (i := 154) (by decide +kernel), List.mem_of_getElem? (i := 155) (by decide +kernel)⟩
theorem lw_p1 : lw_okq (⟨"MadeRunners$Checker", "verdictOnCodes", "(LMadeRunners$Block;)I"⟩, 1) := ⟨⟨by decide +kernel, by decide +kernel⟩, List.mem_of_getElem? (i := 57) (by decide +kernel), List.mem_of_getElem? (i := 158) (by decide +kernel), List.mem_of_getElem? (i := 159) (by decide +kernel)⟩
theorem lw_p2 : lw_okq (⟨"MadeRunners$Block", "read", "(I)I"⟩, 9) := ⟨⟨by decide +kernel, by decide +kernel⟩, List.mem_of_getElem? (i := 167) (by decide +kernel), List.mem_of_getElem? (i := 165) (by decide +kernel), List.mem_of_getElem? (i := 166) (by decide +kernel)⟩
theorem lw_p3 : lw_okq (⟨"MadeRunners$Block", "hasByte", "(I)Z"⟩, 9) := ⟨⟨by decide +kernel, by decide +kernel⟩, List.mem_of_getElem? (i := 167) (by decide +kernel), List.mem_of_getElem? (i := 170) (by decide +kernel), List.mem_of_getElem? (i := 171) (by decide +kernel)⟩
theorem lw_p4 : lw_okq (⟨"MadeRunners$Checker", "verdictOnEnd", "(LMadeRunners$Block;II)I"⟩, 1) := ⟨⟨by decide +kernel, by decide +kernel⟩, List.mem_of_getElem? (i := 57) (by decide +kernel), List.mem_of_getElem? (i := 189) (by decide +kernel), List.mem_of_getElem? (i := 190) (by decide +kernel)⟩
theorem lw_p5 : lw_okq (⟨"MadeRunners$Checker", "verdictOnBranches", "(LMadeRunners$Block;)I"⟩, 1) := ⟨⟨by decide +kernel, by decide +kernel⟩, List.mem_of_getElem? (i := 57) (by decide +kernel), List.mem_of_getElem? (i := 196) (by decide +kernel), List.mem_of_getElem? (i := 197) (by decide +kernel)⟩
theorem lw_p6 : lw_okq (⟨"MadeRunners$Block", "readTwo", "(I)I"⟩, 9) := ⟨⟨by decide +kernel, by decide +kernel⟩, List.mem_of_getElem? (i := 167) (by decide +kernel), List.mem_of_getElem? (i := 200) (by decide +kernel), List.mem_of_getElem? (i := 201) (by decide +kernel)⟩
theorem lw_p7 : lw_okq (⟨"MadeRunners$Checker", "isGoal", "(I)Z"⟩, 1) := ⟨⟨by decide +kernel, by decide +kernel⟩, List.mem_of_getElem? (i := 57) (by decide +kernel), List.mem_of_getElem? (i := 205) (by decide +kernel), List.mem_of_getElem? (i := 206) (by decide +kernel)⟩
theorem lw_p8 : lw_okq (⟨"MadeRunners$Block", "becomeRows", "()V"⟩, 9) := ⟨⟨by decide +kernel, by decide +kernel⟩, List.mem_of_getElem? (i := 167) (by decide +kernel), List.mem_of_getElem? (i := 209) (by decide +kernel), List.mem_of_getElem? (i := 210) (by decide +kernel)⟩
theorem lw_p9 : lw_okq (⟨"MadeRunners", "oldestGeneration", "()I"⟩, 10) := ⟨⟨by decide +kernel, by decide +kernel⟩, List.mem_of_getElem? (i := 23) (by decide +kernel), List.mem_of_getElem? (i := 217) (by decide +kernel), List.mem_of_getElem? (i := 218) (by decide +kernel)⟩
theorem lw_p10 : lw_okq (⟨"MadeRunners", "blocksThatAre", "(I)I"⟩, 10) := ⟨⟨by decide +kernel, by decide +kernel⟩, List.mem_of_getElem? (i := 23) (by decide +kernel), List.mem_of_getElem? (i := 228) (by decide +kernel), List.mem_of_getElem? (i := 229) (by decide +kernel)⟩
theorem lw_p11 : lw_okq (⟨"java/lang/Throwable", "fillInStackTrace", "(I)Ljava/lang/Throwable;"⟩, 6) := ⟨⟨by decide +kernel, by decide +kernel⟩, List.mem_of_getElem? (i := 282) (by decide +kernel), List.mem_of_getElem? (i := 280) (by decide +kernel), List.mem_of_getElem? (i := 281) (by decide +kernel)⟩
theorem lw_p12 : lw_okq (⟨"java/util/ArrayList", "add", "(Ljava/lang/Object;[Ljava/lang/Object;I)V"⟩, 3) := ⟨⟨by decide +kernel, by decide +kernel⟩, List.mem_of_getElem? (i := 31) (by decide +kernel), List.mem_of_getElem? (i := 357) (by decide +kernel), List.mem_of_getElem? (i := 358) (by decide +kernel)⟩
theorem lw_p13 : lw_okq (⟨"java/util/ArrayList", "grow", "()[Ljava/lang/Object;"⟩, 3) := ⟨⟨by decide +kernel, by decide +kernel⟩, List.mem_of_getElem? (i := 31) (by decide +kernel), List.mem_of_getElem? (i := 361) (by decide +kernel), List.mem_of_getElem? (i := 362) (by decide +kernel)⟩
theorem lw_p14 : lw_okq (⟨"java/util/ArrayList", "grow", "(I)[Ljava/lang/Object;"⟩, 3) := ⟨⟨by decide +kernel, by decide +kernel⟩, List.mem_of_getElem? (i := 31) (by decide +kernel), List.mem_of_getElem? (i := 365) (by decide +kernel), List.mem_of_getElem? (i := 366) (by decide +kernel)⟩
theorem lw_p15 : lw_okq (⟨"MadeRunners", "find", "(I)LMadeRunners$Block;"⟩, 10) := ⟨⟨by decide +kernel, by decide +kernel⟩, List.mem_of_getElem? (i := 23) (by decide +kernel), List.mem_of_getElem? (i := 417) (by decide +kernel), List.mem_of_getElem? (i := 418) (by decide +kernel)⟩
def lw_privs_1 : List (MethodName × Nat) := [(⟨"MadeRunners$Checker", "verdictOn", "(LMadeRunners$Block;)I"⟩, 1), (⟨"MadeRunners$Checker", "verdictOnCodes", "(LMadeRunners$Block;)I"⟩, 1), (⟨"MadeRunners$Block", "read", "(I)I"⟩, 9), (⟨"MadeRunners$Block", "hasByte", "(I)Z"⟩, 9), (⟨"MadeRunners$Checker", "verdictOnEnd", "(LMadeRunners$Block;II)I"⟩, 1), (⟨"MadeRunners$Checker", "verdictOnBranches", "(LMadeRunners$Block;)I"⟩, 1), (⟨"MadeRunners$Block", "readTwo", "(I)I"⟩, 9), (⟨"MadeRunners$Checker", "isGoal", "(I)Z"⟩, 1), (⟨"MadeRunners$Block", "becomeRows", "()V"⟩, 9), (⟨"MadeRunners", "oldestGeneration", "()I"⟩, 10), (⟨"MadeRunners", "blocksThatAre", "(I)I"⟩, 10), (⟨"java/lang/Throwable", "fillInStackTrace", "(I)Ljava/lang/Throwable;"⟩, 6), (⟨"java/util/ArrayList", "add", "(Ljava/lang/Object;[Ljava/lang/Object;I)V"⟩, 3), (⟨"java/util/ArrayList", "grow", "()[Ljava/lang/Object;"⟩, 3), (⟨"java/util/ArrayList", "grow", "(I)[Ljava/lang/Object;"⟩, 3), (⟨"MadeRunners", "find", "(I)LMadeRunners$Block;"⟩, 10)]
theorem lw_r1 : ∀ q ∈ lw_privs_1, lw_okq q := List.forall_mem_cons.mpr ⟨lw_p0, List.forall_mem_cons.mpr ⟨lw_p1, List.forall_mem_cons.mpr ⟨lw_p2, List.forall_mem_cons.mpr ⟨lw_p3, List.forall_mem_cons.mpr ⟨lw_p4, List.forall_mem_cons.mpr ⟨lw_p5, List.forall_mem_cons.mpr ⟨lw_p6, List.forall_mem_cons.mpr ⟨lw_p7, List.forall_mem_cons.mpr ⟨lw_p8, List.forall_mem_cons.mpr ⟨lw_p9, List.forall_mem_cons.mpr ⟨lw_p10, List.forall_mem_cons.mpr ⟨lw_p11, List.forall_mem_cons.mpr ⟨lw_p12, List.forall_mem_cons.mpr ⟨lw_p13, List.forall_mem_cons.mpr ⟨lw_p14, List.forall_mem_cons.mpr ⟨lw_p15, fun _ h => absurd h List.not_mem_nil⟩⟩⟩⟩⟩⟩⟩⟩⟩⟩⟩⟩⟩⟩⟩⟩
theorem lw_p16 : lw_okq (⟨"MadeRunners$Block", "addInstruction", "(III)V"⟩, 9) := ⟨⟨by decide +kernel, by decide +kernel⟩, List.mem_of_getElem? (i := 167) (by decide +kernel), List.mem_of_getElem? (i := 458) (by decide +kernel), List.mem_of_getElem? (i := 459) (by decide +kernel)⟩
theorem lw_p17 : lw_okq (⟨"MadeRunners$Block", "canBeMade", "()Z"⟩, 9) := ⟨⟨by decide +kernel, by decide +kernel⟩, List.mem_of_getElem? (i := 167) (by decide +kernel), List.mem_of_getElem? (i := 476) (by decide +kernel), List.mem_of_getElem? (i := 477) (by decide +kernel)⟩
theorem lw_p18 : lw_okq (⟨"MadeRunners$Block", "startOf", "(I)I"⟩, 9) := ⟨⟨by decide +kernel, by decide +kernel⟩, List.mem_of_getElem? (i := 167) (by decide +kernel), List.mem_of_getElem? (i := 480) (by decide +kernel), List.mem_of_getElem? (i := 481) (by decide +kernel)⟩
theorem lw_p19 : lw_okq (⟨"MadeRunners$Block", "writeBytes", "()V"⟩, 9) := ⟨⟨by decide +kernel, by decide +kernel⟩, List.mem_of_getElem? (i := 167) (by decide +kernel), List.mem_of_getElem? (i := 486) (by decide +kernel), List.mem_of_getElem? (i := 487) (by decide +kernel)⟩
theorem lw_p20 : lw_okq (⟨"MadeRunners$Block", "writeInstruction", "(III)V"⟩, 9) := ⟨⟨by decide +kernel, by decide +kernel⟩, List.mem_of_getElem? (i := 167) (by decide +kernel), List.mem_of_getElem? (i := 490) (by decide +kernel), List.mem_of_getElem? (i := 491) (by decide +kernel)⟩
theorem lw_p21 : lw_okq (⟨"MadeRunners$Block", "writePush", "(I)V"⟩, 9) := ⟨⟨by decide +kernel, by decide +kernel⟩, List.mem_of_getElem? (i := 167) (by decide +kernel), List.mem_of_getElem? (i := 494) (by decide +kernel), List.mem_of_getElem? (i := 495) (by decide +kernel)⟩
theorem lw_p22 : lw_okq (⟨"MadeRunners$Block", "append", "(I)V"⟩, 9) := ⟨⟨by decide +kernel, by decide +kernel⟩, List.mem_of_getElem? (i := 167) (by decide +kernel), List.mem_of_getElem? (i := 498) (by decide +kernel), List.mem_of_getElem? (i := 499) (by decide +kernel)⟩
theorem lw_p23 : lw_okq (⟨"MadeRunners$Block", "writeWithRegister", "(II)V"⟩, 9) := ⟨⟨by decide +kernel, by decide +kernel⟩, List.mem_of_getElem? (i := 167) (by decide +kernel), List.mem_of_getElem? (i := 502) (by decide +kernel), List.mem_of_getElem? (i := 503) (by decide +kernel)⟩
theorem lw_p24 : lw_okq (⟨"MadeRunners$Block", "writeBranch", "(I)V"⟩, 9) := ⟨⟨by decide +kernel, by decide +kernel⟩, List.mem_of_getElem? (i := 167) (by decide +kernel), List.mem_of_getElem? (i := 506) (by decide +kernel), List.mem_of_getElem? (i := 507) (by decide +kernel)⟩
theorem lw_p25 : lw_okq (⟨"MadeRunners$Block", "overwrite", "(II)V"⟩, 9) := ⟨⟨by decide +kernel, by decide +kernel⟩, List.mem_of_getElem? (i := 167) (by decide +kernel), List.mem_of_getElem? (i := 545) (by decide +kernel), List.mem_of_getElem? (i := 546) (by decide +kernel)⟩
theorem lw_p26 : lw_okq (⟨"MadeRunners$Runner", "followBytes", "(LMadeRunners$Block;JJ)V"⟩, 6) := ⟨⟨by decide +kernel, by decide +kernel⟩, List.mem_of_getElem? (i := 68) (by decide +kernel), List.mem_of_getElem? (i := 571) (by decide +kernel), List.mem_of_getElem? (i := 572) (by decide +kernel)⟩
theorem lw_p27 : lw_okq (⟨"MadeRunners$Runner", "begin", "(JJZ)V"⟩, 6) := ⟨⟨by decide +kernel, by decide +kernel⟩, List.mem_of_getElem? (i := 68) (by decide +kernel), List.mem_of_getElem? (i := 575) (by decide +kernel), List.mem_of_getElem? (i := 576) (by decide +kernel)⟩
theorem lw_p28 : lw_okq (⟨"MadeRunners$Runner", "topIsZero", "()Z"⟩, 6) := ⟨⟨by decide +kernel, by decide +kernel⟩, List.mem_of_getElem? (i := 68) (by decide +kernel), List.mem_of_getElem? (i := 584) (by decide +kernel), List.mem_of_getElem? (i := 585) (by decide +kernel)⟩
theorem lw_p29 : lw_okq (⟨"MadeRunners$Runner", "follow", "(LMadeRunners$Block;II)I"⟩, 6) := ⟨⟨by decide +kernel, by decide +kernel⟩, List.mem_of_getElem? (i := 68) (by decide +kernel), List.mem_of_getElem? (i := 588) (by decide +kernel), List.mem_of_getElem? (i := 589) (by decide +kernel)⟩
theorem lw_p30 : lw_okq (⟨"MadeRunners$Runner", "load", "(I)J"⟩, 6) := ⟨⟨by decide +kernel, by decide +kernel⟩, List.mem_of_getElem? (i := 68) (by decide +kernel), List.mem_of_getElem? (i := 592) (by decide +kernel), List.mem_of_getElem? (i := 593) (by decide +kernel)⟩
theorem lw_p31 : lw_okq (⟨"MadeRunners$Runner", "push", "(J)V"⟩, 6) := ⟨⟨by decide +kernel, by decide +kernel⟩, List.mem_of_getElem? (i := 68) (by decide +kernel), List.mem_of_getElem? (i := 597) (by decide +kernel), List.mem_of_getElem? (i := 598) (by decide +kernel)⟩
def lw_privs_2 : List (MethodName × Nat) := [(⟨"MadeRunners$Block", "addInstruction", "(III)V"⟩, 9), (⟨"MadeRunners$Block", "canBeMade", "()Z"⟩, 9), (⟨"MadeRunners$Block", "startOf", "(I)I"⟩, 9), (⟨"MadeRunners$Block", "writeBytes", "()V"⟩, 9), (⟨"MadeRunners$Block", "writeInstruction", "(III)V"⟩, 9), (⟨"MadeRunners$Block", "writePush", "(I)V"⟩, 9), (⟨"MadeRunners$Block", "append", "(I)V"⟩, 9), (⟨"MadeRunners$Block", "writeWithRegister", "(II)V"⟩, 9), (⟨"MadeRunners$Block", "writeBranch", "(I)V"⟩, 9), (⟨"MadeRunners$Block", "overwrite", "(II)V"⟩, 9), (⟨"MadeRunners$Runner", "followBytes", "(LMadeRunners$Block;JJ)V"⟩, 6), (⟨"MadeRunners$Runner", "begin", "(JJZ)V"⟩, 6), (⟨"MadeRunners$Runner", "topIsZero", "()Z"⟩, 6), (⟨"MadeRunners$Runner", "follow", "(LMadeRunners$Block;II)I"⟩, 6), (⟨"MadeRunners$Runner", "load", "(I)J"⟩, 6), (⟨"MadeRunners$Runner", "push", "(J)V"⟩, 6)]
theorem lw_r2 : ∀ q ∈ lw_privs_2, lw_okq q := List.forall_mem_cons.mpr ⟨lw_p16, List.forall_mem_cons.mpr ⟨lw_p17, List.forall_mem_cons.mpr ⟨lw_p18, List.forall_mem_cons.mpr ⟨lw_p19, List.forall_mem_cons.mpr ⟨lw_p20, List.forall_mem_cons.mpr ⟨lw_p21, List.forall_mem_cons.mpr ⟨lw_p22, List.forall_mem_cons.mpr ⟨lw_p23, List.forall_mem_cons.mpr ⟨lw_p24, List.forall_mem_cons.mpr ⟨lw_p25, List.forall_mem_cons.mpr ⟨lw_p26, List.forall_mem_cons.mpr ⟨lw_p27, List.forall_mem_cons.mpr ⟨lw_p28, List.forall_mem_cons.mpr ⟨lw_p29, List.forall_mem_cons.mpr ⟨lw_p30, List.forall_mem_cons.mpr ⟨lw_p31, fun _ h => absurd h List.not_mem_nil⟩⟩⟩⟩⟩⟩⟩⟩⟩⟩⟩⟩⟩⟩⟩⟩
theorem lw_p32 : lw_okq (⟨"MadeRunners$Runner", "pop", "()J"⟩, 6) := ⟨⟨by decide +kernel, by decide +kernel⟩, List.mem_of_getElem? (i := 68) (by decide +kernel), List.mem_of_getElem? (i := 601) (by decide +kernel), List.mem_of_getElem? (i := 602) (by decide +kernel)⟩
theorem lw_p33 : lw_okq (⟨"MadeRunners$Runner", "store", "(IJ)V"⟩, 6) := ⟨⟨by decide +kernel, by decide +kernel⟩, List.mem_of_getElem? (i := 68) (by decide +kernel), List.mem_of_getElem? (i := 605) (by decide +kernel), List.mem_of_getElem? (i := 606) (by decide +kernel)⟩
theorem lw_p34 : lw_okq (⟨"MadeRunners$Block", "readFour", "(I)I"⟩, 9) := ⟨⟨by decide +kernel, by decide +kernel⟩, List.mem_of_getElem? (i := 167) (by decide +kernel), List.mem_of_getElem? (i := 609) (by decide +kernel), List.mem_of_getElem? (i := 610) (by decide +kernel)⟩
theorem lw_p35 : lw_okq (⟨"MadeRunners$Runner", "workOnPile", "(I)V"⟩, 6) := ⟨⟨by decide +kernel, by decide +kernel⟩, List.mem_of_getElem? (i := 68) (by decide +kernel), List.mem_of_getElem? (i := 615) (by decide +kernel), List.mem_of_getElem? (i := 616) (by decide +kernel)⟩
theorem lw_p36 : lw_okq (⟨"MadeRunners$Runner", "followRows", "(LMadeRunners$Block;JJ)V"⟩, 6) := ⟨⟨by decide +kernel, by decide +kernel⟩, List.mem_of_getElem? (i := 68) (by decide +kernel), List.mem_of_getElem? (i := 623) (by decide +kernel), List.mem_of_getElem? (i := 624) (by decide +kernel)⟩
theorem lw_p37 : lw_okq (⟨"MadeRunners$Runner", "resultOf", "(III)J"⟩, 6) := ⟨⟨by decide +kernel, by decide +kernel⟩, List.mem_of_getElem? (i := 68) (by decide +kernel), List.mem_of_getElem? (i := 628) (by decide +kernel), List.mem_of_getElem? (i := 629) (by decide +kernel)⟩
theorem lw_p38 : lw_okq (⟨"MadeRunners$Runner", "didAs", "(LMadeRunners$Runner;)Z"⟩, 6) := ⟨⟨by decide +kernel, by decide +kernel⟩, List.mem_of_getElem? (i := 68) (by decide +kernel), List.mem_of_getElem? (i := 656) (by decide +kernel), List.mem_of_getElem? (i := 657) (by decide +kernel)⟩
theorem lw_p39 : lw_okq (⟨"MadeRunnersModel", "fail", "(I)I"⟩, 26) := ⟨⟨by decide +kernel, by decide +kernel⟩, List.mem_of_getElem? (i := 660) (by decide +kernel), List.mem_of_getElem? (i := 753) (by decide +kernel), List.mem_of_getElem? (i := 754) (by decide +kernel)⟩
theorem lw_p40 : lw_okq (⟨"MadeRunnersModel", "isBlock", "(I)Z"⟩, 26) := ⟨⟨by decide +kernel, by decide +kernel⟩, List.mem_of_getElem? (i := 660) (by decide +kernel), List.mem_of_getElem? (i := 761) (by decide +kernel), List.mem_of_getElem? (i := 762) (by decide +kernel)⟩
theorem lw_p41 : lw_okq (⟨"MadeRunnersModel", "putInstruction", "(II)V"⟩, 26) := ⟨⟨by decide +kernel, by decide +kernel⟩, List.mem_of_getElem? (i := 660) (by decide +kernel), List.mem_of_getElem? (i := 778) (by decide +kernel), List.mem_of_getElem? (i := 779) (by decide +kernel)⟩
theorem lw_p42 : lw_okq (⟨"MadeRunnersModel", "putTwo", "(III)V"⟩, 26) := ⟨⟨by decide +kernel, by decide +kernel⟩, List.mem_of_getElem? (i := 660) (by decide +kernel), List.mem_of_getElem? (i := 782) (by decide +kernel), List.mem_of_getElem? (i := 783) (by decide +kernel)⟩
theorem lw_p43 : lw_okq (⟨"MadeRunnersModel", "put", "(II)V"⟩, 26) := ⟨⟨by decide +kernel, by decide +kernel⟩, List.mem_of_getElem? (i := 660) (by decide +kernel), List.mem_of_getElem? (i := 786) (by decide +kernel), List.mem_of_getElem? (i := 787) (by decide +kernel)⟩
theorem lw_p44 : lw_okq (⟨"MadeRunnersModel", "checkOf", "(I)I"⟩, 26) := ⟨⟨by decide +kernel, by decide +kernel⟩, List.mem_of_getElem? (i := 660) (by decide +kernel), List.mem_of_getElem? (i := 802) (by decide +kernel), List.mem_of_getElem? (i := 803) (by decide +kernel)⟩
theorem lw_p45 : lw_okq (⟨"MadeRunnersModel", "checkCodes", "(I)I"⟩, 26) := ⟨⟨by decide +kernel, by decide +kernel⟩, List.mem_of_getElem? (i := 660) (by decide +kernel), List.mem_of_getElem? (i := 806) (by decide +kernel), List.mem_of_getElem? (i := 807) (by decide +kernel)⟩
theorem lw_p46 : lw_okq (⟨"MadeRunnersModel", "oldest", "()I"⟩, 26) := ⟨⟨by decide +kernel, by decide +kernel⟩, List.mem_of_getElem? (i := 660) (by decide +kernel), List.mem_of_getElem? (i := 834) (by decide +kernel), List.mem_of_getElem? (i := 835) (by decide +kernel)⟩
theorem lw_p47 : lw_okq (⟨"MadeRunnersModel", "begin", "(JJ)V"⟩, 26) := ⟨⟨by decide +kernel, by decide +kernel⟩, List.mem_of_getElem? (i := 660) (by decide +kernel), List.mem_of_getElem? (i := 842) (by decide +kernel), List.mem_of_getElem? (i := 843) (by decide +kernel)⟩
def lw_privs_3 : List (MethodName × Nat) := [(⟨"MadeRunners$Runner", "pop", "()J"⟩, 6), (⟨"MadeRunners$Runner", "store", "(IJ)V"⟩, 6), (⟨"MadeRunners$Block", "readFour", "(I)I"⟩, 9), (⟨"MadeRunners$Runner", "workOnPile", "(I)V"⟩, 6), (⟨"MadeRunners$Runner", "followRows", "(LMadeRunners$Block;JJ)V"⟩, 6), (⟨"MadeRunners$Runner", "resultOf", "(III)J"⟩, 6), (⟨"MadeRunners$Runner", "didAs", "(LMadeRunners$Runner;)Z"⟩, 6), (⟨"MadeRunnersModel", "fail", "(I)I"⟩, 26), (⟨"MadeRunnersModel", "isBlock", "(I)Z"⟩, 26), (⟨"MadeRunnersModel", "putInstruction", "(II)V"⟩, 26), (⟨"MadeRunnersModel", "putTwo", "(III)V"⟩, 26), (⟨"MadeRunnersModel", "put", "(II)V"⟩, 26), (⟨"MadeRunnersModel", "checkOf", "(I)I"⟩, 26), (⟨"MadeRunnersModel", "checkCodes", "(I)I"⟩, 26), (⟨"MadeRunnersModel", "oldest", "()I"⟩, 26), (⟨"MadeRunnersModel", "begin", "(JJ)V"⟩, 26)]
theorem lw_r3 : ∀ q ∈ lw_privs_3, lw_okq q := List.forall_mem_cons.mpr ⟨lw_p32, List.forall_mem_cons.mpr ⟨lw_p33, List.forall_mem_cons.mpr ⟨lw_p34, List.forall_mem_cons.mpr ⟨lw_p35, List.forall_mem_cons.mpr ⟨lw_p36, List.forall_mem_cons.mpr ⟨lw_p37, List.forall_mem_cons.mpr ⟨lw_p38, List.forall_mem_cons.mpr ⟨lw_p39, List.forall_mem_cons.mpr ⟨lw_p40, List.forall_mem_cons.mpr ⟨lw_p41, List.forall_mem_cons.mpr ⟨lw_p42, List.forall_mem_cons.mpr ⟨lw_p43, List.forall_mem_cons.mpr ⟨lw_p44, List.forall_mem_cons.mpr ⟨lw_p45, List.forall_mem_cons.mpr ⟨lw_p46, List.forall_mem_cons.mpr ⟨lw_p47, fun _ h => absurd h List.not_mem_nil⟩⟩⟩⟩⟩⟩⟩⟩⟩⟩⟩⟩⟩⟩⟩⟩
theorem lw_p48 : lw_okq (⟨"MadeRunnersModel", "runBytes", "(I)V"⟩, 26) := ⟨⟨by decide +kernel, by decide +kernel⟩, List.mem_of_getElem? (i := 660) (by decide +kernel), List.mem_of_getElem? (i := 846) (by decide +kernel), List.mem_of_getElem? (i := 847) (by decide +kernel)⟩
theorem lw_p49 : lw_okq (⟨"MadeRunnersModel", "pushed", "(I)I"⟩, 26) := ⟨⟨by decide +kernel, by decide +kernel⟩, List.mem_of_getElem? (i := 660) (by decide +kernel), List.mem_of_getElem? (i := 850) (by decide +kernel), List.mem_of_getElem? (i := 851) (by decide +kernel)⟩
theorem lw_p50 : lw_okq (⟨"MadeRunnersModel", "runRows", "(I)V"⟩, 26) := ⟨⟨by decide +kernel, by decide +kernel⟩, List.mem_of_getElem? (i := 660) (by decide +kernel), List.mem_of_getElem? (i := 857) (by decide +kernel), List.mem_of_getElem? (i := 858) (by decide +kernel)⟩
def lw_privs_4 : List (MethodName × Nat) := [(⟨"MadeRunnersModel", "runBytes", "(I)V"⟩, 26), (⟨"MadeRunnersModel", "pushed", "(I)I"⟩, 26), (⟨"MadeRunnersModel", "runRows", "(I)V"⟩, 26)]
theorem lw_r4 : ∀ q ∈ lw_privs_4, lw_okq q := List.forall_mem_cons.mpr ⟨lw_p48, List.forall_mem_cons.mpr ⟨lw_p49, List.forall_mem_cons.mpr ⟨lw_p50, fun _ h => absurd h List.not_mem_nil⟩⟩⟩
def lw_privs : List (MethodName × Nat) := lw_privs_1 ++ (lw_privs_2 ++ (lw_privs_3 ++ (lw_privs_4)))
def lw_tbl : List Cond := k2_sels lw_privs ++ tables_1
theorem lw_privs_ok : ∀ q ∈ lw_privs, lw_okq q := by
  show ∀ q ∈ lw_privs_1 ++ (lw_privs_2 ++ (lw_privs_3 ++ (lw_privs_4))), lw_okq q
  exact List.forall_mem_append.mpr ⟨lw_r1, List.forall_mem_append.mpr ⟨lw_r2, List.forall_mem_append.mpr ⟨lw_r3, lw_r4⟩⟩⟩
end
section
/-! names, by my own program out of the Statement -/
def R_B : String := "MadeRunners$Block"
def R_K : String := "MadeRunners$Checker"
def R_U : String := "MadeRunners$Runner"
def R_M : String := "MadeRunners"
def R_Z : String := "MadeRunnersModel"
def R_L : String := "MadeRunnersLaw"
def R_A : String := "java/util/ArrayList"
def R_AL : String := "java/util/AbstractList"
def R_AC : String := "java/util/AbstractCollection"
def R_Ar : String := "java/util/Arrays"
def R_Ma : String := "java/lang/Math"
def R_Ob : String := "java/util/Objects"
def R_Pr : String := "jdk/internal/util/Preconditions"
def R_As : String := "jdk/internal/util/ArraysSupport"
def R_Sy : String := "java/lang/System"
def R_O : String := "java/lang/Object"
def T_B : u_T := fun k => match k with
  | 0 => ("MadeRunners$Block", "ops", "[I", true)
  | 1 => ("MadeRunners$Block", "firsts", "[I", true)
  | 2 => ("MadeRunners$Block", "seconds", "[I", true)
  | 3 => ("MadeRunners$Block", "starts", "[I", true)
  | 4 => ("MadeRunners$Block", "bytes", "[I", true)
  | 5 => ("MadeRunners$Block", "instructionCount", "I", false)
  | 6 => ("MadeRunners$Block", "byteCount", "I", false)
  | 7 => ("MadeRunners$Block", "state", "I", false)
  | _ => ("MadeRunners$Block", "generation", "I", false)
def t_B : Nat → FieldType := fun k => match k with
  | 0 => .array .int
  | 1 => .array .int
  | 2 => .array .int
  | 3 => .array .int
  | 4 => .array .int
  | 5 => .int
  | 6 => .int
  | 7 => .int
  | _ => .int
theorem n_B : ∀ a, a < 9 → ∀ b, b < 9 → a ≠ b → (T_B a).2.1 ≠ (T_B b).2.1 := by decide +kernel
theorem t_B_ok : ∀ k, k < 9 → parseFieldDescriptor (T_B k).2.2.1 = some (t_B k) := by decide +kernel
def T_K : u_T := fun k => match k with
  | _ => ("MadeRunners$Checker", "depths", "[I", true)
def t_K : Nat → FieldType := fun k => match k with
  | _ => .array .int
theorem n_K : ∀ a, a < 1 → ∀ b, b < 1 → a ≠ b → (T_K a).2.1 ≠ (T_K b).2.1 := by decide +kernel
theorem t_K_ok : ∀ k, k < 1 → parseFieldDescriptor (T_K k).2.2.1 = some (t_K k) := by decide +kernel
def T_U : u_T := fun k => match k with
  | 0 => ("MadeRunners$Runner", "registers", "[J", true)
  | 1 => ("MadeRunners$Runner", "pile", "[J", true)
  | 2 => ("MadeRunners$Runner", "height", "I", false)
  | 3 => ("MadeRunners$Runner", "steps", "I", false)
  | 4 => ("MadeRunners$Runner", "ending", "I", false)
  | _ => ("MadeRunners$Runner", "byBytes", "Z", false)
def t_U : Nat → FieldType := fun k => match k with
  | 0 => .array .long
  | 1 => .array .long
  | 2 => .int
  | 3 => .int
  | 4 => .int
  | _ => .boolean
theorem n_U : ∀ a, a < 6 → ∀ b, b < 6 → a ≠ b → (T_U a).2.1 ≠ (T_U b).2.1 := by decide +kernel
theorem t_U_ok : ∀ k, k < 6 → parseFieldDescriptor (T_U k).2.2.1 = some (t_U k) := by decide +kernel
def T_M : u_T := fun k => match k with
  | 0 => ("MadeRunners", "generationLimit", "I", true)
  | 1 => ("MadeRunners", "blocks", "Ljava/util/ArrayList;", true)
  | 2 => ("MadeRunners", "checker", "LMadeRunners$Checker;", true)
  | 3 => ("MadeRunners", "latest", "LMadeRunners$Runner;", true)
  | 4 => ("MadeRunners", "rowsTrial", "LMadeRunners$Runner;", true)
  | 5 => ("MadeRunners", "bytesTrial", "LMadeRunners$Runner;", true)
  | 6 => ("MadeRunners", "generation", "I", false)
  | 7 => ("MadeRunners", "wrongAtBorders", "I", false)
  | 8 => ("MadeRunners", "runs", "I", false)
  | _ => ("MadeRunners", "allSteps", "I", false)
def t_M : Nat → FieldType := fun k => match k with
  | 0 => .int
  | 1 => .object "java/util/ArrayList"
  | 2 => .object "MadeRunners$Checker"
  | 3 => .object "MadeRunners$Runner"
  | 4 => .object "MadeRunners$Runner"
  | 5 => .object "MadeRunners$Runner"
  | 6 => .int
  | 7 => .int
  | 8 => .int
  | _ => .int
theorem n_M : ∀ a, a < 10 → ∀ b, b < 10 → a ≠ b → (T_M a).2.1 ≠ (T_M b).2.1 := by decide +kernel
theorem t_M_ok : ∀ k, k < 10 → parseFieldDescriptor (T_M k).2.2.1 = some (t_M k) := by decide +kernel
def T_A : u_T := fun k => match k with
  | 0 => ("java/util/ArrayList", "elementData", "[Ljava/lang/Object;", false)
  | 1 => ("java/util/ArrayList", "size", "I", false)
  | _ => ("java/util/AbstractList", "modCount", "I", false)
def t_A : Nat → FieldType := fun k => match k with
  | 0 => .array (.object "java/lang/Object")
  | 1 => .int
  | _ => .int
theorem n_A : ∀ a, a < 3 → ∀ b, b < 3 → a ≠ b → (T_A a).2.1 ≠ (T_A b).2.1 := by decide +kernel
theorem t_A_ok : ∀ k, k < 3 → parseFieldDescriptor (T_A k).2.2.1 = some (t_A k) := by decide +kernel
def T_Z : u_T := fun k => match k with
  | 0 => ("MadeRunnersModel", "thrown", "I", false)
  | 1 => ("MadeRunnersModel", "lives", "I", true)
  | 2 => ("MadeRunnersModel", "blocks", "I", false)
  | 3 => ("MadeRunnersModel", "now", "I", false)
  | 4 => ("MadeRunnersModel", "wrong", "I", false)
  | 5 => ("MadeRunnersModel", "runs", "I", false)
  | 6 => ("MadeRunnersModel", "allSteps", "I", false)
  | 7 => ("MadeRunnersModel", "many", "[I", true)
  | 8 => ("MadeRunnersModel", "op", "[I", true)
  | 9 => ("MadeRunnersModel", "a", "[I", true)
  | 10 => ("MadeRunnersModel", "b", "[I", true)
  | 11 => ("MadeRunnersModel", "state", "[I", true)
  | 12 => ("MadeRunnersModel", "generation", "[I", true)
  | 13 => ("MadeRunnersModel", "size", "[I", true)
  | 14 => ("MadeRunnersModel", "made", "[I", true)
  | 15 => ("MadeRunnersModel", "stands", "[I", true)
  | 16 => ("MadeRunnersModel", "depthAt", "[I", true)
  | 17 => ("MadeRunnersModel", "\x72", "[J", true)
  | 18 => ("MadeRunnersModel", "pile", "[J", true)
  | 19 => ("MadeRunnersModel", "steps", "I", false)
  | 20 => ("MadeRunnersModel", "ended", "I", false)
  | 21 => ("MadeRunnersModel", "kept", "[J", true)
  | 22 => ("MadeRunnersModel", "other", "[J", true)
  | 23 => ("MadeRunnersModel", "keptEnd", "I", false)
  | 24 => ("MadeRunnersModel", "keptByBytes", "Z", false)
  | _ => ("MadeRunnersModel", "at", "I", false)
def t_Z : Nat → FieldType := fun k => match k with
  | 0 => .int
  | 1 => .int
  | 2 => .int
  | 3 => .int
  | 4 => .int
  | 5 => .int
  | 6 => .int
  | 7 => .array .int
  | 8 => .array .int
  | 9 => .array .int
  | 10 => .array .int
  | 11 => .array .int
  | 12 => .array .int
  | 13 => .array .int
  | 14 => .array .int
  | 15 => .array .int
  | 16 => .array .int
  | 17 => .array .long
  | 18 => .array .long
  | 19 => .int
  | 20 => .int
  | 21 => .array .long
  | 22 => .array .long
  | 23 => .int
  | 24 => .boolean
  | _ => .int
theorem n_Z : ∀ a, a < 26 → ∀ b, b < 26 → a ≠ b → (T_Z a).2.1 ≠ (T_Z b).2.1 := by decide +kernel
theorem t_Z_ok : ∀ k, k < 26 → parseFieldDescriptor (T_Z k).2.2.1 = some (t_Z k) := by decide +kernel
abbrev vwCl : List vw_C := [(R_B, T_B, 9), (R_K, T_K, 1), (R_U, T_U, 6), (R_M, T_M, 10), (R_A, T_A, 3), (R_Z, T_Z, 26)]
abbrev b_M_init : ByteArray := prog_1_method_1_code
def y_M_init : MethodName := ⟨R_M, "<init>", "(I)V"⟩
abbrev b_A_init : ByteArray := prog_22_method_2_code
def y_A_init : MethodName := ⟨R_A, "<init>", "()V"⟩
abbrev b_AL_init : ByteArray := prog_21_method_1_code
def y_AL_init : MethodName := ⟨R_AL, "<init>", "()V"⟩
abbrev b_AC_init : ByteArray := prog_20_method_1_code
def y_AC_init : MethodName := ⟨R_AC, "<init>", "()V"⟩
abbrev b_K_init : ByteArray := prog_3_method_1_code
def y_K_init : MethodName := ⟨R_K, "<init>", "()V"⟩
abbrev b_U_init : ByteArray := prog_4_method_1_code
def y_U_init : MethodName := ⟨R_U, "<init>", "()V"⟩
abbrev b_Ma_floorMod : ByteArray := prog_14_method_50_code
def y_Ma_floorMod : MethodName := ⟨R_Ma, "floorMod", "(II)I"⟩
abbrev b_M_border : ByteArray := prog_1_method_8_code
def y_M_border : MethodName := ⟨R_M, "border", "()I"⟩
abbrev b_A_size : ByteArray := prog_22_method_8_code
def y_A_size : MethodName := ⟨R_A, "size", "()I"⟩
abbrev b_A_get : ByteArray := prog_22_method_20_code
def y_A_get : MethodName := ⟨R_A, "get", "(I)Ljava/lang/Object;"⟩
abbrev b_Ob_checkIndex : ByteArray := prog_26_method_17_code
def y_Ob_checkIndex : MethodName := ⟨R_Ob, "checkIndex", "(II)I"⟩
abbrev b_Pr_checkIndex : ByteArray := prog_30_method_11_code
def y_Pr_checkIndex : MethodName := ⟨R_Pr, "checkIndex", "(IILjava/util/function/BiFunction;)I"⟩
abbrev b_A_elementData : ByteArray := prog_22_method_18_code
def y_A_elementData : MethodName := ⟨R_A, "elementData", "(I)Ljava/lang/Object;"⟩
abbrev b_K_verdictOn : ByteArray := prog_3_method_2_code
def y_K_verdictOn : MethodName := ⟨R_K, "verdictOn", "(LMadeRunners$Block;)I"⟩
abbrev b_K_verdictOnCodes : ByteArray := prog_3_method_3_code
def y_K_verdictOnCodes : MethodName := ⟨R_K, "verdictOnCodes", "(LMadeRunners$Block;)I"⟩
abbrev b_Ar_fill : ByteArray := prog_23_method_103_code
def y_Ar_fill : MethodName := ⟨R_Ar, "fill", "([II)V"⟩
abbrev b_B_read : ByteArray := prog_2_method_13_code
def y_B_read : MethodName := ⟨R_B, "read", "(I)I"⟩
abbrev b_B_hasByte : ByteArray := prog_2_method_12_code
def y_B_hasByte : MethodName := ⟨R_B, "hasByte", "(I)Z"⟩
abbrev b_M_lengthOf : ByteArray := prog_1_method_21_code
def y_M_lengthOf : MethodName := ⟨R_M, "lengthOf", "(I)I"⟩
abbrev b_K_standsWhole : ByteArray := prog_3_method_7_code
def y_K_standsWhole : MethodName := ⟨R_K, "standsWhole", "(LMadeRunners$Block;II)Z"⟩
abbrev b_M_isRegister : ByteArray := prog_1_method_19_code
def y_M_isRegister : MethodName := ⟨R_M, "isRegister", "(I)Z"⟩
abbrev b_K_takenBy : ByteArray := prog_3_method_8_code
def y_K_takenBy : MethodName := ⟨R_K, "takenBy", "(I)I"⟩
abbrev b_K_wrongAt : ByteArray := prog_3_method_10_code
def y_K_wrongAt : MethodName := ⟨R_K, "wrongAt", "(I)I"⟩
abbrev b_K_verdictOnEnd : ByteArray := prog_3_method_4_code
def y_K_verdictOnEnd : MethodName := ⟨R_K, "verdictOnEnd", "(LMadeRunners$Block;II)I"⟩
abbrev b_K_addedBy : ByteArray := prog_3_method_9_code
def y_K_addedBy : MethodName := ⟨R_K, "addedBy", "(I)I"⟩
abbrev b_K_verdictOnBranches : ByteArray := prog_3_method_5_code
def y_K_verdictOnBranches : MethodName := ⟨R_K, "verdictOnBranches", "(LMadeRunners$Block;)I"⟩
abbrev b_B_readTwo : ByteArray := prog_2_method_14_code
def y_B_readTwo : MethodName := ⟨R_B, "readTwo", "(I)I"⟩
abbrev b_K_isGoal : ByteArray := prog_3_method_6_code
def y_K_isGoal : MethodName := ⟨R_K, "isGoal", "(I)Z"⟩
abbrev b_B_becomeRows : ByteArray := prog_2_method_3_code
def y_B_becomeRows : MethodName := ⟨R_B, "becomeRows", "()V"⟩
abbrev b_M_next : ByteArray := prog_1_method_10_code
def y_M_next : MethodName := ⟨R_M, "next", "()I"⟩
abbrev b_M_oldestGeneration : ByteArray := prog_1_method_17_code
def y_M_oldestGeneration : MethodName := ⟨R_M, "oldestGeneration", "()I"⟩
abbrev b_Ma_max : ByteArray := prog_14_method_65_code
def y_Ma_max : MethodName := ⟨R_Ma, "max", "(II)I"⟩
abbrev b_M_count : ByteArray := prog_1_method_15_code
def y_M_count : MethodName := ⟨R_M, "count", "(I)I"⟩
abbrev b_M_blocksThatAre : ByteArray := prog_1_method_18_code
def y_M_blocksThatAre : MethodName := ⟨R_M, "blocksThatAre", "(I)I"⟩
abbrev b_L_cell : ByteArray := method_2_code
def y_L_cell : MethodName := ⟨R_L, "cell", "([II)I"⟩
abbrev b_L_block : ByteArray := method_3_code
def y_L_block : MethodName := ⟨R_L, "block", "(LMadeRunners;[J)I"⟩
abbrev b_M_block : ByteArray := prog_1_method_2_code
def y_M_block : MethodName := ⟨R_M, "block", "()I"⟩
abbrev b_B_init : ByteArray := prog_2_method_1_code
def y_B_init : MethodName := ⟨R_B, "<init>", "()V"⟩
abbrev b_A_add : ByteArray := prog_22_method_25_code
def y_A_add : MethodName := ⟨R_A, "add", "(Ljava/lang/Object;)Z"⟩
abbrev b_A_add2 : ByteArray := prog_22_method_24_code
def y_A_add2 : MethodName := ⟨R_A, "add", "(Ljava/lang/Object;[Ljava/lang/Object;I)V"⟩
abbrev b_A_grow : ByteArray := prog_22_method_7_code
def y_A_grow : MethodName := ⟨R_A, "grow", "()[Ljava/lang/Object;"⟩
abbrev b_A_grow2 : ByteArray := prog_22_method_6_code
def y_A_grow2 : MethodName := ⟨R_A, "grow", "(I)[Ljava/lang/Object;"⟩
abbrev b_As_newLength : ByteArray := prog_29_method_27_code
def y_As_newLength : MethodName := ⟨R_As, "newLength", "(III)I"⟩
abbrev b_As_hugeLength : ByteArray := prog_29_method_28_code
def y_As_hugeLength : MethodName := ⟨R_As, "hugeLength", "(II)I"⟩
abbrev b_Ar_copyOf : ByteArray := prog_23_method_119_code
def y_Ar_copyOf : MethodName := ⟨R_Ar, "copyOf", "([Ljava/lang/Object;I)[Ljava/lang/Object;"⟩
abbrev b_Ar_copyOf2 : ByteArray := prog_23_method_120_code
def y_Ar_copyOf2 : MethodName := ⟨R_Ar, "copyOf", "([Ljava/lang/Object;ILjava/lang/Class;)[Ljava/lang/Object;"⟩
abbrev b_Ma_min : ByteArray := prog_14_method_69_code
def y_Ma_min : MethodName := ⟨R_Ma, "min", "(II)I"⟩
abbrev b_L_instruction : ByteArray := method_4_code
def y_L_instruction : MethodName := ⟨R_L, "instruction", "(LMadeRunners;IIII[J)I"⟩
abbrev b_M_instruction : ByteArray := prog_1_method_3_code
def y_M_instruction : MethodName := ⟨R_M, "instruction", "(IIII)I"⟩
abbrev b_M_find : ByteArray := prog_1_method_16_code
def y_M_find : MethodName := ⟨R_M, "find", "(I)LMadeRunners$Block;"⟩
abbrev b_M_isOperand : ByteArray := prog_1_method_20_code
def y_M_isOperand : MethodName := ⟨R_M, "isOperand", "(II)Z"⟩
abbrev b_B_addInstruction : ByteArray := prog_2_method_2_code
def y_B_addInstruction : MethodName := ⟨R_B, "addInstruction", "(III)V"⟩
abbrev b_B_bytesFor : ByteArray := prog_2_method_17_code
def y_B_bytesFor : MethodName := ⟨R_B, "bytesFor", "(II)I"⟩
abbrev b_B_fitsOneByte : ByteArray := prog_2_method_18_code
def y_B_fitsOneByte : MethodName := ⟨R_B, "fitsOneByte", "(I)Z"⟩
abbrev b_L_make : ByteArray := method_5_code
def y_L_make : MethodName := ⟨R_L, "make", "(LMadeRunners;I[J)I"⟩
abbrev b_M_make : ByteArray := prog_1_method_4_code
def y_M_make : MethodName := ⟨R_M, "make", "(I)I"⟩
abbrev b_B_canBeMade : ByteArray := prog_2_method_4_code
def y_B_canBeMade : MethodName := ⟨R_B, "canBeMade", "()Z"⟩
abbrev b_B_startOf : ByteArray := prog_2_method_11_code
def y_B_startOf : MethodName := ⟨R_B, "startOf", "(I)I"⟩
abbrev b_B_writeBytes : ByteArray := prog_2_method_5_code
def y_B_writeBytes : MethodName := ⟨R_B, "writeBytes", "()V"⟩
abbrev b_B_writeInstruction : ByteArray := prog_2_method_6_code
def y_B_writeInstruction : MethodName := ⟨R_B, "writeInstruction", "(III)V"⟩
abbrev b_B_writePush : ByteArray := prog_2_method_8_code
def y_B_writePush : MethodName := ⟨R_B, "writePush", "(I)V"⟩
abbrev b_B_append : ByteArray := prog_2_method_10_code
def y_B_append : MethodName := ⟨R_B, "append", "(I)V"⟩
abbrev b_B_writeWithRegister : ByteArray := prog_2_method_7_code
def y_B_writeWithRegister : MethodName := ⟨R_B, "writeWithRegister", "(II)V"⟩
abbrev b_B_writeBranch : ByteArray := prog_2_method_9_code
def y_B_writeBranch : MethodName := ⟨R_B, "writeBranch", "(I)V"⟩
abbrev b_L_byteAt : ByteArray := method_6_code
def y_L_byteAt : MethodName := ⟨R_L, "byteAt", "(LMadeRunners;II[J)I"⟩
abbrev b_M_byteAt : ByteArray := prog_1_method_5_code
def y_M_byteAt : MethodName := ⟨R_M, "byteAt", "(II)I"⟩
abbrev b_L_alter : ByteArray := method_7_code
def y_L_alter : MethodName := ⟨R_L, "alter", "(LMadeRunners;III[J)I"⟩
abbrev b_M_alter : ByteArray := prog_1_method_6_code
def y_M_alter : MethodName := ⟨R_M, "alter", "(III)I"⟩
abbrev b_B_overwrite : ByteArray := prog_2_method_16_code
def y_B_overwrite : MethodName := ⟨R_B, "overwrite", "(II)V"⟩
abbrev b_L_check : ByteArray := method_8_code
def y_L_check : MethodName := ⟨R_L, "check", "(LMadeRunners;I[J)I"⟩
abbrev b_M_check : ByteArray := prog_1_method_7_code
def y_M_check : MethodName := ⟨R_M, "check", "(I)I"⟩
abbrev b_L_what : ByteArray := method_9_code
def y_L_what : MethodName := ⟨R_L, "what", "(LMadeRunners;II[J)I"⟩
abbrev b_M_what : ByteArray := prog_1_method_9_code
def y_M_what : MethodName := ⟨R_M, "what", "(II)I"⟩
abbrev b_L_run : ByteArray := method_10_code
def y_L_run : MethodName := ⟨R_L, "run", "(LMadeRunners;IJJ[J)I"⟩
abbrev b_M_run : ByteArray := prog_1_method_11_code
def y_M_run : MethodName := ⟨R_M, "run", "(IJJ)I"⟩
abbrev b_U_followBytes : ByteArray := prog_4_method_5_code
def y_U_followBytes : MethodName := ⟨R_U, "followBytes", "(LMadeRunners$Block;JJ)V"⟩
abbrev b_U_begin : ByteArray := prog_4_method_2_code
def y_U_begin : MethodName := ⟨R_U, "begin", "(JJZ)V"⟩
abbrev b_Ar_fill2 : ByteArray := prog_23_method_101_code
def y_Ar_fill2 : MethodName := ⟨R_Ar, "fill", "([JJ)V"⟩
abbrev b_U_topIsZero : ByteArray := prog_4_method_13_code
def y_U_topIsZero : MethodName := ⟨R_U, "topIsZero", "()Z"⟩
abbrev b_U_follow : ByteArray := prog_4_method_6_code
def y_U_follow : MethodName := ⟨R_U, "follow", "(LMadeRunners$Block;II)I"⟩
abbrev b_U_load : ByteArray := prog_4_method_9_code
def y_U_load : MethodName := ⟨R_U, "load", "(I)J"⟩
abbrev b_U_push : ByteArray := prog_4_method_11_code
def y_U_push : MethodName := ⟨R_U, "push", "(J)V"⟩
abbrev b_U_pop : ByteArray := prog_4_method_12_code
def y_U_pop : MethodName := ⟨R_U, "pop", "()J"⟩
abbrev b_U_store : ByteArray := prog_4_method_10_code
def y_U_store : MethodName := ⟨R_U, "store", "(IJ)V"⟩
abbrev b_B_readFour : ByteArray := prog_2_method_15_code
def y_B_readFour : MethodName := ⟨R_B, "readFour", "(I)I"⟩
abbrev b_U_workOnPile : ByteArray := prog_4_method_7_code
def y_U_workOnPile : MethodName := ⟨R_U, "workOnPile", "(I)V"⟩
abbrev b_U_worked : ByteArray := prog_4_method_14_code
def y_U_worked : MethodName := ⟨R_U, "worked", "(IJJ)J"⟩
abbrev b_U_followRows : ByteArray := prog_4_method_3_code
def y_U_followRows : MethodName := ⟨R_U, "followRows", "(LMadeRunners$Block;JJ)V"⟩
abbrev b_U_resultOf : ByteArray := prog_4_method_4_code
def y_U_resultOf : MethodName := ⟨R_U, "resultOf", "(III)J"⟩
abbrev b_L_register : ByteArray := method_11_code
def y_L_register : MethodName := ⟨R_L, "register", "(LMadeRunners;I[J)I"⟩
abbrev b_M_register : ByteArray := prog_1_method_12_code
def y_M_register : MethodName := ⟨R_M, "register", "(I)J"⟩
abbrev b_L_ended : ByteArray := method_12_code
def y_L_ended : MethodName := ⟨R_L, "ended", "(LMadeRunners;I[J)I"⟩
abbrev b_M_ended : ByteArray := prog_1_method_13_code
def y_M_ended : MethodName := ⟨R_M, "ended", "(I)I"⟩
abbrev b_L_same : ByteArray := method_13_code
def y_L_same : MethodName := ⟨R_L, "same", "(LMadeRunners;IJJ[J)I"⟩
abbrev b_M_same : ByteArray := prog_1_method_14_code
def y_M_same : MethodName := ⟨R_M, "same", "(IJJ)Z"⟩
abbrev b_U_didAs : ByteArray := prog_4_method_8_code
def y_U_didAs : MethodName := ⟨R_U, "didAs", "(LMadeRunners$Runner;)Z"⟩
abbrev b_Z_init : ByteArray := prog_6_method_1_code
def y_Z_init : MethodName := ⟨R_Z, "<init>", "(I)V"⟩
abbrev b_Z_thrown : ByteArray := prog_6_method_2_code
def y_Z_thrown : MethodName := ⟨R_Z, "thrown", "()I"⟩
abbrev b_Z_block : ByteArray := prog_6_method_6_code
def y_Z_block : MethodName := ⟨R_Z, "block", "()I"⟩
abbrev b_Z_fail : ByteArray := prog_6_method_3_code
def y_Z_fail : MethodName := ⟨R_Z, "fail", "(I)I"⟩
abbrev b_Z_instruction : ByteArray := prog_6_method_8_code
def y_Z_instruction : MethodName := ⟨R_Z, "instruction", "(IIII)I"⟩
abbrev b_Z_isBlock : ByteArray := prog_6_method_5_code
def y_Z_isBlock : MethodName := ⟨R_Z, "isBlock", "(I)Z"⟩
abbrev b_Z_within : ByteArray := prog_6_method_4_code
def y_Z_within : MethodName := ⟨R_Z, "within", "(III)Z"⟩
abbrev b_Z_isInstruction : ByteArray := prog_6_method_7_code
def y_Z_isInstruction : MethodName := ⟨R_Z, "isInstruction", "(III)Z"⟩
abbrev b_Z_make : ByteArray := prog_6_method_13_code
def y_Z_make : MethodName := ⟨R_Z, "make", "(I)I"⟩
abbrev b_Z_bytesOf : ByteArray := prog_6_method_9_code
def y_Z_bytesOf : MethodName := ⟨R_Z, "bytesOf", "(II)I"⟩
abbrev b_Z_putInstruction : ByteArray := prog_6_method_12_code
def y_Z_putInstruction : MethodName := ⟨R_Z, "putInstruction", "(II)V"⟩
abbrev b_Z_putTwo : ByteArray := prog_6_method_11_code
def y_Z_putTwo : MethodName := ⟨R_Z, "putTwo", "(III)V"⟩
abbrev b_Z_put : ByteArray := prog_6_method_10_code
def y_Z_put : MethodName := ⟨R_Z, "put", "(II)V"⟩
abbrev b_Z_byteAt : ByteArray := prog_6_method_14_code
def y_Z_byteAt : MethodName := ⟨R_Z, "byteAt", "(II)I"⟩
abbrev b_Z_alter : ByteArray := prog_6_method_15_code
def y_Z_alter : MethodName := ⟨R_Z, "alter", "(III)I"⟩
abbrev b_Z_check : ByteArray := prog_6_method_22_code
def y_Z_check : MethodName := ⟨R_Z, "check", "(I)I"⟩
abbrev b_Z_checkOf : ByteArray := prog_6_method_21_code
def y_Z_checkOf : MethodName := ⟨R_Z, "checkOf", "(I)I"⟩
abbrev b_Z_checkCodes : ByteArray := prog_6_method_20_code
def y_Z_checkCodes : MethodName := ⟨R_Z, "checkCodes", "(I)I"⟩
abbrev b_Z_isCode : ByteArray := prog_6_method_16_code
def y_Z_isCode : MethodName := ⟨R_Z, "isCode", "(I)Z"⟩
abbrev b_Z_lengthOf : ByteArray := prog_6_method_17_code
def y_Z_lengthOf : MethodName := ⟨R_Z, "lengthOf", "(I)I"⟩
abbrev b_Z_takes : ByteArray := prog_6_method_18_code
def y_Z_takes : MethodName := ⟨R_Z, "takes", "(I)I"⟩
abbrev b_Z_puts : ByteArray := prog_6_method_19_code
def y_Z_puts : MethodName := ⟨R_Z, "puts", "(I)I"⟩
abbrev b_Z_border : ByteArray := prog_6_method_23_code
def y_Z_border : MethodName := ⟨R_Z, "border", "()I"⟩
abbrev b_Z_what : ByteArray := prog_6_method_24_code
def y_Z_what : MethodName := ⟨R_Z, "what", "(II)I"⟩
abbrev b_Z_next : ByteArray := prog_6_method_26_code
def y_Z_next : MethodName := ⟨R_Z, "next", "()I"⟩
abbrev b_Z_oldest : ByteArray := prog_6_method_25_code
def y_Z_oldest : MethodName := ⟨R_Z, "oldest", "()I"⟩
abbrev b_Z_run : ByteArray := prog_6_method_32_code
def y_Z_run : MethodName := ⟨R_Z, "run", "(IJJ)I"⟩
abbrev b_Z_begin : ByteArray := prog_6_method_27_code
def y_Z_begin : MethodName := ⟨R_Z, "begin", "(JJ)V"⟩
abbrev b_Z_runBytes : ByteArray := prog_6_method_31_code
def y_Z_runBytes : MethodName := ⟨R_Z, "runBytes", "(I)V"⟩
abbrev b_Z_pushed : ByteArray := prog_6_method_30_code
def y_Z_pushed : MethodName := ⟨R_Z, "pushed", "(I)I"⟩
abbrev b_Z_result : ByteArray := prog_6_method_28_code
def y_Z_result : MethodName := ⟨R_Z, "result", "(IJJ)J"⟩
abbrev b_Z_runRows : ByteArray := prog_6_method_29_code
def y_Z_runRows : MethodName := ⟨R_Z, "runRows", "(I)V"⟩
abbrev b_Z_register : ByteArray := prog_6_method_33_code
def y_Z_register : MethodName := ⟨R_Z, "register", "(I)J"⟩
abbrev b_Z_ended : ByteArray := prog_6_method_34_code
def y_Z_ended : MethodName := ⟨R_Z, "ended", "(I)I"⟩
abbrev b_Z_same : ByteArray := prog_6_method_35_code
def y_Z_same : MethodName := ⟨R_Z, "same", "(IJJ)Z"⟩
abbrev b_Z_count : ByteArray := prog_6_method_36_code
def y_Z_count : MethodName := ⟨R_Z, "count", "(I)I"⟩
abbrev c_L_law : ByteArray := code
abbrev y_L_law : MethodName := x
def BIG : List Cond := lw_tbl.filter goodWord
theorem bm {w : Cond} (i : Nat) (h : lw_tbl[i]? = some w) (g : goodWord w = true) : w ∈ BIG := List.mem_filter.mpr ⟨List.mem_of_getElem? h, g⟩
def nw_ok (w : Cond) : Bool := match w with
  | .fieldLinkNest .. => true
  | .methodLinkNest .. => true
  | .castable .. => true
  | .declares .. => true
  | _ => false
def nw_l : List Cond := lw_tbl.filter nw_ok
theorem nm9 {w : Cond} (i : Nat) (h : lw_tbl[i]? = some w) (g : nw_ok w = true) : w ∈ nw_l := List.mem_filter.mpr ⟨List.mem_of_getElem? h, g⟩
theorem k_sel_K_verdictOn : .selects R_K y_K_verdictOn y_K_verdictOn ∈ BIG := bm 0 (by decide +kernel) (by decide +kernel)
theorem k_sel_K_verdictOnCodes : .selects R_K y_K_verdictOnCodes y_K_verdictOnCodes ∈ BIG := bm 1 (by decide +kernel) (by decide +kernel)
theorem k_sel_B_read : .selects R_B y_B_read y_B_read ∈ BIG := bm 2 (by decide +kernel) (by decide +kernel)
theorem k_sel_B_hasByte : .selects R_B y_B_hasByte y_B_hasByte ∈ BIG := bm 3 (by decide +kernel) (by decide +kernel)
theorem k_sel_K_verdictOnEnd : .selects R_K y_K_verdictOnEnd y_K_verdictOnEnd ∈ BIG := bm 4 (by decide +kernel) (by decide +kernel)
theorem k_sel_K_verdictOnBranches : .selects R_K y_K_verdictOnBranches y_K_verdictOnBranches ∈ BIG := bm 5 (by decide +kernel) (by decide +kernel)
theorem k_sel_B_readTwo : .selects R_B y_B_readTwo y_B_readTwo ∈ BIG := bm 6 (by decide +kernel) (by decide +kernel)
theorem k_sel_K_isGoal : .selects R_K y_K_isGoal y_K_isGoal ∈ BIG := bm 7 (by decide +kernel) (by decide +kernel)
theorem k_sel_B_becomeRows : .selects R_B y_B_becomeRows y_B_becomeRows ∈ BIG := bm 8 (by decide +kernel) (by decide +kernel)
theorem k_sel_M_oldestGeneration : .selects R_M y_M_oldestGeneration y_M_oldestGeneration ∈ BIG := bm 9 (by decide +kernel) (by decide +kernel)
theorem k_sel_M_blocksThatAre : .selects R_M y_M_blocksThatAre y_M_blocksThatAre ∈ BIG := bm 10 (by decide +kernel) (by decide +kernel)
theorem k_sel_A_add2 : .selects R_A y_A_add2 y_A_add2 ∈ BIG := bm 12 (by decide +kernel) (by decide +kernel)
theorem k_sel_A_grow : .selects R_A y_A_grow y_A_grow ∈ BIG := bm 13 (by decide +kernel) (by decide +kernel)
theorem k_sel_A_grow2 : .selects R_A y_A_grow2 y_A_grow2 ∈ BIG := bm 14 (by decide +kernel) (by decide +kernel)
theorem k_sel_M_find : .selects R_M y_M_find y_M_find ∈ BIG := bm 15 (by decide +kernel) (by decide +kernel)
theorem k_sel_B_addInstruction : .selects R_B y_B_addInstruction y_B_addInstruction ∈ BIG := bm 16 (by decide +kernel) (by decide +kernel)
theorem k_sel_B_canBeMade : .selects R_B y_B_canBeMade y_B_canBeMade ∈ BIG := bm 17 (by decide +kernel) (by decide +kernel)
theorem k_sel_B_startOf : .selects R_B y_B_startOf y_B_startOf ∈ BIG := bm 18 (by decide +kernel) (by decide +kernel)
theorem k_sel_B_writeBytes : .selects R_B y_B_writeBytes y_B_writeBytes ∈ BIG := bm 19 (by decide +kernel) (by decide +kernel)
theorem k_sel_B_writeInstruction : .selects R_B y_B_writeInstruction y_B_writeInstruction ∈ BIG := bm 20 (by decide +kernel) (by decide +kernel)
theorem k_sel_B_writePush : .selects R_B y_B_writePush y_B_writePush ∈ BIG := bm 21 (by decide +kernel) (by decide +kernel)
theorem k_sel_B_append : .selects R_B y_B_append y_B_append ∈ BIG := bm 22 (by decide +kernel) (by decide +kernel)
theorem k_sel_B_writeWithRegister : .selects R_B y_B_writeWithRegister y_B_writeWithRegister ∈ BIG := bm 23 (by decide +kernel) (by decide +kernel)
theorem k_sel_B_writeBranch : .selects R_B y_B_writeBranch y_B_writeBranch ∈ BIG := bm 24 (by decide +kernel) (by decide +kernel)
theorem k_sel_B_overwrite : .selects R_B y_B_overwrite y_B_overwrite ∈ BIG := bm 25 (by decide +kernel) (by decide +kernel)
theorem k_sel_U_followBytes : .selects R_U y_U_followBytes y_U_followBytes ∈ BIG := bm 26 (by decide +kernel) (by decide +kernel)
theorem k_sel_U_begin : .selects R_U y_U_begin y_U_begin ∈ BIG := bm 27 (by decide +kernel) (by decide +kernel)
theorem k_sel_U_topIsZero : .selects R_U y_U_topIsZero y_U_topIsZero ∈ BIG := bm 28 (by decide +kernel) (by decide +kernel)
theorem k_sel_U_follow : .selects R_U y_U_follow y_U_follow ∈ BIG := bm 29 (by decide +kernel) (by decide +kernel)
theorem k_sel_U_load : .selects R_U y_U_load y_U_load ∈ BIG := bm 30 (by decide +kernel) (by decide +kernel)
theorem k_sel_U_push : .selects R_U y_U_push y_U_push ∈ BIG := bm 31 (by decide +kernel) (by decide +kernel)
theorem k_sel_U_pop : .selects R_U y_U_pop y_U_pop ∈ BIG := bm 32 (by decide +kernel) (by decide +kernel)
theorem k_sel_U_store : .selects R_U y_U_store y_U_store ∈ BIG := bm 33 (by decide +kernel) (by decide +kernel)
theorem k_sel_B_readFour : .selects R_B y_B_readFour y_B_readFour ∈ BIG := bm 34 (by decide +kernel) (by decide +kernel)
theorem k_sel_U_workOnPile : .selects R_U y_U_workOnPile y_U_workOnPile ∈ BIG := bm 35 (by decide +kernel) (by decide +kernel)
theorem k_sel_U_followRows : .selects R_U y_U_followRows y_U_followRows ∈ BIG := bm 36 (by decide +kernel) (by decide +kernel)
theorem k_sel_U_resultOf : .selects R_U y_U_resultOf y_U_resultOf ∈ BIG := bm 37 (by decide +kernel) (by decide +kernel)
theorem k_sel_U_didAs : .selects R_U y_U_didAs y_U_didAs ∈ BIG := bm 38 (by decide +kernel) (by decide +kernel)
theorem k_sel_Z_fail : .selects R_Z y_Z_fail y_Z_fail ∈ BIG := bm 39 (by decide +kernel) (by decide +kernel)
theorem k_sel_Z_isBlock : .selects R_Z y_Z_isBlock y_Z_isBlock ∈ BIG := bm 40 (by decide +kernel) (by decide +kernel)
theorem k_sel_Z_putInstruction : .selects R_Z y_Z_putInstruction y_Z_putInstruction ∈ BIG := bm 41 (by decide +kernel) (by decide +kernel)
theorem k_sel_Z_putTwo : .selects R_Z y_Z_putTwo y_Z_putTwo ∈ BIG := bm 42 (by decide +kernel) (by decide +kernel)
theorem k_sel_Z_put : .selects R_Z y_Z_put y_Z_put ∈ BIG := bm 43 (by decide +kernel) (by decide +kernel)
theorem k_sel_Z_checkOf : .selects R_Z y_Z_checkOf y_Z_checkOf ∈ BIG := bm 44 (by decide +kernel) (by decide +kernel)
theorem k_sel_Z_checkCodes : .selects R_Z y_Z_checkCodes y_Z_checkCodes ∈ BIG := bm 45 (by decide +kernel) (by decide +kernel)
theorem k_sel_Z_oldest : .selects R_Z y_Z_oldest y_Z_oldest ∈ BIG := bm 46 (by decide +kernel) (by decide +kernel)
theorem k_sel_Z_begin : .selects R_Z y_Z_begin y_Z_begin ∈ BIG := bm 47 (by decide +kernel) (by decide +kernel)
theorem k_sel_Z_runBytes : .selects R_Z y_Z_runBytes y_Z_runBytes ∈ BIG := bm 48 (by decide +kernel) (by decide +kernel)
theorem k_sel_Z_pushed : .selects R_Z y_Z_pushed y_Z_pushed ∈ BIG := bm 49 (by decide +kernel) (by decide +kernel)
theorem k_sel_Z_runRows : .selects R_Z y_Z_runRows y_Z_runRows ∈ BIG := bm 50 (by decide +kernel) (by decide +kernel)
theorem k_ini_L : .initialized R_L ∈ BIG := bm 51 (by decide +kernel) (by decide +kernel)
theorem k_ini_M : .initialized R_M ∈ BIG := bm 52 (by decide +kernel) (by decide +kernel)
theorem k_ini_AC : .initialized R_AC ∈ BIG := bm 53 (by decide +kernel) (by decide +kernel)
theorem k_ini_AL : .initialized R_AL ∈ BIG := bm 54 (by decide +kernel) (by decide +kernel)
theorem k_ini_A : .initialized R_A ∈ BIG := bm 55 (by decide +kernel) (by decide +kernel)
theorem k_ini_K : .initialized R_K ∈ BIG := bm 56 (by decide +kernel) (by decide +kernel)
theorem k_ini_U : .initialized R_U ∈ BIG := bm 57 (by decide +kernel) (by decide +kernel)
theorem k_ini_Ma : .initialized R_Ma ∈ BIG := bm 58 (by decide +kernel) (by decide +kernel)
theorem k_ini_Z : .initialized R_Z ∈ BIG := bm 59 (by decide +kernel) (by decide +kernel)
theorem k_ini_B : .initialized R_B ∈ BIG := bm 64 (by decide +kernel) (by decide +kernel)
theorem k_ini_As : .initialized R_As ∈ BIG := bm 65 (by decide +kernel) (by decide +kernel)
theorem k_ini_Ar : .initialized R_Ar ∈ BIG := bm 66 (by decide +kernel) (by decide +kernel)
theorem k_ini_Sy : .initialized R_Sy ∈ BIG := bm 67 (by decide +kernel) (by decide +kernel)
theorem k_ini_Ob : .initialized R_Ob ∈ BIG := bm 69 (by decide +kernel) (by decide +kernel)
theorem k_ini_Pr : .initialized R_Pr ∈ BIG := bm 70 (by decide +kernel) (by decide +kernel)
theorem k_cl_L_8 : .classLink R_L 8 R_M ∈ BIG := bm 73 (by decide +kernel) (by decide +kernel)
theorem k_ins_M : .instantiable R_M 10 ∈ BIG := bm 74 (by decide +kernel) (by decide +kernel)
theorem k_ml_L_64 : .methodLink R_L 64 y_M_init ∈ BIG := bm 75 (by decide +kernel) (by decide +kernel)
theorem k_im_M_init : .instanceMethod y_M_init ∈ BIG := bm 76 (by decide +kernel) (by decide +kernel)
theorem k_co_M_init : .code y_M_init b_M_init 2 none ∈ BIG := bm 77 (by decide +kernel) (by decide +kernel)
theorem k_cl_M_9 : .classLink R_M 9 R_A ∈ BIG := bm 81 (by decide +kernel) (by decide +kernel)
theorem k_ins_A : .instantiable R_A 3 ∈ BIG := bm 82 (by decide +kernel) (by decide +kernel)
theorem k_ml_M_11 : .methodLink R_M 11 y_A_init ∈ BIG := bm 83 (by decide +kernel) (by decide +kernel)
theorem k_im_A_init : .instanceMethod y_A_init ∈ BIG := bm 84 (by decide +kernel) (by decide +kernel)
theorem k_co_A_init : .code y_A_init b_A_init 1 none ∈ BIG := bm 85 (by decide +kernel) (by decide +kernel)
theorem k_ml_A_1 : .methodLink R_A 1 y_AL_init ∈ BIG := bm 86 (by decide +kernel) (by decide +kernel)
theorem k_im_AL_init : .instanceMethod y_AL_init ∈ BIG := bm 87 (by decide +kernel) (by decide +kernel)
theorem k_co_AL_init : .code y_AL_init b_AL_init 1 none ∈ BIG := bm 88 (by decide +kernel) (by decide +kernel)
theorem k_ml_AL_1 : .methodLink R_AL 1 y_AC_init ∈ BIG := bm 89 (by decide +kernel) (by decide +kernel)
theorem k_im_AC_init : .instanceMethod y_AC_init ∈ BIG := bm 90 (by decide +kernel) (by decide +kernel)
theorem k_co_AC_init : .code y_AC_init b_AC_init 1 none ∈ BIG := bm 91 (by decide +kernel) (by decide +kernel)
theorem k_fl_A_39 : .fieldLink R_A 39 "java/util/ArrayList" "DEFAULTCAPACITY_EMPTY_ELEMENTDATA" "[Ljava/lang/Object;" ∈ BIG := bm 93 (by decide +kernel) (by decide +kernel)
theorem k_fl_A_9 : .fieldLink R_A 9 "java/util/ArrayList" "elementData" "[Ljava/lang/Object;" ∈ BIG := bm 95 (by decide +kernel) (by decide +kernel)
theorem k_fl_A_48 : .fieldLink R_A 48 "java/util/ArrayList" "size" "I" ∈ BIG := bm 96 (by decide +kernel) (by decide +kernel)
theorem k_fl_AL_7 : .fieldLink R_AL 7 "java/util/AbstractList" "modCount" "I" ∈ BIG := bm 97 (by decide +kernel) (by decide +kernel)
theorem k_fl_A_63 : .fieldLink R_A 63 "java/util/ArrayList" "modCount" "I" ∈ BIG := bm 98 (by decide +kernel) (by decide +kernel)
theorem k_cl_M_16 : .classLink R_M 16 R_K ∈ BIG := bm 107 (by decide +kernel) (by decide +kernel)
theorem k_ins_K : .instantiable R_K 1 ∈ BIG := bm 108 (by decide +kernel) (by decide +kernel)
theorem n_ml_M_18 : .methodLinkNest R_M 18 y_K_init "MadeRunners" ∈ nw_l := nm9 109 (by decide +kernel) (by decide +kernel)
theorem k_im_K_init : .instanceMethod y_K_init ∈ BIG := bm 110 (by decide +kernel) (by decide +kernel)
theorem k_co_K_init : .code y_K_init b_K_init 1 none ∈ BIG := bm 111 (by decide +kernel) (by decide +kernel)
theorem k_fl_K_9 : .fieldLink R_K 9 "MadeRunners$Checker" "depths" "[I" ∈ BIG := bm 113 (by decide +kernel) (by decide +kernel)
theorem k_ac_int : .arrayClass .int ∈ BIG := bm 117 (by decide +kernel) (by decide +kernel)
theorem k_cl_M_23 : .classLink R_M 23 R_U ∈ BIG := bm 118 (by decide +kernel) (by decide +kernel)
theorem k_ins_U : .instantiable R_U 6 ∈ BIG := bm 119 (by decide +kernel) (by decide +kernel)
theorem n_ml_M_25 : .methodLinkNest R_M 25 y_U_init "MadeRunners" ∈ nw_l := nm9 120 (by decide +kernel) (by decide +kernel)
theorem k_im_U_init : .instanceMethod y_U_init ∈ BIG := bm 121 (by decide +kernel) (by decide +kernel)
theorem k_co_U_init : .code y_U_init b_U_init 1 none ∈ BIG := bm 122 (by decide +kernel) (by decide +kernel)
theorem k_fl_U_9 : .fieldLink R_U 9 "MadeRunners$Runner" "registers" "[J" ∈ BIG := bm 124 (by decide +kernel) (by decide +kernel)
theorem k_fl_U_15 : .fieldLink R_U 15 "MadeRunners$Runner" "pile" "[J" ∈ BIG := bm 125 (by decide +kernel) (by decide +kernel)
theorem k_fl_U_28 : .fieldLink R_U 28 "MadeRunners$Runner" "height" "I" ∈ BIG := bm 126 (by decide +kernel) (by decide +kernel)
theorem k_fl_U_31 : .fieldLink R_U 31 "MadeRunners$Runner" "steps" "I" ∈ BIG := bm 127 (by decide +kernel) (by decide +kernel)
theorem n_fl_M_159 : .fieldLinkNest R_M 159 "MadeRunners$Runner" "steps" "I" "MadeRunners" ∈ nw_l := nm9 128 (by decide +kernel) (by decide +kernel)
theorem k_fl_U_18 : .fieldLink R_U 18 "MadeRunners$Runner" "ending" "I" ∈ BIG := bm 129 (by decide +kernel) (by decide +kernel)
theorem n_fl_M_171 : .fieldLinkNest R_M 171 "MadeRunners$Runner" "ending" "I" "MadeRunners" ∈ nw_l := nm9 130 (by decide +kernel) (by decide +kernel)
theorem k_fl_U_34 : .fieldLink R_U 34 "MadeRunners$Runner" "byBytes" "Z" ∈ BIG := bm 131 (by decide +kernel) (by decide +kernel)
theorem n_fl_M_174 : .fieldLinkNest R_M 174 "MadeRunners$Runner" "byBytes" "Z" "MadeRunners" ∈ nw_l := nm9 132 (by decide +kernel) (by decide +kernel)
theorem k_ac_long : .arrayClass .long ∈ BIG := bm 146 (by decide +kernel) (by decide +kernel)
theorem k_ml_M_36 : .methodLink R_M 36 y_Ma_floorMod ∈ BIG := bm 147 (by decide +kernel) (by decide +kernel)
theorem k_st_Ma_floorMod : .static y_Ma_floorMod ∈ BIG := bm 148 (by decide +kernel) (by decide +kernel)
theorem k_co_Ma_floorMod : .code y_Ma_floorMod b_Ma_floorMod 3 (some .int) ∈ BIG := bm 149 (by decide +kernel) (by decide +kernel)
theorem k_fl_M_42 : .fieldLink R_M 42 "MadeRunners" "generationLimit" "I" ∈ BIG := bm 150 (by decide +kernel) (by decide +kernel)
theorem k_fl_M_12 : .fieldLink R_M 12 "MadeRunners" "blocks" "Ljava/util/ArrayList;" ∈ BIG := bm 151 (by decide +kernel) (by decide +kernel)
theorem k_fl_M_19 : .fieldLink R_M 19 "MadeRunners" "checker" "LMadeRunners$Checker;" ∈ BIG := bm 152 (by decide +kernel) (by decide +kernel)
theorem k_fl_M_26 : .fieldLink R_M 26 "MadeRunners" "latest" "LMadeRunners$Runner;" ∈ BIG := bm 153 (by decide +kernel) (by decide +kernel)
theorem k_fl_M_30 : .fieldLink R_M 30 "MadeRunners" "rowsTrial" "LMadeRunners$Runner;" ∈ BIG := bm 154 (by decide +kernel) (by decide +kernel)
theorem k_fl_M_33 : .fieldLink R_M 33 "MadeRunners" "bytesTrial" "LMadeRunners$Runner;" ∈ BIG := bm 155 (by decide +kernel) (by decide +kernel)
theorem k_fl_M_103 : .fieldLink R_M 103 "MadeRunners" "generation" "I" ∈ BIG := bm 156 (by decide +kernel) (by decide +kernel)
theorem k_fl_M_138 : .fieldLink R_M 138 "MadeRunners" "wrongAtBorders" "I" ∈ BIG := bm 157 (by decide +kernel) (by decide +kernel)
theorem k_fl_M_153 : .fieldLink R_M 153 "MadeRunners" "runs" "I" ∈ BIG := bm 158 (by decide +kernel) (by decide +kernel)
theorem k_fl_M_156 : .fieldLink R_M 156 "MadeRunners" "allSteps" "I" ∈ BIG := bm 159 (by decide +kernel) (by decide +kernel)
theorem k_ml_L_96 : .methodLink R_L 96 y_M_border ∈ BIG := bm 181 (by decide +kernel) (by decide +kernel)
theorem k_im_M_border : .instanceMethod y_M_border ∈ BIG := bm 182 (by decide +kernel) (by decide +kernel)
theorem k_sel_M_border : .selects R_M y_M_border y_M_border ∈ BIG := bm 183 (by decide +kernel) (by decide +kernel)
theorem k_co_M_border : .code y_M_border b_M_border 4 (some .int) ∈ BIG := bm 184 (by decide +kernel) (by decide +kernel)
theorem k_ml_M_46 : .methodLink R_M 46 y_A_size ∈ BIG := bm 185 (by decide +kernel) (by decide +kernel)
theorem k_im_A_size : .instanceMethod y_A_size ∈ BIG := bm 186 (by decide +kernel) (by decide +kernel)
theorem k_sel_A_size : .selects R_A y_A_size y_A_size ∈ BIG := bm 187 (by decide +kernel) (by decide +kernel)
theorem k_co_A_size : .code y_A_size b_A_size 1 (some .int) ∈ BIG := bm 188 (by decide +kernel) (by decide +kernel)
theorem k_ml_M_134 : .methodLink R_M 134 y_A_get ∈ BIG := bm 189 (by decide +kernel) (by decide +kernel)
theorem k_im_A_get : .instanceMethod y_A_get ∈ BIG := bm 190 (by decide +kernel) (by decide +kernel)
theorem k_sel_A_get : .selects R_A y_A_get y_A_get ∈ BIG := bm 191 (by decide +kernel) (by decide +kernel)
theorem k_co_A_get : .code y_A_get b_A_get 2 (some (.object "java/lang/Object")) ∈ BIG := bm 192 (by decide +kernel) (by decide +kernel)
theorem k_ml_A_118 : .methodLink R_A 118 y_Ob_checkIndex ∈ BIG := bm 193 (by decide +kernel) (by decide +kernel)
theorem k_st_Ob_checkIndex : .static y_Ob_checkIndex ∈ BIG := bm 194 (by decide +kernel) (by decide +kernel)
theorem k_co_Ob_checkIndex : .code y_Ob_checkIndex b_Ob_checkIndex 2 (some .int) ∈ BIG := bm 195 (by decide +kernel) (by decide +kernel)
theorem k_ml_Ob_105 : .methodLink R_Ob 105 y_Pr_checkIndex ∈ BIG := bm 196 (by decide +kernel) (by decide +kernel)
theorem k_st_Pr_checkIndex : .static y_Pr_checkIndex ∈ BIG := bm 197 (by decide +kernel) (by decide +kernel)
theorem k_co_Pr_checkIndex : .code y_Pr_checkIndex b_Pr_checkIndex 3 (some .int) ∈ BIG := bm 198 (by decide +kernel) (by decide +kernel)
theorem k_ml_A_123 : .methodLink R_A 123 y_A_elementData ∈ BIG := bm 199 (by decide +kernel) (by decide +kernel)
theorem k_im_A_elementData : .instanceMethod y_A_elementData ∈ BIG := bm 200 (by decide +kernel) (by decide +kernel)
theorem k_sel_A_elementData : .selects R_A y_A_elementData y_A_elementData ∈ BIG := bm 201 (by decide +kernel) (by decide +kernel)
theorem k_co_A_elementData : .code y_A_elementData b_A_elementData 2 (some (.object "java/lang/Object")) ∈ BIG := bm 202 (by decide +kernel) (by decide +kernel)
theorem k_cl_M_57 : .classLink R_M 57 R_B ∈ BIG := bm 203 (by decide +kernel) (by decide +kernel)
theorem n_ml_M_130 : .methodLinkNest R_M 130 y_K_verdictOn "MadeRunners" ∈ nw_l := nm9 204 (by decide +kernel) (by decide +kernel)
theorem k_im_K_verdictOn : .instanceMethod y_K_verdictOn ∈ BIG := bm 206 (by decide +kernel) (by decide +kernel)
theorem k_co_K_verdictOn : .code y_K_verdictOn b_K_verdictOn 3 (some .int) ∈ BIG := bm 207 (by decide +kernel) (by decide +kernel)
theorem k_ml_K_15 : .methodLink R_K 15 y_K_verdictOnCodes ∈ BIG := bm 208 (by decide +kernel) (by decide +kernel)
theorem k_im_K_verdictOnCodes : .instanceMethod y_K_verdictOnCodes ∈ BIG := bm 210 (by decide +kernel) (by decide +kernel)
theorem k_co_K_verdictOnCodes : .code y_K_verdictOnCodes b_K_verdictOnCodes 6 (some .int) ∈ BIG := bm 211 (by decide +kernel) (by decide +kernel)
theorem k_ml_K_22 : .methodLink R_K 22 y_Ar_fill ∈ BIG := bm 212 (by decide +kernel) (by decide +kernel)
theorem k_st_Ar_fill : .static y_Ar_fill ∈ BIG := bm 213 (by decide +kernel) (by decide +kernel)
theorem k_co_Ar_fill : .code y_Ar_fill b_Ar_fill 4 none ∈ BIG := bm 214 (by decide +kernel) (by decide +kernel)
theorem n_ml_K_34 : .methodLinkNest R_K 34 y_B_read "MadeRunners" ∈ nw_l := nm9 215 (by decide +kernel) (by decide +kernel)
theorem k_im_B_read : .instanceMethod y_B_read ∈ BIG := bm 217 (by decide +kernel) (by decide +kernel)
theorem k_ins_B : .instantiable R_B 9 ∈ BIG := bm 218 (by decide +kernel) (by decide +kernel)
theorem k_co_B_read : .code y_B_read b_B_read 2 (some .int) ∈ BIG := bm 219 (by decide +kernel) (by decide +kernel)
theorem k_ml_B_81 : .methodLink R_B 81 y_B_hasByte ∈ BIG := bm 220 (by decide +kernel) (by decide +kernel)
theorem k_im_B_hasByte : .instanceMethod y_B_hasByte ∈ BIG := bm 222 (by decide +kernel) (by decide +kernel)
theorem k_co_B_hasByte : .code y_B_hasByte b_B_hasByte 2 (some .boolean) ∈ BIG := bm 223 (by decide +kernel) (by decide +kernel)
theorem n_ml_K_38 : .methodLinkNest R_K 38 y_M_lengthOf "MadeRunners" ∈ nw_l := nm9 224 (by decide +kernel) (by decide +kernel)
theorem k_st_M_lengthOf : .static y_M_lengthOf ∈ BIG := bm 225 (by decide +kernel) (by decide +kernel)
theorem k_co_M_lengthOf : .code y_M_lengthOf b_M_lengthOf 1 (some .int) ∈ BIG := bm 226 (by decide +kernel) (by decide +kernel)
theorem k_ml_K_41 : .methodLink R_K 41 y_K_standsWhole ∈ BIG := bm 227 (by decide +kernel) (by decide +kernel)
theorem k_st_K_standsWhole : .static y_K_standsWhole ∈ BIG := bm 228 (by decide +kernel) (by decide +kernel)
theorem k_co_K_standsWhole : .code y_K_standsWhole b_K_standsWhole 4 (some .boolean) ∈ BIG := bm 229 (by decide +kernel) (by decide +kernel)
theorem n_ml_K_65 : .methodLinkNest R_K 65 y_M_isRegister "MadeRunners" ∈ nw_l := nm9 230 (by decide +kernel) (by decide +kernel)
theorem k_st_M_isRegister : .static y_M_isRegister ∈ BIG := bm 231 (by decide +kernel) (by decide +kernel)
theorem k_co_M_isRegister : .code y_M_isRegister b_M_isRegister 1 (some .boolean) ∈ BIG := bm 232 (by decide +kernel) (by decide +kernel)
theorem k_ml_K_45 : .methodLink R_K 45 y_K_takenBy ∈ BIG := bm 233 (by decide +kernel) (by decide +kernel)
theorem k_st_K_takenBy : .static y_K_takenBy ∈ BIG := bm 234 (by decide +kernel) (by decide +kernel)
theorem k_co_K_takenBy : .code y_K_takenBy b_K_takenBy 1 (some .int) ∈ BIG := bm 235 (by decide +kernel) (by decide +kernel)
theorem k_ml_K_48 : .methodLink R_K 48 y_K_wrongAt ∈ BIG := bm 236 (by decide +kernel) (by decide +kernel)
theorem k_st_K_wrongAt : .static y_K_wrongAt ∈ BIG := bm 237 (by decide +kernel) (by decide +kernel)
theorem k_co_K_wrongAt : .code y_K_wrongAt b_K_wrongAt 1 (some .int) ∈ BIG := bm 238 (by decide +kernel) (by decide +kernel)
theorem k_ml_K_51 : .methodLink R_K 51 y_K_verdictOnEnd ∈ BIG := bm 239 (by decide +kernel) (by decide +kernel)
theorem k_im_K_verdictOnEnd : .instanceMethod y_K_verdictOnEnd ∈ BIG := bm 241 (by decide +kernel) (by decide +kernel)
theorem k_co_K_verdictOnEnd : .code y_K_verdictOnEnd b_K_verdictOnEnd 4 (some .int) ∈ BIG := bm 242 (by decide +kernel) (by decide +kernel)
theorem k_ml_K_55 : .methodLink R_K 55 y_K_addedBy ∈ BIG := bm 243 (by decide +kernel) (by decide +kernel)
theorem k_st_K_addedBy : .static y_K_addedBy ∈ BIG := bm 244 (by decide +kernel) (by decide +kernel)
theorem k_co_K_addedBy : .code y_K_addedBy b_K_addedBy 1 (some .int) ∈ BIG := bm 245 (by decide +kernel) (by decide +kernel)
theorem k_ml_K_19 : .methodLink R_K 19 y_K_verdictOnBranches ∈ BIG := bm 246 (by decide +kernel) (by decide +kernel)
theorem k_im_K_verdictOnBranches : .instanceMethod y_K_verdictOnBranches ∈ BIG := bm 248 (by decide +kernel) (by decide +kernel)
theorem k_co_K_verdictOnBranches : .code y_K_verdictOnBranches b_K_verdictOnBranches 4 (some .int) ∈ BIG := bm 249 (by decide +kernel) (by decide +kernel)
theorem n_ml_K_58 : .methodLinkNest R_K 58 y_B_readTwo "MadeRunners" ∈ nw_l := nm9 250 (by decide +kernel) (by decide +kernel)
theorem k_im_B_readTwo : .instanceMethod y_B_readTwo ∈ BIG := bm 252 (by decide +kernel) (by decide +kernel)
theorem k_co_B_readTwo : .code y_B_readTwo b_B_readTwo 2 (some .int) ∈ BIG := bm 253 (by decide +kernel) (by decide +kernel)
theorem k_ml_B_84 : .methodLink R_B 84 y_B_read ∈ BIG := bm 254 (by decide +kernel) (by decide +kernel)
theorem k_ml_K_61 : .methodLink R_K 61 y_K_isGoal ∈ BIG := bm 255 (by decide +kernel) (by decide +kernel)
theorem k_im_K_isGoal : .instanceMethod y_K_isGoal ∈ BIG := bm 257 (by decide +kernel) (by decide +kernel)
theorem k_co_K_isGoal : .code y_K_isGoal b_K_isGoal 2 (some .boolean) ∈ BIG := bm 258 (by decide +kernel) (by decide +kernel)
theorem n_ml_M_90 : .methodLinkNest R_M 90 y_B_becomeRows "MadeRunners" ∈ nw_l := nm9 259 (by decide +kernel) (by decide +kernel)
theorem k_im_B_becomeRows : .instanceMethod y_B_becomeRows ∈ BIG := bm 261 (by decide +kernel) (by decide +kernel)
theorem k_co_B_becomeRows : .code y_B_becomeRows b_B_becomeRows 1 none ∈ BIG := bm 262 (by decide +kernel) (by decide +kernel)
theorem k_ml_L_103 : .methodLink R_L 103 y_M_next ∈ BIG := bm 263 (by decide +kernel) (by decide +kernel)
theorem k_im_M_next : .instanceMethod y_M_next ∈ BIG := bm 264 (by decide +kernel) (by decide +kernel)
theorem k_sel_M_next : .selects R_M y_M_next y_M_next ∈ BIG := bm 265 (by decide +kernel) (by decide +kernel)
theorem k_co_M_next : .code y_M_next b_M_next 5 (some .int) ∈ BIG := bm 266 (by decide +kernel) (by decide +kernel)
theorem k_ml_M_143 : .methodLink R_M 143 y_M_oldestGeneration ∈ BIG := bm 267 (by decide +kernel) (by decide +kernel)
theorem k_im_M_oldestGeneration : .instanceMethod y_M_oldestGeneration ∈ BIG := bm 269 (by decide +kernel) (by decide +kernel)
theorem k_co_M_oldestGeneration : .code y_M_oldestGeneration b_M_oldestGeneration 1 (some .int) ∈ BIG := bm 270 (by decide +kernel) (by decide +kernel)
theorem k_ml_M_189 : .methodLink R_M 189 y_Ma_max ∈ BIG := bm 271 (by decide +kernel) (by decide +kernel)
theorem k_st_Ma_max : .static y_Ma_max ∈ BIG := bm 272 (by decide +kernel) (by decide +kernel)
theorem k_co_Ma_max : .code y_Ma_max b_Ma_max 2 (some .int) ∈ BIG := bm 273 (by decide +kernel) (by decide +kernel)
theorem k_ml_L_122 : .methodLink R_L 122 y_M_count ∈ BIG := bm 274 (by decide +kernel) (by decide +kernel)
theorem k_im_M_count : .instanceMethod y_M_count ∈ BIG := bm 275 (by decide +kernel) (by decide +kernel)
theorem k_sel_M_count : .selects R_M y_M_count y_M_count ∈ BIG := bm 276 (by decide +kernel) (by decide +kernel)
theorem k_co_M_count : .code y_M_count b_M_count 2 (some .int) ∈ BIG := bm 277 (by decide +kernel) (by decide +kernel)
theorem k_ml_M_184 : .methodLink R_M 184 y_M_blocksThatAre ∈ BIG := bm 278 (by decide +kernel) (by decide +kernel)
theorem k_im_M_blocksThatAre : .instanceMethod y_M_blocksThatAre ∈ BIG := bm 280 (by decide +kernel) (by decide +kernel)
theorem k_co_M_blocksThatAre : .code y_M_blocksThatAre b_M_blocksThatAre 4 (some .int) ∈ BIG := bm 281 (by decide +kernel) (by decide +kernel)
theorem k_ml_L_58 : .methodLink R_L 58 y_L_cell ∈ BIG := bm 282 (by decide +kernel) (by decide +kernel)
theorem k_st_L_cell : .static y_L_cell ∈ BIG := bm 283 (by decide +kernel) (by decide +kernel)
theorem k_co_L_cell : .code y_L_cell b_L_cell 2 (some .int) ∈ BIG := bm 284 (by decide +kernel) (by decide +kernel)
theorem k_ml_L_70 : .methodLink R_L 70 y_L_block ∈ BIG := bm 285 (by decide +kernel) (by decide +kernel)
theorem k_st_L_block : .static y_L_block ∈ BIG := bm 286 (by decide +kernel) (by decide +kernel)
theorem k_co_L_block : .codeWith y_L_block b_L_block 3 (some .int) [(0, 8, 11, 13)] ∈ BIG := bm 287 (by decide +kernel) (by decide +kernel)
theorem k_ml_L_7 : .methodLink R_L 7 y_M_block ∈ BIG := bm 289 (by decide +kernel) (by decide +kernel)
theorem k_im_M_block : .instanceMethod y_M_block ∈ BIG := bm 290 (by decide +kernel) (by decide +kernel)
theorem k_sel_M_block : .selects R_M y_M_block y_M_block ∈ BIG := bm 291 (by decide +kernel) (by decide +kernel)
theorem k_co_M_block : .code y_M_block b_M_block 1 (some .int) ∈ BIG := bm 292 (by decide +kernel) (by decide +kernel)
theorem k_ac_byte : .arrayClass .byte ∈ BIG := bm 361 (by decide +kernel) (by decide +kernel)
theorem n_ml_M_59 : .methodLinkNest R_M 59 y_B_init "MadeRunners" ∈ nw_l := nm9 362 (by decide +kernel) (by decide +kernel)
theorem k_im_B_init : .instanceMethod y_B_init ∈ BIG := bm 363 (by decide +kernel) (by decide +kernel)
theorem k_co_B_init : .code y_B_init b_B_init 1 none ∈ BIG := bm 364 (by decide +kernel) (by decide +kernel)
theorem k_fl_B_9 : .fieldLink R_B 9 "MadeRunners$Block" "ops" "[I" ∈ BIG := bm 366 (by decide +kernel) (by decide +kernel)
theorem n_fl_U_53 : .fieldLinkNest R_U 53 "MadeRunners$Block" "ops" "[I" "MadeRunners" ∈ nw_l := nm9 367 (by decide +kernel) (by decide +kernel)
theorem k_fl_B_15 : .fieldLink R_B 15 "MadeRunners$Block" "firsts" "[I" ∈ BIG := bm 368 (by decide +kernel) (by decide +kernel)
theorem n_fl_U_57 : .fieldLinkNest R_U 57 "MadeRunners$Block" "firsts" "[I" "MadeRunners" ∈ nw_l := nm9 369 (by decide +kernel) (by decide +kernel)
theorem k_fl_B_18 : .fieldLink R_B 18 "MadeRunners$Block" "seconds" "[I" ∈ BIG := bm 370 (by decide +kernel) (by decide +kernel)
theorem n_fl_U_60 : .fieldLinkNest R_U 60 "MadeRunners$Block" "seconds" "[I" "MadeRunners" ∈ nw_l := nm9 371 (by decide +kernel) (by decide +kernel)
theorem k_fl_B_21 : .fieldLink R_B 21 "MadeRunners$Block" "starts" "[I" ∈ BIG := bm 372 (by decide +kernel) (by decide +kernel)
theorem k_fl_B_24 : .fieldLink R_B 24 "MadeRunners$Block" "bytes" "[I" ∈ BIG := bm 373 (by decide +kernel) (by decide +kernel)
theorem k_fl_B_34 : .fieldLink R_B 34 "MadeRunners$Block" "instructionCount" "I" ∈ BIG := bm 374 (by decide +kernel) (by decide +kernel)
theorem n_fl_U_42 : .fieldLinkNest R_U 42 "MadeRunners$Block" "instructionCount" "I" "MadeRunners" ∈ nw_l := nm9 375 (by decide +kernel) (by decide +kernel)
theorem n_fl_M_81 : .fieldLinkNest R_M 81 "MadeRunners$Block" "instructionCount" "I" "MadeRunners" ∈ nw_l := nm9 376 (by decide +kernel) (by decide +kernel)
theorem k_fl_B_41 : .fieldLink R_B 41 "MadeRunners$Block" "byteCount" "I" ∈ BIG := bm 377 (by decide +kernel) (by decide +kernel)
theorem n_fl_K_28 : .fieldLinkNest R_K 28 "MadeRunners$Block" "byteCount" "I" "MadeRunners" ∈ nw_l := nm9 378 (by decide +kernel) (by decide +kernel)
theorem n_fl_M_107 : .fieldLinkNest R_M 107 "MadeRunners$Block" "byteCount" "I" "MadeRunners" ∈ nw_l := nm9 379 (by decide +kernel) (by decide +kernel)
theorem k_fl_B_27 : .fieldLink R_B 27 "MadeRunners$Block" "state" "I" ∈ BIG := bm 380 (by decide +kernel) (by decide +kernel)
theorem n_fl_M_100 : .fieldLinkNest R_M 100 "MadeRunners$Block" "state" "I" "MadeRunners" ∈ nw_l := nm9 381 (by decide +kernel) (by decide +kernel)
theorem k_fl_B_31 : .fieldLink R_B 31 "MadeRunners$Block" "generation" "I" ∈ BIG := bm 382 (by decide +kernel) (by decide +kernel)
theorem n_fl_M_106 : .fieldLinkNest R_M 106 "MadeRunners$Block" "generation" "I" "MadeRunners" ∈ nw_l := nm9 383 (by decide +kernel) (by decide +kernel)
theorem k_ml_M_60 : .methodLink R_M 60 y_A_add ∈ BIG := bm 403 (by decide +kernel) (by decide +kernel)
theorem k_im_A_add : .instanceMethod y_A_add ∈ BIG := bm 404 (by decide +kernel) (by decide +kernel)
theorem k_sel_A_add : .selects R_A y_A_add y_A_add ∈ BIG := bm 405 (by decide +kernel) (by decide +kernel)
theorem k_co_A_add : .code y_A_add b_A_add 2 (some .boolean) ∈ BIG := bm 406 (by decide +kernel) (by decide +kernel)
theorem k_ml_A_131 : .methodLink R_A 131 y_A_add2 ∈ BIG := bm 407 (by decide +kernel) (by decide +kernel)
theorem k_im_A_add2 : .instanceMethod y_A_add2 ∈ BIG := bm 409 (by decide +kernel) (by decide +kernel)
theorem k_co_A_add2 : .code y_A_add2 b_A_add2 4 none ∈ BIG := bm 410 (by decide +kernel) (by decide +kernel)
theorem k_ml_A_129 : .methodLink R_A 129 y_A_grow ∈ BIG := bm 411 (by decide +kernel) (by decide +kernel)
theorem k_im_A_grow : .instanceMethod y_A_grow ∈ BIG := bm 413 (by decide +kernel) (by decide +kernel)
theorem k_co_A_grow : .code y_A_grow b_A_grow 1 (some (.array (.object "java/lang/Object"))) ∈ BIG := bm 414 (by decide +kernel) (by decide +kernel)
theorem k_ml_A_69 : .methodLink R_A 69 y_A_grow2 ∈ BIG := bm 415 (by decide +kernel) (by decide +kernel)
theorem k_im_A_grow2 : .instanceMethod y_A_grow2 ∈ BIG := bm 417 (by decide +kernel) (by decide +kernel)
theorem k_co_A_grow2 : .code y_A_grow2 b_A_grow2 4 (some (.array (.object "java/lang/Object"))) ∈ BIG := bm 418 (by decide +kernel) (by decide +kernel)
theorem k_ml_A_73 : .methodLink R_A 73 y_As_newLength ∈ BIG := bm 419 (by decide +kernel) (by decide +kernel)
theorem k_st_As_newLength : .static y_As_newLength ∈ BIG := bm 420 (by decide +kernel) (by decide +kernel)
theorem k_co_As_newLength : .code y_As_newLength b_As_newLength 4 (some .int) ∈ BIG := bm 421 (by decide +kernel) (by decide +kernel)
theorem k_ml_As_194 : .methodLink R_As 194 y_Ma_max ∈ BIG := bm 422 (by decide +kernel) (by decide +kernel)
theorem k_ct_As_200 : .constant R_As 200 2147483639 ∈ BIG := bm 423 (by decide +kernel) (by decide +kernel)
theorem k_ml_As_201 : .methodLink R_As 201 y_As_hugeLength ∈ BIG := bm 424 (by decide +kernel) (by decide +kernel)
theorem k_st_As_hugeLength : .static y_As_hugeLength ∈ BIG := bm 425 (by decide +kernel) (by decide +kernel)
theorem k_co_As_hugeLength : .code y_As_hugeLength b_As_hugeLength 3 (some .int) ∈ BIG := bm 426 (by decide +kernel) (by decide +kernel)
theorem k_ml_A_66 : .methodLink R_A 66 y_Ar_copyOf ∈ BIG := bm 427 (by decide +kernel) (by decide +kernel)
theorem k_st_Ar_copyOf : .static y_Ar_copyOf ∈ BIG := bm 428 (by decide +kernel) (by decide +kernel)
theorem k_co_Ar_copyOf : .code y_Ar_copyOf b_Ar_copyOf 2 (some (.array (.object "java/lang/Object"))) ∈ BIG := bm 429 (by decide +kernel) (by decide +kernel)
theorem k_ml_Ar_300 : .methodLink R_Ar 300 y_Ar_copyOf2 ∈ BIG := bm 444 (by decide +kernel) (by decide +kernel)
theorem k_st_Ar_copyOf2 : .static y_Ar_copyOf2 ∈ BIG := bm 445 (by decide +kernel) (by decide +kernel)
theorem k_co_Ar_copyOf2 : .code y_Ar_copyOf2 b_Ar_copyOf2 4 (some (.array (.object "java/lang/Object"))) ∈ BIG := bm 446 (by decide +kernel) (by decide +kernel)
theorem k_cl_Ar_2 : .classLink R_Ar 2 R_O ∈ BIG := bm 449 (by decide +kernel) (by decide +kernel)
theorem k_ml_Ar_304 : .methodLink R_Ar 304 y_Ma_min ∈ BIG := bm 450 (by decide +kernel) (by decide +kernel)
theorem k_st_Ma_min : .static y_Ma_min ∈ BIG := bm 451 (by decide +kernel) (by decide +kernel)
theorem k_co_Ma_min : .code y_Ma_min b_Ma_min 2 (some .int) ∈ BIG := bm 452 (by decide +kernel) (by decide +kernel)
theorem k_ml_A_79 : .methodLink R_A 79 y_Ma_max ∈ BIG := bm 456 (by decide +kernel) (by decide +kernel)
theorem k_cl_A_7 : .classLink R_A 7 R_O ∈ BIG := bm 457 (by decide +kernel) (by decide +kernel)
theorem k_ml_L_77 : .methodLink R_L 77 y_L_instruction ∈ BIG := bm 458 (by decide +kernel) (by decide +kernel)
theorem k_st_L_instruction : .static y_L_instruction ∈ BIG := bm 459 (by decide +kernel) (by decide +kernel)
theorem k_co_L_instruction : .codeWith y_L_instruction b_L_instruction 7 (some .int) [(0, 14, 17, 19), (0, 14, 21, 21), (0, 14, 25, 13)] ∈ BIG := bm 460 (by decide +kernel) (by decide +kernel)
theorem k_ml_L_15 : .methodLink R_L 15 y_M_instruction ∈ BIG := bm 463 (by decide +kernel) (by decide +kernel)
theorem k_im_M_instruction : .instanceMethod y_M_instruction ∈ BIG := bm 464 (by decide +kernel) (by decide +kernel)
theorem k_sel_M_instruction : .selects R_M y_M_instruction y_M_instruction ∈ BIG := bm 465 (by decide +kernel) (by decide +kernel)
theorem k_co_M_instruction : .code y_M_instruction b_M_instruction 6 (some .int) ∈ BIG := bm 466 (by decide +kernel) (by decide +kernel)
theorem k_ml_M_64 : .methodLink R_M 64 y_M_find ∈ BIG := bm 467 (by decide +kernel) (by decide +kernel)
theorem k_im_M_find : .instanceMethod y_M_find ∈ BIG := bm 469 (by decide +kernel) (by decide +kernel)
theorem k_co_M_find : .code y_M_find b_M_find 2 (some (.object "MadeRunners$Block")) ∈ BIG := bm 470 (by decide +kernel) (by decide +kernel)
theorem k_ml_M_68 : .methodLink R_M 68 y_M_isRegister ∈ BIG := bm 487 (by decide +kernel) (by decide +kernel)
theorem k_ml_M_72 : .methodLink R_M 72 y_M_isOperand ∈ BIG := bm 488 (by decide +kernel) (by decide +kernel)
theorem k_st_M_isOperand : .static y_M_isOperand ∈ BIG := bm 489 (by decide +kernel) (by decide +kernel)
theorem k_co_M_isOperand : .code y_M_isOperand b_M_isOperand 2 (some .boolean) ∈ BIG := bm 490 (by decide +kernel) (by decide +kernel)
theorem n_ml_M_86 : .methodLinkNest R_M 86 y_B_addInstruction "MadeRunners" ∈ nw_l := nm9 508 (by decide +kernel) (by decide +kernel)
theorem k_im_B_addInstruction : .instanceMethod y_B_addInstruction ∈ BIG := bm 510 (by decide +kernel) (by decide +kernel)
theorem k_co_B_addInstruction : .code y_B_addInstruction b_B_addInstruction 5 none ∈ BIG := bm 511 (by decide +kernel) (by decide +kernel)
theorem k_ml_B_37 : .methodLink R_B 37 y_B_bytesFor ∈ BIG := bm 512 (by decide +kernel) (by decide +kernel)
theorem k_st_B_bytesFor : .static y_B_bytesFor ∈ BIG := bm 513 (by decide +kernel) (by decide +kernel)
theorem k_co_B_bytesFor : .code y_B_bytesFor b_B_bytesFor 2 (some .int) ∈ BIG := bm 514 (by decide +kernel) (by decide +kernel)
theorem k_ml_B_69 : .methodLink R_B 69 y_B_fitsOneByte ∈ BIG := bm 515 (by decide +kernel) (by decide +kernel)
theorem k_st_B_fitsOneByte : .static y_B_fitsOneByte ∈ BIG := bm 516 (by decide +kernel) (by decide +kernel)
theorem k_co_B_fitsOneByte : .code y_B_fitsOneByte b_B_fitsOneByte 1 (some .boolean) ∈ BIG := bm 517 (by decide +kernel) (by decide +kernel)
theorem n_ml_B_48 : .methodLinkNest R_B 48 y_M_lengthOf "MadeRunners" ∈ nw_l := nm9 518 (by decide +kernel) (by decide +kernel)
theorem k_ml_L_81 : .methodLink R_L 81 y_L_make ∈ BIG := bm 519 (by decide +kernel) (by decide +kernel)
theorem k_st_L_make : .static y_L_make ∈ BIG := bm 520 (by decide +kernel) (by decide +kernel)
theorem k_co_L_make : .codeWith y_L_make b_L_make 4 (some .int) [(0, 9, 12, 19)] ∈ BIG := bm 521 (by decide +kernel) (by decide +kernel)
theorem k_ml_L_23 : .methodLink R_L 23 y_M_make ∈ BIG := bm 522 (by decide +kernel) (by decide +kernel)
theorem k_im_M_make : .instanceMethod y_M_make ∈ BIG := bm 523 (by decide +kernel) (by decide +kernel)
theorem k_sel_M_make : .selects R_M y_M_make y_M_make ∈ BIG := bm 524 (by decide +kernel) (by decide +kernel)
theorem k_co_M_make : .code y_M_make b_M_make 3 (some .int) ∈ BIG := bm 525 (by decide +kernel) (by decide +kernel)
theorem n_ml_M_93 : .methodLinkNest R_M 93 y_B_canBeMade "MadeRunners" ∈ nw_l := nm9 526 (by decide +kernel) (by decide +kernel)
theorem k_im_B_canBeMade : .instanceMethod y_B_canBeMade ∈ BIG := bm 528 (by decide +kernel) (by decide +kernel)
theorem k_co_B_canBeMade : .code y_B_canBeMade b_B_canBeMade 1 (some .boolean) ∈ BIG := bm 529 (by decide +kernel) (by decide +kernel)
theorem k_ml_B_44 : .methodLink R_B 44 y_B_startOf ∈ BIG := bm 530 (by decide +kernel) (by decide +kernel)
theorem k_im_B_startOf : .instanceMethod y_B_startOf ∈ BIG := bm 532 (by decide +kernel) (by decide +kernel)
theorem k_co_B_startOf : .code y_B_startOf b_B_startOf 3 (some .int) ∈ BIG := bm 533 (by decide +kernel) (by decide +kernel)
theorem k_ml_B_73 : .methodLink R_B 73 y_Ma_min ∈ BIG := bm 534 (by decide +kernel) (by decide +kernel)
theorem k_ml_B_78 : .methodLink R_B 78 y_Ma_max ∈ BIG := bm 535 (by decide +kernel) (by decide +kernel)
theorem n_ml_M_97 : .methodLinkNest R_M 97 y_B_writeBytes "MadeRunners" ∈ nw_l := nm9 536 (by decide +kernel) (by decide +kernel)
theorem k_im_B_writeBytes : .instanceMethod y_B_writeBytes ∈ BIG := bm 538 (by decide +kernel) (by decide +kernel)
theorem k_co_B_writeBytes : .code y_B_writeBytes b_B_writeBytes 2 none ∈ BIG := bm 539 (by decide +kernel) (by decide +kernel)
theorem k_ml_B_51 : .methodLink R_B 51 y_B_writeInstruction ∈ BIG := bm 540 (by decide +kernel) (by decide +kernel)
theorem k_im_B_writeInstruction : .instanceMethod y_B_writeInstruction ∈ BIG := bm 542 (by decide +kernel) (by decide +kernel)
theorem k_co_B_writeInstruction : .code y_B_writeInstruction b_B_writeInstruction 4 none ∈ BIG := bm 543 (by decide +kernel) (by decide +kernel)
theorem k_ml_B_59 : .methodLink R_B 59 y_B_writePush ∈ BIG := bm 544 (by decide +kernel) (by decide +kernel)
theorem k_im_B_writePush : .instanceMethod y_B_writePush ∈ BIG := bm 546 (by decide +kernel) (by decide +kernel)
theorem k_co_B_writePush : .code y_B_writePush b_B_writePush 2 none ∈ BIG := bm 547 (by decide +kernel) (by decide +kernel)
theorem k_ml_B_55 : .methodLink R_B 55 y_B_append ∈ BIG := bm 548 (by decide +kernel) (by decide +kernel)
theorem k_im_B_append : .instanceMethod y_B_append ∈ BIG := bm 550 (by decide +kernel) (by decide +kernel)
theorem k_co_B_append : .code y_B_append b_B_append 2 none ∈ BIG := bm 551 (by decide +kernel) (by decide +kernel)
theorem k_ml_B_62 : .methodLink R_B 62 y_B_writeWithRegister ∈ BIG := bm 552 (by decide +kernel) (by decide +kernel)
theorem k_im_B_writeWithRegister : .instanceMethod y_B_writeWithRegister ∈ BIG := bm 554 (by decide +kernel) (by decide +kernel)
theorem k_co_B_writeWithRegister : .code y_B_writeWithRegister b_B_writeWithRegister 3 none ∈ BIG := bm 555 (by decide +kernel) (by decide +kernel)
theorem k_ml_B_66 : .methodLink R_B 66 y_B_writeBranch ∈ BIG := bm 556 (by decide +kernel) (by decide +kernel)
theorem k_im_B_writeBranch : .instanceMethod y_B_writeBranch ∈ BIG := bm 558 (by decide +kernel) (by decide +kernel)
theorem k_co_B_writeBranch : .code y_B_writeBranch b_B_writeBranch 2 none ∈ BIG := bm 559 (by decide +kernel) (by decide +kernel)
theorem k_ml_L_85 : .methodLink R_L 85 y_L_byteAt ∈ BIG := bm 560 (by decide +kernel) (by decide +kernel)
theorem k_st_L_byteAt : .static y_L_byteAt ∈ BIG := bm 561 (by decide +kernel) (by decide +kernel)
theorem k_co_L_byteAt : .codeWith y_L_byteAt b_L_byteAt 5 (some .int) [(0, 10, 13, 19), (0, 10, 17, 31), (0, 10, 21, 21)] ∈ BIG := bm 562 (by decide +kernel) (by decide +kernel)
theorem k_ml_L_27 : .methodLink R_L 27 y_M_byteAt ∈ BIG := bm 564 (by decide +kernel) (by decide +kernel)
theorem k_im_M_byteAt : .instanceMethod y_M_byteAt ∈ BIG := bm 565 (by decide +kernel) (by decide +kernel)
theorem k_sel_M_byteAt : .selects R_M y_M_byteAt y_M_byteAt ∈ BIG := bm 566 (by decide +kernel) (by decide +kernel)
theorem k_co_M_byteAt : .code y_M_byteAt b_M_byteAt 4 (some .int) ∈ BIG := bm 567 (by decide +kernel) (by decide +kernel)
theorem n_ml_M_115 : .methodLinkNest R_M 115 y_B_hasByte "MadeRunners" ∈ nw_l := nm9 584 (by decide +kernel) (by decide +kernel)
theorem n_ml_M_120 : .methodLinkNest R_M 120 y_B_read "MadeRunners" ∈ nw_l := nm9 586 (by decide +kernel) (by decide +kernel)
theorem k_ml_L_89 : .methodLink R_L 89 y_L_alter ∈ BIG := bm 587 (by decide +kernel) (by decide +kernel)
theorem k_st_L_alter : .static y_L_alter ∈ BIG := bm 588 (by decide +kernel) (by decide +kernel)
theorem k_co_L_alter : .codeWith y_L_alter b_L_alter 6 (some .int) [(0, 12, 15, 19), (0, 12, 19, 31), (0, 12, 23, 21)] ∈ BIG := bm 589 (by decide +kernel) (by decide +kernel)
theorem k_ml_L_33 : .methodLink R_L 33 y_M_alter ∈ BIG := bm 590 (by decide +kernel) (by decide +kernel)
theorem k_im_M_alter : .instanceMethod y_M_alter ∈ BIG := bm 591 (by decide +kernel) (by decide +kernel)
theorem k_sel_M_alter : .selects R_M y_M_alter y_M_alter ∈ BIG := bm 592 (by decide +kernel) (by decide +kernel)
theorem k_co_M_alter : .code y_M_alter b_M_alter 6 (some .int) ∈ BIG := bm 593 (by decide +kernel) (by decide +kernel)
theorem n_ml_M_126 : .methodLinkNest R_M 126 y_B_overwrite "MadeRunners" ∈ nw_l := nm9 595 (by decide +kernel) (by decide +kernel)
theorem k_im_B_overwrite : .instanceMethod y_B_overwrite ∈ BIG := bm 597 (by decide +kernel) (by decide +kernel)
theorem k_co_B_overwrite : .code y_B_overwrite b_B_overwrite 3 none ∈ BIG := bm 598 (by decide +kernel) (by decide +kernel)
theorem k_ml_L_93 : .methodLink R_L 93 y_L_check ∈ BIG := bm 599 (by decide +kernel) (by decide +kernel)
theorem k_st_L_check : .static y_L_check ∈ BIG := bm 600 (by decide +kernel) (by decide +kernel)
theorem k_co_L_check : .codeWith y_L_check b_L_check 4 (some .int) [(0, 9, 12, 19), (0, 9, 15, 31)] ∈ BIG := bm 601 (by decide +kernel) (by decide +kernel)
theorem k_ml_L_37 : .methodLink R_L 37 y_M_check ∈ BIG := bm 602 (by decide +kernel) (by decide +kernel)
theorem k_im_M_check : .instanceMethod y_M_check ∈ BIG := bm 603 (by decide +kernel) (by decide +kernel)
theorem k_sel_M_check : .selects R_M y_M_check y_M_check ∈ BIG := bm 604 (by decide +kernel) (by decide +kernel)
theorem k_co_M_check : .code y_M_check b_M_check 3 (some .int) ∈ BIG := bm 605 (by decide +kernel) (by decide +kernel)
theorem k_ml_L_100 : .methodLink R_L 100 y_L_what ∈ BIG := bm 606 (by decide +kernel) (by decide +kernel)
theorem k_st_L_what : .static y_L_what ∈ BIG := bm 607 (by decide +kernel) (by decide +kernel)
theorem k_co_L_what : .codeWith y_L_what b_L_what 5 (some .int) [(0, 10, 13, 19), (0, 10, 17, 21)] ∈ BIG := bm 608 (by decide +kernel) (by decide +kernel)
theorem k_ml_L_40 : .methodLink R_L 40 y_M_what ∈ BIG := bm 609 (by decide +kernel) (by decide +kernel)
theorem k_im_M_what : .instanceMethod y_M_what ∈ BIG := bm 610 (by decide +kernel) (by decide +kernel)
theorem k_sel_M_what : .selects R_M y_M_what y_M_what ∈ BIG := bm 611 (by decide +kernel) (by decide +kernel)
theorem k_co_M_what : .code y_M_what b_M_what 4 (some .int) ∈ BIG := bm 612 (by decide +kernel) (by decide +kernel)
theorem k_ml_L_109 : .methodLink R_L 109 y_L_run ∈ BIG := bm 614 (by decide +kernel) (by decide +kernel)
theorem k_st_L_run : .static y_L_run ∈ BIG := bm 615 (by decide +kernel) (by decide +kernel)
theorem k_co_L_run : .codeWith y_L_run b_L_run 8 (some .int) [(0, 13, 16, 19)] ∈ BIG := bm 616 (by decide +kernel) (by decide +kernel)
theorem k_ml_L_43 : .methodLink R_L 43 y_M_run ∈ BIG := bm 617 (by decide +kernel) (by decide +kernel)
theorem k_im_M_run : .instanceMethod y_M_run ∈ BIG := bm 618 (by decide +kernel) (by decide +kernel)
theorem k_sel_M_run : .selects R_M y_M_run y_M_run ∈ BIG := bm 619 (by decide +kernel) (by decide +kernel)
theorem k_co_M_run : .code y_M_run b_M_run 7 (some .int) ∈ BIG := bm 620 (by decide +kernel) (by decide +kernel)
theorem n_ml_M_146 : .methodLinkNest R_M 146 y_U_followBytes "MadeRunners" ∈ nw_l := nm9 621 (by decide +kernel) (by decide +kernel)
theorem k_im_U_followBytes : .instanceMethod y_U_followBytes ∈ BIG := bm 623 (by decide +kernel) (by decide +kernel)
theorem k_co_U_followBytes : .code y_U_followBytes b_U_followBytes 9 none ∈ BIG := bm 624 (by decide +kernel) (by decide +kernel)
theorem k_ml_U_38 : .methodLink R_U 38 y_U_begin ∈ BIG := bm 625 (by decide +kernel) (by decide +kernel)
theorem k_im_U_begin : .instanceMethod y_U_begin ∈ BIG := bm 627 (by decide +kernel) (by decide +kernel)
theorem k_co_U_begin : .code y_U_begin b_U_begin 6 none ∈ BIG := bm 628 (by decide +kernel) (by decide +kernel)
theorem k_ml_U_22 : .methodLink R_U 22 y_Ar_fill2 ∈ BIG := bm 629 (by decide +kernel) (by decide +kernel)
theorem k_st_Ar_fill2 : .static y_Ar_fill2 ∈ BIG := bm 630 (by decide +kernel) (by decide +kernel)
theorem k_co_Ar_fill2 : .code y_Ar_fill2 b_Ar_fill2 5 none ∈ BIG := bm 631 (by decide +kernel) (by decide +kernel)
theorem k_ct_U_79 : .constant R_U 79 600300 ∈ BIG := bm 632 (by decide +kernel) (by decide +kernel)
theorem n_ml_U_80 : .methodLinkNest R_U 80 y_B_read "MadeRunners" ∈ nw_l := nm9 633 (by decide +kernel) (by decide +kernel)
theorem k_ml_U_84 : .methodLink R_U 84 y_U_topIsZero ∈ BIG := bm 634 (by decide +kernel) (by decide +kernel)
theorem k_im_U_topIsZero : .instanceMethod y_U_topIsZero ∈ BIG := bm 636 (by decide +kernel) (by decide +kernel)
theorem k_co_U_topIsZero : .code y_U_topIsZero b_U_topIsZero 1 (some .boolean) ∈ BIG := bm 637 (by decide +kernel) (by decide +kernel)
theorem k_ml_U_88 : .methodLink R_U 88 y_U_follow ∈ BIG := bm 638 (by decide +kernel) (by decide +kernel)
theorem k_im_U_follow : .instanceMethod y_U_follow ∈ BIG := bm 640 (by decide +kernel) (by decide +kernel)
theorem k_co_U_follow : .code y_U_follow b_U_follow 4 (some .int) ∈ BIG := bm 641 (by decide +kernel) (by decide +kernel)
theorem k_ml_U_63 : .methodLink R_U 63 y_U_load ∈ BIG := bm 642 (by decide +kernel) (by decide +kernel)
theorem k_im_U_load : .instanceMethod y_U_load ∈ BIG := bm 644 (by decide +kernel) (by decide +kernel)
theorem k_co_U_load : .code y_U_load b_U_load 2 (some .long) ∈ BIG := bm 645 (by decide +kernel) (by decide +kernel)
theorem n_ml_U_113 : .methodLinkNest R_U 113 y_M_isRegister "MadeRunners" ∈ nw_l := nm9 646 (by decide +kernel) (by decide +kernel)
theorem k_ml_U_92 : .methodLink R_U 92 y_U_push ∈ BIG := bm 647 (by decide +kernel) (by decide +kernel)
theorem k_im_U_push : .instanceMethod y_U_push ∈ BIG := bm 649 (by decide +kernel) (by decide +kernel)
theorem k_co_U_push : .code y_U_push b_U_push 3 none ∈ BIG := bm 650 (by decide +kernel) (by decide +kernel)
theorem k_ml_U_96 : .methodLink R_U 96 y_U_pop ∈ BIG := bm 651 (by decide +kernel) (by decide +kernel)
theorem k_im_U_pop : .instanceMethod y_U_pop ∈ BIG := bm 653 (by decide +kernel) (by decide +kernel)
theorem k_co_U_pop : .code y_U_pop b_U_pop 1 (some .long) ∈ BIG := bm 654 (by decide +kernel) (by decide +kernel)
theorem k_ml_U_71 : .methodLink R_U 71 y_U_store ∈ BIG := bm 655 (by decide +kernel) (by decide +kernel)
theorem k_im_U_store : .instanceMethod y_U_store ∈ BIG := bm 657 (by decide +kernel) (by decide +kernel)
theorem k_co_U_store : .code y_U_store b_U_store 4 none ∈ BIG := bm 658 (by decide +kernel) (by decide +kernel)
theorem n_ml_U_100 : .methodLinkNest R_U 100 y_B_readFour "MadeRunners" ∈ nw_l := nm9 659 (by decide +kernel) (by decide +kernel)
theorem k_im_B_readFour : .instanceMethod y_B_readFour ∈ BIG := bm 661 (by decide +kernel) (by decide +kernel)
theorem k_co_B_readFour : .code y_B_readFour b_B_readFour 2 (some .int) ∈ BIG := bm 662 (by decide +kernel) (by decide +kernel)
theorem k_ml_B_87 : .methodLink R_B 87 y_B_readTwo ∈ BIG := bm 663 (by decide +kernel) (by decide +kernel)
theorem n_ml_U_103 : .methodLinkNest R_U 103 y_B_readTwo "MadeRunners" ∈ nw_l := nm9 664 (by decide +kernel) (by decide +kernel)
theorem k_ml_U_106 : .methodLink R_U 106 y_U_workOnPile ∈ BIG := bm 665 (by decide +kernel) (by decide +kernel)
theorem k_im_U_workOnPile : .instanceMethod y_U_workOnPile ∈ BIG := bm 667 (by decide +kernel) (by decide +kernel)
theorem k_co_U_workOnPile : .code y_U_workOnPile b_U_workOnPile 6 none ∈ BIG := bm 668 (by decide +kernel) (by decide +kernel)
theorem k_ml_U_75 : .methodLink R_U 75 y_U_worked ∈ BIG := bm 669 (by decide +kernel) (by decide +kernel)
theorem k_st_U_worked : .static y_U_worked ∈ BIG := bm 670 (by decide +kernel) (by decide +kernel)
theorem k_co_U_worked : .code y_U_worked b_U_worked 5 (some .long) ∈ BIG := bm 671 (by decide +kernel) (by decide +kernel)
theorem n_ml_U_110 : .methodLinkNest R_U 110 y_M_lengthOf "MadeRunners" ∈ nw_l := nm9 672 (by decide +kernel) (by decide +kernel)
theorem n_ml_M_150 : .methodLinkNest R_M 150 y_U_followRows "MadeRunners" ∈ nw_l := nm9 673 (by decide +kernel) (by decide +kernel)
theorem k_im_U_followRows : .instanceMethod y_U_followRows ∈ BIG := bm 675 (by decide +kernel) (by decide +kernel)
theorem k_co_U_followRows : .code y_U_followRows b_U_followRows 11 none ∈ BIG := bm 676 (by decide +kernel) (by decide +kernel)
theorem k_ml_U_47 : .methodLink R_U 47 y_Ma_min ∈ BIG := bm 677 (by decide +kernel) (by decide +kernel)
theorem k_ml_U_67 : .methodLink R_U 67 y_U_resultOf ∈ BIG := bm 678 (by decide +kernel) (by decide +kernel)
theorem k_im_U_resultOf : .instanceMethod y_U_resultOf ∈ BIG := bm 680 (by decide +kernel) (by decide +kernel)
theorem k_co_U_resultOf : .code y_U_resultOf b_U_resultOf 4 (some .long) ∈ BIG := bm 681 (by decide +kernel) (by decide +kernel)
theorem k_ml_L_113 : .methodLink R_L 113 y_L_register ∈ BIG := bm 682 (by decide +kernel) (by decide +kernel)
theorem k_st_L_register : .static y_L_register ∈ BIG := bm 683 (by decide +kernel) (by decide +kernel)
theorem k_co_L_register : .codeWith y_L_register b_L_register 4 (some .int) [(0, 8, 11, 19)] ∈ BIG := bm 684 (by decide +kernel) (by decide +kernel)
theorem k_ml_L_47 : .methodLink R_L 47 y_M_register ∈ BIG := bm 685 (by decide +kernel) (by decide +kernel)
theorem k_im_M_register : .instanceMethod y_M_register ∈ BIG := bm 686 (by decide +kernel) (by decide +kernel)
theorem k_sel_M_register : .selects R_M y_M_register y_M_register ∈ BIG := bm 687 (by decide +kernel) (by decide +kernel)
theorem k_co_M_register : .code y_M_register b_M_register 2 (some .long) ∈ BIG := bm 688 (by decide +kernel) (by decide +kernel)
theorem n_ml_M_167 : .methodLinkNest R_M 167 y_U_load "MadeRunners" ∈ nw_l := nm9 690 (by decide +kernel) (by decide +kernel)
theorem k_ml_L_116 : .methodLink R_L 116 y_L_ended ∈ BIG := bm 691 (by decide +kernel) (by decide +kernel)
theorem k_st_L_ended : .static y_L_ended ∈ BIG := bm 692 (by decide +kernel) (by decide +kernel)
theorem k_co_L_ended : .codeWith y_L_ended b_L_ended 4 (some .int) [(0, 9, 12, 19)] ∈ BIG := bm 693 (by decide +kernel) (by decide +kernel)
theorem k_ml_L_51 : .methodLink R_L 51 y_M_ended ∈ BIG := bm 694 (by decide +kernel) (by decide +kernel)
theorem k_im_M_ended : .instanceMethod y_M_ended ∈ BIG := bm 695 (by decide +kernel) (by decide +kernel)
theorem k_sel_M_ended : .selects R_M y_M_ended y_M_ended ∈ BIG := bm 696 (by decide +kernel) (by decide +kernel)
theorem k_co_M_ended : .code y_M_ended b_M_ended 2 (some .int) ∈ BIG := bm 697 (by decide +kernel) (by decide +kernel)
theorem k_ml_L_119 : .methodLink R_L 119 y_L_same ∈ BIG := bm 698 (by decide +kernel) (by decide +kernel)
theorem k_st_L_same : .static y_L_same ∈ BIG := bm 699 (by decide +kernel) (by decide +kernel)
theorem k_co_L_same : .codeWith y_L_same b_L_same 8 (some .int) [(0, 20, 23, 19), (0, 20, 27, 31)] ∈ BIG := bm 700 (by decide +kernel) (by decide +kernel)
theorem k_ml_L_54 : .methodLink R_L 54 y_M_same ∈ BIG := bm 701 (by decide +kernel) (by decide +kernel)
theorem k_im_M_same : .instanceMethod y_M_same ∈ BIG := bm 702 (by decide +kernel) (by decide +kernel)
theorem k_sel_M_same : .selects R_M y_M_same y_M_same ∈ BIG := bm 703 (by decide +kernel) (by decide +kernel)
theorem k_co_M_same : .code y_M_same b_M_same 7 (some .boolean) ∈ BIG := bm 704 (by decide +kernel) (by decide +kernel)
theorem n_ml_M_180 : .methodLinkNest R_M 180 y_U_didAs "MadeRunners" ∈ nw_l := nm9 706 (by decide +kernel) (by decide +kernel)
theorem k_im_U_didAs : .instanceMethod y_U_didAs ∈ BIG := bm 708 (by decide +kernel) (by decide +kernel)
theorem k_co_U_didAs : .code y_U_didAs b_U_didAs 3 (some .boolean) ∈ BIG := bm 709 (by decide +kernel) (by decide +kernel)
theorem k_cl_L_67 : .classLink R_L 67 R_Z ∈ BIG := bm 710 (by decide +kernel) (by decide +kernel)
theorem k_ins_Z : .instantiable R_Z 26 ∈ BIG := bm 711 (by decide +kernel) (by decide +kernel)
theorem k_ml_L_69 : .methodLink R_L 69 y_Z_init ∈ BIG := bm 712 (by decide +kernel) (by decide +kernel)
theorem k_im_Z_init : .instanceMethod y_Z_init ∈ BIG := bm 713 (by decide +kernel) (by decide +kernel)
theorem k_co_Z_init : .code y_Z_init b_Z_init 2 none ∈ BIG := bm 714 (by decide +kernel) (by decide +kernel)
theorem k_fl_Z_57 : .fieldLink R_Z 57 "MadeRunnersModel" "thrown" "I" ∈ BIG := bm 716 (by decide +kernel) (by decide +kernel)
theorem k_fl_Z_53 : .fieldLink R_Z 53 "MadeRunnersModel" "lives" "I" ∈ BIG := bm 717 (by decide +kernel) (by decide +kernel)
theorem k_fl_Z_60 : .fieldLink R_Z 60 "MadeRunnersModel" "blocks" "I" ∈ BIG := bm 718 (by decide +kernel) (by decide +kernel)
theorem k_fl_Z_96 : .fieldLink R_Z 96 "MadeRunnersModel" "now" "I" ∈ BIG := bm 719 (by decide +kernel) (by decide +kernel)
theorem k_fl_Z_117 : .fieldLink R_Z 117 "MadeRunnersModel" "wrong" "I" ∈ BIG := bm 720 (by decide +kernel) (by decide +kernel)
theorem k_fl_Z_155 : .fieldLink R_Z 155 "MadeRunnersModel" "runs" "I" ∈ BIG := bm 721 (by decide +kernel) (by decide +kernel)
theorem k_fl_Z_158 : .fieldLink R_Z 158 "MadeRunnersModel" "allSteps" "I" ∈ BIG := bm 722 (by decide +kernel) (by decide +kernel)
theorem k_fl_Z_7 : .fieldLink R_Z 7 "MadeRunnersModel" "many" "[I" ∈ BIG := bm 723 (by decide +kernel) (by decide +kernel)
theorem k_fl_Z_13 : .fieldLink R_Z 13 "MadeRunnersModel" "op" "[I" ∈ BIG := bm 724 (by decide +kernel) (by decide +kernel)
theorem k_fl_Z_16 : .fieldLink R_Z 16 "MadeRunnersModel" "a" "[I" ∈ BIG := bm 725 (by decide +kernel) (by decide +kernel)
theorem k_fl_Z_19 : .fieldLink R_Z 19 "MadeRunnersModel" "b" "[I" ∈ BIG := bm 726 (by decide +kernel) (by decide +kernel)
theorem k_fl_Z_22 : .fieldLink R_Z 22 "MadeRunnersModel" "state" "[I" ∈ BIG := bm 727 (by decide +kernel) (by decide +kernel)
theorem k_fl_Z_25 : .fieldLink R_Z 25 "MadeRunnersModel" "generation" "[I" ∈ BIG := bm 728 (by decide +kernel) (by decide +kernel)
theorem k_fl_Z_28 : .fieldLink R_Z 28 "MadeRunnersModel" "size" "[I" ∈ BIG := bm 729 (by decide +kernel) (by decide +kernel)
theorem k_fl_Z_31 : .fieldLink R_Z 31 "MadeRunnersModel" "made" "[I" ∈ BIG := bm 730 (by decide +kernel) (by decide +kernel)
theorem k_fl_Z_34 : .fieldLink R_Z 34 "MadeRunnersModel" "stands" "[I" ∈ BIG := bm 731 (by decide +kernel) (by decide +kernel)
theorem k_fl_Z_37 : .fieldLink R_Z 37 "MadeRunnersModel" "depthAt" "[I" ∈ BIG := bm 732 (by decide +kernel) (by decide +kernel)
theorem k_fl_Z_40 : .fieldLink R_Z 40 "MadeRunnersModel" "\x72" "[J" ∈ BIG := bm 733 (by decide +kernel) (by decide +kernel)
theorem k_fl_Z_44 : .fieldLink R_Z 44 "MadeRunnersModel" "pile" "[J" ∈ BIG := bm 734 (by decide +kernel) (by decide +kernel)
theorem k_fl_Z_124 : .fieldLink R_Z 124 "MadeRunnersModel" "steps" "I" ∈ BIG := bm 735 (by decide +kernel) (by decide +kernel)
theorem k_fl_Z_127 : .fieldLink R_Z 127 "MadeRunnersModel" "ended" "I" ∈ BIG := bm 736 (by decide +kernel) (by decide +kernel)
theorem k_fl_Z_47 : .fieldLink R_Z 47 "MadeRunnersModel" "kept" "[J" ∈ BIG := bm 737 (by decide +kernel) (by decide +kernel)
theorem k_fl_Z_50 : .fieldLink R_Z 50 "MadeRunnersModel" "other" "[J" ∈ BIG := bm 738 (by decide +kernel) (by decide +kernel)
theorem k_fl_Z_152 : .fieldLink R_Z 152 "MadeRunnersModel" "keptEnd" "I" ∈ BIG := bm 739 (by decide +kernel) (by decide +kernel)
theorem k_fl_Z_141 : .fieldLink R_Z 141 "MadeRunnersModel" "keptByBytes" "Z" ∈ BIG := bm 740 (by decide +kernel) (by decide +kernel)
theorem k_fl_Z_78 : .fieldLink R_Z 78 "MadeRunnersModel" "at" "I" ∈ BIG := bm 741 (by decide +kernel) (by decide +kernel)
theorem k_ml_L_74 : .methodLink R_L 74 y_Z_thrown ∈ BIG := bm 795 (by decide +kernel) (by decide +kernel)
theorem k_im_Z_thrown : .instanceMethod y_Z_thrown ∈ BIG := bm 796 (by decide +kernel) (by decide +kernel)
theorem k_sel_Z_thrown : .selects R_Z y_Z_thrown y_Z_thrown ∈ BIG := bm 797 (by decide +kernel) (by decide +kernel)
theorem k_co_Z_thrown : .code y_Z_thrown b_Z_thrown 1 (some .int) ∈ BIG := bm 798 (by decide +kernel) (by decide +kernel)
theorem k_ml_L_73 : .methodLink R_L 73 y_Z_block ∈ BIG := bm 799 (by decide +kernel) (by decide +kernel)
theorem k_im_Z_block : .instanceMethod y_Z_block ∈ BIG := bm 800 (by decide +kernel) (by decide +kernel)
theorem k_sel_Z_block : .selects R_Z y_Z_block y_Z_block ∈ BIG := bm 801 (by decide +kernel) (by decide +kernel)
theorem k_co_Z_block : .code y_Z_block b_Z_block 1 (some .int) ∈ BIG := bm 802 (by decide +kernel) (by decide +kernel)
theorem k_ml_Z_67 : .methodLink R_Z 67 y_Z_fail ∈ BIG := bm 803 (by decide +kernel) (by decide +kernel)
theorem k_im_Z_fail : .instanceMethod y_Z_fail ∈ BIG := bm 805 (by decide +kernel) (by decide +kernel)
theorem k_co_Z_fail : .code y_Z_fail b_Z_fail 2 (some .int) ∈ BIG := bm 806 (by decide +kernel) (by decide +kernel)
theorem k_ml_L_80 : .methodLink R_L 80 y_Z_instruction ∈ BIG := bm 807 (by decide +kernel) (by decide +kernel)
theorem k_im_Z_instruction : .instanceMethod y_Z_instruction ∈ BIG := bm 808 (by decide +kernel) (by decide +kernel)
theorem k_sel_Z_instruction : .selects R_Z y_Z_instruction y_Z_instruction ∈ BIG := bm 809 (by decide +kernel) (by decide +kernel)
theorem k_co_Z_instruction : .code y_Z_instruction b_Z_instruction 6 (some .int) ∈ BIG := bm 810 (by decide +kernel) (by decide +kernel)
theorem k_ml_Z_71 : .methodLink R_Z 71 y_Z_isBlock ∈ BIG := bm 811 (by decide +kernel) (by decide +kernel)
theorem k_im_Z_isBlock : .instanceMethod y_Z_isBlock ∈ BIG := bm 813 (by decide +kernel) (by decide +kernel)
theorem k_co_Z_isBlock : .code y_Z_isBlock b_Z_isBlock 2 (some .boolean) ∈ BIG := bm 814 (by decide +kernel) (by decide +kernel)
theorem k_ml_Z_63 : .methodLink R_Z 63 y_Z_within ∈ BIG := bm 815 (by decide +kernel) (by decide +kernel)
theorem k_st_Z_within : .static y_Z_within ∈ BIG := bm 816 (by decide +kernel) (by decide +kernel)
theorem k_co_Z_within : .code y_Z_within b_Z_within 3 (some .boolean) ∈ BIG := bm 817 (by decide +kernel) (by decide +kernel)
theorem k_ml_Z_75 : .methodLink R_Z 75 y_Z_isInstruction ∈ BIG := bm 818 (by decide +kernel) (by decide +kernel)
theorem k_st_Z_isInstruction : .static y_Z_isInstruction ∈ BIG := bm 819 (by decide +kernel) (by decide +kernel)
theorem k_co_Z_isInstruction : .code y_Z_isInstruction b_Z_isInstruction 3 (some .boolean) ∈ BIG := bm 820 (by decide +kernel) (by decide +kernel)
theorem k_ml_L_84 : .methodLink R_L 84 y_Z_make ∈ BIG := bm 821 (by decide +kernel) (by decide +kernel)
theorem k_im_Z_make : .instanceMethod y_Z_make ∈ BIG := bm 822 (by decide +kernel) (by decide +kernel)
theorem k_sel_Z_make : .selects R_Z y_Z_make y_Z_make ∈ BIG := bm 823 (by decide +kernel) (by decide +kernel)
theorem k_co_Z_make : .code y_Z_make b_Z_make 4 (some .int) ∈ BIG := bm 824 (by decide +kernel) (by decide +kernel)
theorem k_ml_Z_89 : .methodLink R_Z 89 y_Z_bytesOf ∈ BIG := bm 825 (by decide +kernel) (by decide +kernel)
theorem k_st_Z_bytesOf : .static y_Z_bytesOf ∈ BIG := bm 826 (by decide +kernel) (by decide +kernel)
theorem k_co_Z_bytesOf : .code y_Z_bytesOf b_Z_bytesOf 2 (some .int) ∈ BIG := bm 827 (by decide +kernel) (by decide +kernel)
theorem k_ml_Z_93 : .methodLink R_Z 93 y_Z_putInstruction ∈ BIG := bm 828 (by decide +kernel) (by decide +kernel)
theorem k_im_Z_putInstruction : .instanceMethod y_Z_putInstruction ∈ BIG := bm 830 (by decide +kernel) (by decide +kernel)
theorem k_co_Z_putInstruction : .code y_Z_putInstruction b_Z_putInstruction 5 none ∈ BIG := bm 831 (by decide +kernel) (by decide +kernel)
theorem k_ml_Z_85 : .methodLink R_Z 85 y_Z_putTwo ∈ BIG := bm 832 (by decide +kernel) (by decide +kernel)
theorem k_im_Z_putTwo : .instanceMethod y_Z_putTwo ∈ BIG := bm 834 (by decide +kernel) (by decide +kernel)
theorem k_co_Z_putTwo : .code y_Z_putTwo b_Z_putTwo 4 none ∈ BIG := bm 835 (by decide +kernel) (by decide +kernel)
theorem k_ml_Z_81 : .methodLink R_Z 81 y_Z_put ∈ BIG := bm 836 (by decide +kernel) (by decide +kernel)
theorem k_im_Z_put : .instanceMethod y_Z_put ∈ BIG := bm 838 (by decide +kernel) (by decide +kernel)
theorem k_co_Z_put : .code y_Z_put b_Z_put 3 none ∈ BIG := bm 839 (by decide +kernel) (by decide +kernel)
theorem k_ml_L_88 : .methodLink R_L 88 y_Z_byteAt ∈ BIG := bm 840 (by decide +kernel) (by decide +kernel)
theorem k_im_Z_byteAt : .instanceMethod y_Z_byteAt ∈ BIG := bm 841 (by decide +kernel) (by decide +kernel)
theorem k_sel_Z_byteAt : .selects R_Z y_Z_byteAt y_Z_byteAt ∈ BIG := bm 842 (by decide +kernel) (by decide +kernel)
theorem k_co_Z_byteAt : .code y_Z_byteAt b_Z_byteAt 3 (some .int) ∈ BIG := bm 843 (by decide +kernel) (by decide +kernel)
theorem k_ml_L_92 : .methodLink R_L 92 y_Z_alter ∈ BIG := bm 844 (by decide +kernel) (by decide +kernel)
theorem k_im_Z_alter : .instanceMethod y_Z_alter ∈ BIG := bm 845 (by decide +kernel) (by decide +kernel)
theorem k_sel_Z_alter : .selects R_Z y_Z_alter y_Z_alter ∈ BIG := bm 846 (by decide +kernel) (by decide +kernel)
theorem k_co_Z_alter : .code y_Z_alter b_Z_alter 5 (some .int) ∈ BIG := bm 847 (by decide +kernel) (by decide +kernel)
theorem k_ml_L_95 : .methodLink R_L 95 y_Z_check ∈ BIG := bm 848 (by decide +kernel) (by decide +kernel)
theorem k_im_Z_check : .instanceMethod y_Z_check ∈ BIG := bm 849 (by decide +kernel) (by decide +kernel)
theorem k_sel_Z_check : .selects R_Z y_Z_check y_Z_check ∈ BIG := bm 850 (by decide +kernel) (by decide +kernel)
theorem k_co_Z_check : .code y_Z_check b_Z_check 2 (some .int) ∈ BIG := bm 851 (by decide +kernel) (by decide +kernel)
theorem k_ml_Z_114 : .methodLink R_Z 114 y_Z_checkOf ∈ BIG := bm 852 (by decide +kernel) (by decide +kernel)
theorem k_im_Z_checkOf : .instanceMethod y_Z_checkOf ∈ BIG := bm 854 (by decide +kernel) (by decide +kernel)
theorem k_co_Z_checkOf : .code y_Z_checkOf b_Z_checkOf 7 (some .int) ∈ BIG := bm 855 (by decide +kernel) (by decide +kernel)
theorem k_ml_Z_111 : .methodLink R_Z 111 y_Z_checkCodes ∈ BIG := bm 856 (by decide +kernel) (by decide +kernel)
theorem k_im_Z_checkCodes : .instanceMethod y_Z_checkCodes ∈ BIG := bm 858 (by decide +kernel) (by decide +kernel)
theorem k_co_Z_checkCodes : .code y_Z_checkCodes b_Z_checkCodes 7 (some .int) ∈ BIG := bm 859 (by decide +kernel) (by decide +kernel)
theorem k_ml_Z_99 : .methodLink R_Z 99 y_Z_isCode ∈ BIG := bm 860 (by decide +kernel) (by decide +kernel)
theorem k_st_Z_isCode : .static y_Z_isCode ∈ BIG := bm 861 (by decide +kernel) (by decide +kernel)
theorem k_co_Z_isCode : .code y_Z_isCode b_Z_isCode 1 (some .boolean) ∈ BIG := bm 862 (by decide +kernel) (by decide +kernel)
theorem k_ml_Z_102 : .methodLink R_Z 102 y_Z_lengthOf ∈ BIG := bm 863 (by decide +kernel) (by decide +kernel)
theorem k_st_Z_lengthOf : .static y_Z_lengthOf ∈ BIG := bm 864 (by decide +kernel) (by decide +kernel)
theorem k_co_Z_lengthOf : .code y_Z_lengthOf b_Z_lengthOf 1 (some .int) ∈ BIG := bm 865 (by decide +kernel) (by decide +kernel)
theorem k_ml_Z_105 : .methodLink R_Z 105 y_Z_takes ∈ BIG := bm 866 (by decide +kernel) (by decide +kernel)
theorem k_st_Z_takes : .static y_Z_takes ∈ BIG := bm 867 (by decide +kernel) (by decide +kernel)
theorem k_co_Z_takes : .code y_Z_takes b_Z_takes 1 (some .int) ∈ BIG := bm 868 (by decide +kernel) (by decide +kernel)
theorem k_ml_Z_108 : .methodLink R_Z 108 y_Z_puts ∈ BIG := bm 869 (by decide +kernel) (by decide +kernel)
theorem k_st_Z_puts : .static y_Z_puts ∈ BIG := bm 870 (by decide +kernel) (by decide +kernel)
theorem k_co_Z_puts : .code y_Z_puts b_Z_puts 1 (some .int) ∈ BIG := bm 871 (by decide +kernel) (by decide +kernel)
theorem k_ml_L_99 : .methodLink R_L 99 y_Z_border ∈ BIG := bm 872 (by decide +kernel) (by decide +kernel)
theorem k_im_Z_border : .instanceMethod y_Z_border ∈ BIG := bm 873 (by decide +kernel) (by decide +kernel)
theorem k_sel_Z_border : .selects R_Z y_Z_border y_Z_border ∈ BIG := bm 874 (by decide +kernel) (by decide +kernel)
theorem k_co_Z_border : .code y_Z_border b_Z_border 4 (some .int) ∈ BIG := bm 875 (by decide +kernel) (by decide +kernel)
theorem k_ml_L_102 : .methodLink R_L 102 y_Z_what ∈ BIG := bm 876 (by decide +kernel) (by decide +kernel)
theorem k_im_Z_what : .instanceMethod y_Z_what ∈ BIG := bm 877 (by decide +kernel) (by decide +kernel)
theorem k_sel_Z_what : .selects R_Z y_Z_what y_Z_what ∈ BIG := bm 878 (by decide +kernel) (by decide +kernel)
theorem k_co_Z_what : .code y_Z_what b_Z_what 3 (some .int) ∈ BIG := bm 879 (by decide +kernel) (by decide +kernel)
theorem k_ml_L_106 : .methodLink R_L 106 y_Z_next ∈ BIG := bm 880 (by decide +kernel) (by decide +kernel)
theorem k_im_Z_next : .instanceMethod y_Z_next ∈ BIG := bm 881 (by decide +kernel) (by decide +kernel)
theorem k_sel_Z_next : .selects R_Z y_Z_next y_Z_next ∈ BIG := bm 882 (by decide +kernel) (by decide +kernel)
theorem k_co_Z_next : .code y_Z_next b_Z_next 3 (some .int) ∈ BIG := bm 883 (by decide +kernel) (by decide +kernel)
theorem k_ml_Z_120 : .methodLink R_Z 120 y_Z_oldest ∈ BIG := bm 884 (by decide +kernel) (by decide +kernel)
theorem k_im_Z_oldest : .instanceMethod y_Z_oldest ∈ BIG := bm 886 (by decide +kernel) (by decide +kernel)
theorem k_co_Z_oldest : .code y_Z_oldest b_Z_oldest 1 (some .int) ∈ BIG := bm 887 (by decide +kernel) (by decide +kernel)
theorem k_ml_L_112 : .methodLink R_L 112 y_Z_run ∈ BIG := bm 888 (by decide +kernel) (by decide +kernel)
theorem k_im_Z_run : .instanceMethod y_Z_run ∈ BIG := bm 889 (by decide +kernel) (by decide +kernel)
theorem k_sel_Z_run : .selects R_Z y_Z_run y_Z_run ∈ BIG := bm 890 (by decide +kernel) (by decide +kernel)
theorem k_co_Z_run : .code y_Z_run b_Z_run 7 (some .int) ∈ BIG := bm 891 (by decide +kernel) (by decide +kernel)
theorem k_ml_Z_137 : .methodLink R_Z 137 y_Z_begin ∈ BIG := bm 892 (by decide +kernel) (by decide +kernel)
theorem k_im_Z_begin : .instanceMethod y_Z_begin ∈ BIG := bm 894 (by decide +kernel) (by decide +kernel)
theorem k_co_Z_begin : .code y_Z_begin b_Z_begin 5 none ∈ BIG := bm 895 (by decide +kernel) (by decide +kernel)
theorem k_ml_Z_145 : .methodLink R_Z 145 y_Z_runBytes ∈ BIG := bm 896 (by decide +kernel) (by decide +kernel)
theorem k_im_Z_runBytes : .instanceMethod y_Z_runBytes ∈ BIG := bm 898 (by decide +kernel) (by decide +kernel)
theorem k_co_Z_runBytes : .code y_Z_runBytes b_Z_runBytes 8 none ∈ BIG := bm 899 (by decide +kernel) (by decide +kernel)
theorem k_ml_Z_134 : .methodLink R_Z 134 y_Z_pushed ∈ BIG := bm 900 (by decide +kernel) (by decide +kernel)
theorem k_im_Z_pushed : .instanceMethod y_Z_pushed ∈ BIG := bm 902 (by decide +kernel) (by decide +kernel)
theorem k_co_Z_pushed : .code y_Z_pushed b_Z_pushed 2 (some .int) ∈ BIG := bm 903 (by decide +kernel) (by decide +kernel)
theorem k_ml_Z_130 : .methodLink R_Z 130 y_Z_result ∈ BIG := bm 904 (by decide +kernel) (by decide +kernel)
theorem k_st_Z_result : .static y_Z_result ∈ BIG := bm 905 (by decide +kernel) (by decide +kernel)
theorem k_co_Z_result : .code y_Z_result b_Z_result 5 (some .long) ∈ BIG := bm 906 (by decide +kernel) (by decide +kernel)
theorem k_ml_Z_149 : .methodLink R_Z 149 y_Z_runRows ∈ BIG := bm 907 (by decide +kernel) (by decide +kernel)
theorem k_im_Z_runRows : .instanceMethod y_Z_runRows ∈ BIG := bm 909 (by decide +kernel) (by decide +kernel)
theorem k_co_Z_runRows : .code y_Z_runRows b_Z_runRows 5 none ∈ BIG := bm 910 (by decide +kernel) (by decide +kernel)
theorem k_ml_L_115 : .methodLink R_L 115 y_Z_register ∈ BIG := bm 911 (by decide +kernel) (by decide +kernel)
theorem k_im_Z_register : .instanceMethod y_Z_register ∈ BIG := bm 912 (by decide +kernel) (by decide +kernel)
theorem k_sel_Z_register : .selects R_Z y_Z_register y_Z_register ∈ BIG := bm 913 (by decide +kernel) (by decide +kernel)
theorem k_co_Z_register : .code y_Z_register b_Z_register 2 (some .long) ∈ BIG := bm 914 (by decide +kernel) (by decide +kernel)
theorem k_ml_L_118 : .methodLink R_L 118 y_Z_ended ∈ BIG := bm 915 (by decide +kernel) (by decide +kernel)
theorem k_im_Z_ended : .instanceMethod y_Z_ended ∈ BIG := bm 916 (by decide +kernel) (by decide +kernel)
theorem k_sel_Z_ended : .selects R_Z y_Z_ended y_Z_ended ∈ BIG := bm 917 (by decide +kernel) (by decide +kernel)
theorem k_co_Z_ended : .code y_Z_ended b_Z_ended 2 (some .int) ∈ BIG := bm 918 (by decide +kernel) (by decide +kernel)
theorem k_ml_L_121 : .methodLink R_L 121 y_Z_same ∈ BIG := bm 919 (by decide +kernel) (by decide +kernel)
theorem k_im_Z_same : .instanceMethod y_Z_same ∈ BIG := bm 920 (by decide +kernel) (by decide +kernel)
theorem k_sel_Z_same : .selects R_Z y_Z_same y_Z_same ∈ BIG := bm 921 (by decide +kernel) (by decide +kernel)
theorem k_co_Z_same : .code y_Z_same b_Z_same 10 (some .boolean) ∈ BIG := bm 922 (by decide +kernel) (by decide +kernel)
theorem k_ml_L_125 : .methodLink R_L 125 y_Z_count ∈ BIG := bm 923 (by decide +kernel) (by decide +kernel)
theorem k_im_Z_count : .instanceMethod y_Z_count ∈ BIG := bm 924 (by decide +kernel) (by decide +kernel)
theorem k_sel_Z_count : .selects R_Z y_Z_count y_Z_count ∈ BIG := bm 925 (by decide +kernel) (by decide +kernel)
theorem k_co_Z_count : .code y_Z_count b_Z_count 5 (some .int) ∈ BIG := bm 926 (by decide +kernel) (by decide +kernel)
theorem in_B : ∀ w ∈ u_ws R_B T_B 9, w ∈ BIG := fun w hw => List.mem_filter.mpr ⟨(show ∀ w ∈ u_ws R_B T_B 9, w ∈ lw_tbl by decide +kernel) w hw, (show ∀ w ∈ u_ws R_B T_B 9, goodWord w = true by decide +kernel) w hw⟩
theorem in_K : ∀ w ∈ u_ws R_K T_K 1, w ∈ BIG := fun w hw => List.mem_filter.mpr ⟨(show ∀ w ∈ u_ws R_K T_K 1, w ∈ lw_tbl by decide +kernel) w hw, (show ∀ w ∈ u_ws R_K T_K 1, goodWord w = true by decide +kernel) w hw⟩
theorem in_U : ∀ w ∈ u_ws R_U T_U 6, w ∈ BIG := fun w hw => List.mem_filter.mpr ⟨(show ∀ w ∈ u_ws R_U T_U 6, w ∈ lw_tbl by decide +kernel) w hw, (show ∀ w ∈ u_ws R_U T_U 6, goodWord w = true by decide +kernel) w hw⟩
theorem in_M : ∀ w ∈ u_ws R_M T_M 10, w ∈ BIG := fun w hw => List.mem_filter.mpr ⟨(show ∀ w ∈ u_ws R_M T_M 10, w ∈ lw_tbl by decide +kernel) w hw, (show ∀ w ∈ u_ws R_M T_M 10, goodWord w = true by decide +kernel) w hw⟩
theorem in_A : ∀ w ∈ u_ws R_A T_A 3, w ∈ BIG := fun w hw => List.mem_filter.mpr ⟨(show ∀ w ∈ u_ws R_A T_A 3, w ∈ lw_tbl by decide +kernel) w hw, (show ∀ w ∈ u_ws R_A T_A 3, goodWord w = true by decide +kernel) w hw⟩
theorem in_Z : ∀ w ∈ u_ws R_Z T_Z 26, w ∈ BIG := fun w hw => List.mem_filter.mpr ⟨(show ∀ w ∈ u_ws R_Z T_Z 26, w ∈ lw_tbl by decide +kernel) w hw, (show ∀ w ∈ u_ws R_Z T_Z 26, goodWord w = true by decide +kernel) w hw⟩
theorem bigG : ∀ w ∈ BIG, goodWord w = true := fun w h => (List.mem_filter.mp h).2
/-- a call's words: those of the link, and the callee's code ahead of all that is good -/
theorem gBIG {c c2 : Cond} {X : List Cond} (hX : ∀ w ∈ X, w ∈ BIG) (h2 : c2 ∈ BIG) : GoodIn (c :: BIG) (X ++ (c2 :: BIG)) := by
  intro w hw
  have hb : w ∈ BIG := by
    rcases List.mem_append.mp hw with h | h
    · exact hX w h
    · rcases List.mem_cons.mp h with h | h
      · rw [h]; exact h2
      · exact h
  exact ⟨List.mem_cons_of_mem _ hb, good_of_word (bigG w hb)⟩
theorem m4 {a b c d : Cond} (ha : a ∈ BIG) (hb : b ∈ BIG) (hc : c ∈ BIG) (hd : d ∈ BIG) : ∀ w ∈ [a, b, c, d], w ∈ BIG := by
  intro w hw
  simp only [List.mem_cons, List.not_mem_nil, or_false] at hw
  rcases hw with rfl | rfl | rfl | rfl <;> assumption
theorem m3 {a b c : Cond} (ha : a ∈ BIG) (hb : b ∈ BIG) (hc : c ∈ BIG) : ∀ w ∈ [a, b, c], w ∈ BIG := by
  intro w hw
  simp only [List.mem_cons, List.not_mem_nil, or_false] at hw
  rcases hw with rfl | rfl | rfl <;> assumption
end
section
theorem d_B_read_0 : decode b_B_read 0 = .ok (.aload_n 0, 1) := by decide +kernel
theorem d_B_read_1 : decode b_B_read 1 = .ok (.iload_n 1, 1) := by decide +kernel
theorem d_B_read_2 : decode b_B_read 2 = .ok (.invokevirtual 81, 3) := by decide +kernel
theorem d_B_read_5 : decode b_B_read 5 = .ok (.ifCond .eq 12, 3) := by decide +kernel
theorem d_B_read_8 : decode b_B_read 8 = .ok (.aload_n 0, 1) := by decide +kernel
theorem d_B_read_9 : decode b_B_read 9 = .ok (.getfield 24, 3) := by decide +kernel
theorem d_B_read_12 : decode b_B_read 12 = .ok (.iload_n 1, 1) := by decide +kernel
theorem d_B_read_13 : decode b_B_read 13 = .ok (.iaload, 1) := by decide +kernel
theorem d_B_read_14 : decode b_B_read 14 = .ok (.goto 4, 3) := by decide +kernel
theorem d_B_read_17 : decode b_B_read 17 = .ok (.iconst 0, 1) := by decide +kernel
theorem d_B_read_18 : decode b_B_read 18 = .ok (.ireturn, 1) := by decide +kernel
theorem d_B_hasByte_0 : decode b_B_hasByte 0 = .ok (.iload_n 1, 1) := by decide +kernel
theorem d_B_hasByte_1 : decode b_B_hasByte 1 = .ok (.ifCond .lt 22, 3) := by decide +kernel
theorem d_B_hasByte_4 : decode b_B_hasByte 4 = .ok (.iload_n 1, 1) := by decide +kernel
theorem d_B_hasByte_5 : decode b_B_hasByte 5 = .ok (.aload_n 0, 1) := by decide +kernel
theorem d_B_hasByte_6 : decode b_B_hasByte 6 = .ok (.getfield 41, 3) := by decide +kernel
theorem d_B_hasByte_9 : decode b_B_hasByte 9 = .ok (.if_icmp .ge 14, 3) := by decide +kernel
theorem d_B_hasByte_12 : decode b_B_hasByte 12 = .ok (.iload_n 1, 1) := by decide +kernel
theorem d_B_hasByte_13 : decode b_B_hasByte 13 = .ok (.sipush 300, 3) := by decide +kernel
theorem d_B_hasByte_16 : decode b_B_hasByte 16 = .ok (.if_icmp .ge 7, 3) := by decide +kernel
theorem d_B_hasByte_19 : decode b_B_hasByte 19 = .ok (.iconst 1, 1) := by decide +kernel
theorem d_B_hasByte_20 : decode b_B_hasByte 20 = .ok (.goto 4, 3) := by decide +kernel
theorem d_B_hasByte_23 : decode b_B_hasByte 23 = .ok (.iconst 0, 1) := by decide +kernel
theorem d_B_hasByte_24 : decode b_B_hasByte 24 = .ok (.ireturn, 1) := by decide +kernel
theorem d_B_readTwo_0 : decode b_B_readTwo 0 = .ok (.aload_n 0, 1) := by decide +kernel
theorem d_B_readTwo_1 : decode b_B_readTwo 1 = .ok (.iload_n 1, 1) := by decide +kernel
theorem d_B_readTwo_2 : decode b_B_readTwo 2 = .ok (.invokevirtual 84, 3) := by decide +kernel
theorem d_B_readTwo_5 : decode b_B_readTwo 5 = .ok (.bipush 8, 2) := by decide +kernel
theorem d_B_readTwo_7 : decode b_B_readTwo 7 = .ok (.ishl, 1) := by decide +kernel
theorem d_B_readTwo_8 : decode b_B_readTwo 8 = .ok (.aload_n 0, 1) := by decide +kernel
theorem d_B_readTwo_9 : decode b_B_readTwo 9 = .ok (.iload_n 1, 1) := by decide +kernel
theorem d_B_readTwo_10 : decode b_B_readTwo 10 = .ok (.iconst 1, 1) := by decide +kernel
theorem d_B_readTwo_11 : decode b_B_readTwo 11 = .ok (.iadd, 1) := by decide +kernel
theorem d_B_readTwo_12 : decode b_B_readTwo 12 = .ok (.invokevirtual 84, 3) := by decide +kernel
theorem d_B_readTwo_15 : decode b_B_readTwo 15 = .ok (.ior, 1) := by decide +kernel
theorem d_B_readTwo_16 : decode b_B_readTwo 16 = .ok (.ireturn, 1) := by decide +kernel
theorem d_B_becomeRows_0 : decode b_B_becomeRows 0 = .ok (.aload_n 0, 1) := by decide +kernel
theorem d_B_becomeRows_1 : decode b_B_becomeRows 1 = .ok (.iconst 0, 1) := by decide +kernel
theorem d_B_becomeRows_2 : decode b_B_becomeRows 2 = .ok (.putfield 27, 3) := by decide +kernel
theorem d_B_becomeRows_5 : decode b_B_becomeRows 5 = .ok (.aload_n 0, 1) := by decide +kernel
theorem d_B_becomeRows_6 : decode b_B_becomeRows 6 = .ok (.iconst (-1), 1) := by decide +kernel
theorem d_B_becomeRows_7 : decode b_B_becomeRows 7 = .ok (.putfield 31, 3) := by decide +kernel
theorem d_B_becomeRows_10 : decode b_B_becomeRows 10 = .ok (.aload_n 0, 1) := by decide +kernel
theorem d_B_becomeRows_11 : decode b_B_becomeRows 11 = .ok (.iconst 0, 1) := by decide +kernel
theorem d_B_becomeRows_12 : decode b_B_becomeRows 12 = .ok (.putfield 41, 3) := by decide +kernel
theorem d_B_becomeRows_15 : decode b_B_becomeRows 15 = .ok (.return_, 1) := by decide +kernel
theorem d_B_init_0 : decode b_B_init 0 = .ok (.aload_n 0, 1) := by decide +kernel
theorem d_B_init_1 : decode b_B_init 1 = .ok (.invokespecial 3, 3) := by decide +kernel
theorem d_B_init_4 : decode b_B_init 4 = .ok (.aload_n 0, 1) := by decide +kernel
theorem d_B_init_5 : decode b_B_init 5 = .ok (.bipush 60, 2) := by decide +kernel
theorem d_B_init_7 : decode b_B_init 7 = .ok (.newarray .int, 2) := by decide +kernel
theorem d_B_init_9 : decode b_B_init 9 = .ok (.putfield 9, 3) := by decide +kernel
theorem d_B_init_12 : decode b_B_init 12 = .ok (.aload_n 0, 1) := by decide +kernel
theorem d_B_init_13 : decode b_B_init 13 = .ok (.bipush 60, 2) := by decide +kernel
theorem d_B_init_15 : decode b_B_init 15 = .ok (.newarray .int, 2) := by decide +kernel
theorem d_B_init_17 : decode b_B_init 17 = .ok (.putfield 15, 3) := by decide +kernel
theorem d_B_init_20 : decode b_B_init 20 = .ok (.aload_n 0, 1) := by decide +kernel
theorem d_B_init_21 : decode b_B_init 21 = .ok (.bipush 60, 2) := by decide +kernel
theorem d_B_init_23 : decode b_B_init 23 = .ok (.newarray .int, 2) := by decide +kernel
theorem d_B_init_25 : decode b_B_init 25 = .ok (.putfield 18, 3) := by decide +kernel
theorem d_B_init_28 : decode b_B_init 28 = .ok (.aload_n 0, 1) := by decide +kernel
theorem d_B_init_29 : decode b_B_init 29 = .ok (.bipush 61, 2) := by decide +kernel
theorem d_B_init_31 : decode b_B_init 31 = .ok (.newarray .int, 2) := by decide +kernel
theorem d_B_init_33 : decode b_B_init 33 = .ok (.putfield 21, 3) := by decide +kernel
theorem d_B_init_36 : decode b_B_init 36 = .ok (.aload_n 0, 1) := by decide +kernel
theorem d_B_init_37 : decode b_B_init 37 = .ok (.sipush 300, 3) := by decide +kernel
theorem d_B_init_40 : decode b_B_init 40 = .ok (.newarray .int, 2) := by decide +kernel
theorem d_B_init_42 : decode b_B_init 42 = .ok (.putfield 24, 3) := by decide +kernel
theorem d_B_init_45 : decode b_B_init 45 = .ok (.aload_n 0, 1) := by decide +kernel
theorem d_B_init_46 : decode b_B_init 46 = .ok (.iconst 0, 1) := by decide +kernel
theorem d_B_init_47 : decode b_B_init 47 = .ok (.putfield 27, 3) := by decide +kernel
theorem d_B_init_50 : decode b_B_init 50 = .ok (.aload_n 0, 1) := by decide +kernel
theorem d_B_init_51 : decode b_B_init 51 = .ok (.iconst (-1), 1) := by decide +kernel
theorem d_B_init_52 : decode b_B_init 52 = .ok (.putfield 31, 3) := by decide +kernel
theorem d_B_init_55 : decode b_B_init 55 = .ok (.return_, 1) := by decide +kernel
theorem d_B_addInstruction_0 : decode b_B_addInstruction 0 = .ok (.aload_n 0, 1) := by decide +kernel
theorem d_B_addInstruction_1 : decode b_B_addInstruction 1 = .ok (.getfield 34, 3) := by decide +kernel
theorem d_B_addInstruction_4 : decode b_B_addInstruction 4 = .ok (.istore 4, 2) := by decide +kernel
theorem d_B_addInstruction_6 : decode b_B_addInstruction 6 = .ok (.iload 4, 2) := by decide +kernel
theorem d_B_addInstruction_8 : decode b_B_addInstruction 8 = .ok (.bipush 60, 2) := by decide +kernel
theorem d_B_addInstruction_10 : decode b_B_addInstruction 10 = .ok (.if_icmp .lt 4, 3) := by decide +kernel
theorem d_B_addInstruction_13 : decode b_B_addInstruction 13 = .ok (.return_, 1) := by decide +kernel
theorem d_B_addInstruction_14 : decode b_B_addInstruction 14 = .ok (.aload_n 0, 1) := by decide +kernel
theorem d_B_addInstruction_15 : decode b_B_addInstruction 15 = .ok (.getfield 9, 3) := by decide +kernel
theorem d_B_addInstruction_18 : decode b_B_addInstruction 18 = .ok (.iload 4, 2) := by decide +kernel
theorem d_B_addInstruction_20 : decode b_B_addInstruction 20 = .ok (.iload_n 1, 1) := by decide +kernel
theorem d_B_addInstruction_21 : decode b_B_addInstruction 21 = .ok (.iastore, 1) := by decide +kernel
theorem d_B_addInstruction_22 : decode b_B_addInstruction 22 = .ok (.aload_n 0, 1) := by decide +kernel
theorem d_B_addInstruction_23 : decode b_B_addInstruction 23 = .ok (.getfield 15, 3) := by decide +kernel
theorem d_B_addInstruction_26 : decode b_B_addInstruction 26 = .ok (.iload 4, 2) := by decide +kernel
theorem d_B_addInstruction_28 : decode b_B_addInstruction 28 = .ok (.iload_n 2, 1) := by decide +kernel
theorem d_B_addInstruction_29 : decode b_B_addInstruction 29 = .ok (.iastore, 1) := by decide +kernel
theorem d_B_addInstruction_30 : decode b_B_addInstruction 30 = .ok (.aload_n 0, 1) := by decide +kernel
theorem d_B_addInstruction_31 : decode b_B_addInstruction 31 = .ok (.getfield 18, 3) := by decide +kernel
theorem d_B_addInstruction_34 : decode b_B_addInstruction 34 = .ok (.iload 4, 2) := by decide +kernel
theorem d_B_addInstruction_36 : decode b_B_addInstruction 36 = .ok (.iload_n 3, 1) := by decide +kernel
theorem d_B_addInstruction_37 : decode b_B_addInstruction 37 = .ok (.iastore, 1) := by decide +kernel
theorem d_B_addInstruction_38 : decode b_B_addInstruction 38 = .ok (.aload_n 0, 1) := by decide +kernel
theorem d_B_addInstruction_39 : decode b_B_addInstruction 39 = .ok (.getfield 21, 3) := by decide +kernel
theorem d_B_addInstruction_42 : decode b_B_addInstruction 42 = .ok (.iload 4, 2) := by decide +kernel
theorem d_B_addInstruction_44 : decode b_B_addInstruction 44 = .ok (.iconst 1, 1) := by decide +kernel
theorem d_B_addInstruction_45 : decode b_B_addInstruction 45 = .ok (.iadd, 1) := by decide +kernel
theorem d_B_addInstruction_46 : decode b_B_addInstruction 46 = .ok (.aload_n 0, 1) := by decide +kernel
theorem d_B_addInstruction_47 : decode b_B_addInstruction 47 = .ok (.getfield 21, 3) := by decide +kernel
theorem d_B_addInstruction_50 : decode b_B_addInstruction 50 = .ok (.iload 4, 2) := by decide +kernel
theorem d_B_addInstruction_52 : decode b_B_addInstruction 52 = .ok (.iaload, 1) := by decide +kernel
theorem d_B_addInstruction_53 : decode b_B_addInstruction 53 = .ok (.iload_n 1, 1) := by decide +kernel
theorem d_B_addInstruction_54 : decode b_B_addInstruction 54 = .ok (.iload_n 3, 1) := by decide +kernel
theorem d_B_addInstruction_55 : decode b_B_addInstruction 55 = .ok (.invokestatic 37, 3) := by decide +kernel
theorem d_B_addInstruction_58 : decode b_B_addInstruction 58 = .ok (.iadd, 1) := by decide +kernel
theorem d_B_addInstruction_59 : decode b_B_addInstruction 59 = .ok (.iastore, 1) := by decide +kernel
theorem d_B_addInstruction_60 : decode b_B_addInstruction 60 = .ok (.aload_n 0, 1) := by decide +kernel
theorem d_B_addInstruction_61 : decode b_B_addInstruction 61 = .ok (.iload 4, 2) := by decide +kernel
theorem d_B_addInstruction_63 : decode b_B_addInstruction 63 = .ok (.iconst 1, 1) := by decide +kernel
theorem d_B_addInstruction_64 : decode b_B_addInstruction 64 = .ok (.iadd, 1) := by decide +kernel
theorem d_B_addInstruction_65 : decode b_B_addInstruction 65 = .ok (.putfield 34, 3) := by decide +kernel
theorem d_B_addInstruction_68 : decode b_B_addInstruction 68 = .ok (.return_, 1) := by decide +kernel
theorem d_B_bytesFor_0 : decode b_B_bytesFor 0 = .ok (.iload_n 0, 1) := by decide +kernel
theorem d_B_bytesFor_1 : decode b_B_bytesFor 1 = .ok (.lookupswitch 78 #[(0, 35), (6, 57), (7, 68)], 35) := by decide +kernel
theorem d_B_bytesFor_36 : decode b_B_bytesFor 36 = .ok (.iload_n 1, 1) := by decide +kernel
theorem d_B_bytesFor_37 : decode b_B_bytesFor 37 = .ok (.invokestatic 69, 3) := by decide +kernel
theorem d_B_bytesFor_40 : decode b_B_bytesFor 40 = .ok (.ifCond .eq 8, 3) := by decide +kernel
theorem d_B_bytesFor_43 : decode b_B_bytesFor 43 = .ok (.bipush 16, 2) := by decide +kernel
theorem d_B_bytesFor_45 : decode b_B_bytesFor 45 = .ok (.goto 4, 3) := by decide +kernel
theorem d_B_bytesFor_48 : decode b_B_bytesFor 48 = .ok (.iconst 3, 1) := by decide +kernel
theorem d_B_bytesFor_49 : decode b_B_bytesFor 49 = .ok (.invokestatic 48, 3) := by decide +kernel
theorem d_B_bytesFor_52 : decode b_B_bytesFor 52 = .ok (.iconst 2, 1) := by decide +kernel
theorem d_B_bytesFor_53 : decode b_B_bytesFor 53 = .ok (.invokestatic 48, 3) := by decide +kernel
theorem d_B_bytesFor_56 : decode b_B_bytesFor 56 = .ok (.iadd, 1) := by decide +kernel
theorem d_B_bytesFor_57 : decode b_B_bytesFor 57 = .ok (.ireturn, 1) := by decide +kernel
theorem d_B_bytesFor_58 : decode b_B_bytesFor 58 = .ok (.iconst 1, 1) := by decide +kernel
theorem d_B_bytesFor_59 : decode b_B_bytesFor 59 = .ok (.invokestatic 48, 3) := by decide +kernel
theorem d_B_bytesFor_62 : decode b_B_bytesFor 62 = .ok (.bipush 9, 2) := by decide +kernel
theorem d_B_bytesFor_64 : decode b_B_bytesFor 64 = .ok (.invokestatic 48, 3) := by decide +kernel
theorem d_B_bytesFor_67 : decode b_B_bytesFor 67 = .ok (.iadd, 1) := by decide +kernel
theorem d_B_bytesFor_68 : decode b_B_bytesFor 68 = .ok (.ireturn, 1) := by decide +kernel
theorem d_B_bytesFor_69 : decode b_B_bytesFor 69 = .ok (.iconst 1, 1) := by decide +kernel
theorem d_B_bytesFor_70 : decode b_B_bytesFor 70 = .ok (.invokestatic 48, 3) := by decide +kernel
theorem d_B_bytesFor_73 : decode b_B_bytesFor 73 = .ok (.iconst 2, 1) := by decide +kernel
theorem d_B_bytesFor_74 : decode b_B_bytesFor 74 = .ok (.invokestatic 48, 3) := by decide +kernel
theorem d_B_bytesFor_77 : decode b_B_bytesFor 77 = .ok (.iadd, 1) := by decide +kernel
theorem d_B_bytesFor_78 : decode b_B_bytesFor 78 = .ok (.ireturn, 1) := by decide +kernel
theorem d_B_bytesFor_79 : decode b_B_bytesFor 79 = .ok (.iconst 2, 1) := by decide +kernel
theorem d_B_bytesFor_80 : decode b_B_bytesFor 80 = .ok (.iconst 1, 1) := by decide +kernel
theorem d_B_bytesFor_81 : decode b_B_bytesFor 81 = .ok (.invokestatic 48, 3) := by decide +kernel
theorem d_B_bytesFor_84 : decode b_B_bytesFor 84 = .ok (.imul, 1) := by decide +kernel
theorem d_B_bytesFor_85 : decode b_B_bytesFor 85 = .ok (.iload_n 0, 1) := by decide +kernel
theorem d_B_bytesFor_86 : decode b_B_bytesFor 86 = .ok (.iconst 3, 1) := by decide +kernel
theorem d_B_bytesFor_87 : decode b_B_bytesFor 87 = .ok (.iadd, 1) := by decide +kernel
theorem d_B_bytesFor_88 : decode b_B_bytesFor 88 = .ok (.invokestatic 48, 3) := by decide +kernel
theorem d_B_bytesFor_91 : decode b_B_bytesFor 91 = .ok (.iadd, 1) := by decide +kernel
theorem d_B_bytesFor_92 : decode b_B_bytesFor 92 = .ok (.iconst 2, 1) := by decide +kernel
theorem d_B_bytesFor_93 : decode b_B_bytesFor 93 = .ok (.invokestatic 48, 3) := by decide +kernel
theorem d_B_bytesFor_96 : decode b_B_bytesFor 96 = .ok (.iadd, 1) := by decide +kernel
theorem d_B_bytesFor_97 : decode b_B_bytesFor 97 = .ok (.ireturn, 1) := by decide +kernel
theorem d_B_fitsOneByte_0 : decode b_B_fitsOneByte 0 = .ok (.iload_n 0, 1) := by decide +kernel
theorem d_B_fitsOneByte_1 : decode b_B_fitsOneByte 1 = .ok (.bipush (-128), 2) := by decide +kernel
theorem d_B_fitsOneByte_3 : decode b_B_fitsOneByte 3 = .ok (.if_icmp .lt 13, 3) := by decide +kernel
theorem d_B_fitsOneByte_6 : decode b_B_fitsOneByte 6 = .ok (.iload_n 0, 1) := by decide +kernel
theorem d_B_fitsOneByte_7 : decode b_B_fitsOneByte 7 = .ok (.bipush 127, 2) := by decide +kernel
theorem d_B_fitsOneByte_9 : decode b_B_fitsOneByte 9 = .ok (.if_icmp .gt 7, 3) := by decide +kernel
theorem d_B_fitsOneByte_12 : decode b_B_fitsOneByte 12 = .ok (.iconst 1, 1) := by decide +kernel
theorem d_B_fitsOneByte_13 : decode b_B_fitsOneByte 13 = .ok (.goto 4, 3) := by decide +kernel
theorem d_B_fitsOneByte_16 : decode b_B_fitsOneByte 16 = .ok (.iconst 0, 1) := by decide +kernel
theorem d_B_fitsOneByte_17 : decode b_B_fitsOneByte 17 = .ok (.ireturn, 1) := by decide +kernel
theorem d_B_canBeMade_0 : decode b_B_canBeMade 0 = .ok (.aload_n 0, 1) := by decide +kernel
theorem d_B_canBeMade_1 : decode b_B_canBeMade 1 = .ok (.aload_n 0, 1) := by decide +kernel
theorem d_B_canBeMade_2 : decode b_B_canBeMade 2 = .ok (.getfield 34, 3) := by decide +kernel
theorem d_B_canBeMade_5 : decode b_B_canBeMade 5 = .ok (.invokevirtual 44, 3) := by decide +kernel
theorem d_B_canBeMade_8 : decode b_B_canBeMade 8 = .ok (.bipush 10, 2) := by decide +kernel
theorem d_B_canBeMade_10 : decode b_B_canBeMade 10 = .ok (.invokestatic 48, 3) := by decide +kernel
theorem d_B_canBeMade_13 : decode b_B_canBeMade 13 = .ok (.iadd, 1) := by decide +kernel
theorem d_B_canBeMade_14 : decode b_B_canBeMade 14 = .ok (.sipush 300, 3) := by decide +kernel
theorem d_B_canBeMade_17 : decode b_B_canBeMade 17 = .ok (.if_icmp .gt 7, 3) := by decide +kernel
theorem d_B_canBeMade_20 : decode b_B_canBeMade 20 = .ok (.iconst 1, 1) := by decide +kernel
theorem d_B_canBeMade_21 : decode b_B_canBeMade 21 = .ok (.goto 4, 3) := by decide +kernel
theorem d_B_canBeMade_24 : decode b_B_canBeMade 24 = .ok (.iconst 0, 1) := by decide +kernel
theorem d_B_canBeMade_25 : decode b_B_canBeMade 25 = .ok (.ireturn, 1) := by decide +kernel
theorem d_B_startOf_0 : decode b_B_startOf 0 = .ok (.iconst 0, 1) := by decide +kernel
theorem d_B_startOf_1 : decode b_B_startOf 1 = .ok (.iload_n 1, 1) := by decide +kernel
theorem d_B_startOf_2 : decode b_B_startOf 2 = .ok (.aload_n 0, 1) := by decide +kernel
theorem d_B_startOf_3 : decode b_B_startOf 3 = .ok (.getfield 34, 3) := by decide +kernel
theorem d_B_startOf_6 : decode b_B_startOf 6 = .ok (.invokestatic 73, 3) := by decide +kernel
theorem d_B_startOf_9 : decode b_B_startOf 9 = .ok (.invokestatic 78, 3) := by decide +kernel
theorem d_B_startOf_12 : decode b_B_startOf 12 = .ok (.istore_n 2, 1) := by decide +kernel
theorem d_B_startOf_13 : decode b_B_startOf 13 = .ok (.iload_n 2, 1) := by decide +kernel
theorem d_B_startOf_14 : decode b_B_startOf 14 = .ok (.aload_n 0, 1) := by decide +kernel
theorem d_B_startOf_15 : decode b_B_startOf 15 = .ok (.getfield 21, 3) := by decide +kernel
theorem d_B_startOf_18 : decode b_B_startOf 18 = .ok (.arraylength, 1) := by decide +kernel
theorem d_B_startOf_19 : decode b_B_startOf 19 = .ok (.if_icmp .ge 12, 3) := by decide +kernel
theorem d_B_startOf_22 : decode b_B_startOf 22 = .ok (.aload_n 0, 1) := by decide +kernel
theorem d_B_startOf_23 : decode b_B_startOf 23 = .ok (.getfield 21, 3) := by decide +kernel
theorem d_B_startOf_26 : decode b_B_startOf 26 = .ok (.iload_n 2, 1) := by decide +kernel
theorem d_B_startOf_27 : decode b_B_startOf 27 = .ok (.iaload, 1) := by decide +kernel
theorem d_B_startOf_28 : decode b_B_startOf 28 = .ok (.goto 4, 3) := by decide +kernel
theorem d_B_startOf_31 : decode b_B_startOf 31 = .ok (.iconst 0, 1) := by decide +kernel
theorem d_B_startOf_32 : decode b_B_startOf 32 = .ok (.ireturn, 1) := by decide +kernel
theorem d_B_writeBytes_0 : decode b_B_writeBytes 0 = .ok (.aload_n 0, 1) := by decide +kernel
theorem d_B_writeBytes_1 : decode b_B_writeBytes 1 = .ok (.iconst 0, 1) := by decide +kernel
theorem d_B_writeBytes_2 : decode b_B_writeBytes 2 = .ok (.putfield 41, 3) := by decide +kernel
theorem d_B_writeBytes_5 : decode b_B_writeBytes 5 = .ok (.iconst 0, 1) := by decide +kernel
theorem d_B_writeBytes_6 : decode b_B_writeBytes 6 = .ok (.istore_n 1, 1) := by decide +kernel
theorem d_B_writeBytes_7 : decode b_B_writeBytes 7 = .ok (.iload_n 1, 1) := by decide +kernel
theorem d_B_writeBytes_8 : decode b_B_writeBytes 8 = .ok (.aload_n 0, 1) := by decide +kernel
theorem d_B_writeBytes_9 : decode b_B_writeBytes 9 = .ok (.getfield 34, 3) := by decide +kernel
theorem d_B_writeBytes_12 : decode b_B_writeBytes 12 = .ok (.if_icmp .ge 37, 3) := by decide +kernel
theorem d_B_writeBytes_15 : decode b_B_writeBytes 15 = .ok (.iload_n 1, 1) := by decide +kernel
theorem d_B_writeBytes_16 : decode b_B_writeBytes 16 = .ok (.bipush 60, 2) := by decide +kernel
theorem d_B_writeBytes_18 : decode b_B_writeBytes 18 = .ok (.if_icmp .ge 31, 3) := by decide +kernel
theorem d_B_writeBytes_21 : decode b_B_writeBytes 21 = .ok (.aload_n 0, 1) := by decide +kernel
theorem d_B_writeBytes_22 : decode b_B_writeBytes 22 = .ok (.aload_n 0, 1) := by decide +kernel
theorem d_B_writeBytes_23 : decode b_B_writeBytes 23 = .ok (.getfield 9, 3) := by decide +kernel
theorem d_B_writeBytes_26 : decode b_B_writeBytes 26 = .ok (.iload_n 1, 1) := by decide +kernel
theorem d_B_writeBytes_27 : decode b_B_writeBytes 27 = .ok (.iaload, 1) := by decide +kernel
theorem d_B_writeBytes_28 : decode b_B_writeBytes 28 = .ok (.aload_n 0, 1) := by decide +kernel
theorem d_B_writeBytes_29 : decode b_B_writeBytes 29 = .ok (.getfield 15, 3) := by decide +kernel
theorem d_B_writeBytes_32 : decode b_B_writeBytes 32 = .ok (.iload_n 1, 1) := by decide +kernel
theorem d_B_writeBytes_33 : decode b_B_writeBytes 33 = .ok (.iaload, 1) := by decide +kernel
theorem d_B_writeBytes_34 : decode b_B_writeBytes 34 = .ok (.aload_n 0, 1) := by decide +kernel
theorem d_B_writeBytes_35 : decode b_B_writeBytes 35 = .ok (.getfield 18, 3) := by decide +kernel
theorem d_B_writeBytes_38 : decode b_B_writeBytes 38 = .ok (.iload_n 1, 1) := by decide +kernel
theorem d_B_writeBytes_39 : decode b_B_writeBytes 39 = .ok (.iaload, 1) := by decide +kernel
theorem d_B_writeBytes_40 : decode b_B_writeBytes 40 = .ok (.invokevirtual 51, 3) := by decide +kernel
theorem d_B_writeBytes_43 : decode b_B_writeBytes 43 = .ok (.iinc 1 1, 3) := by decide +kernel
theorem d_B_writeBytes_46 : decode b_B_writeBytes 46 = .ok (.goto (-39), 3) := by decide +kernel
theorem d_B_writeBytes_49 : decode b_B_writeBytes 49 = .ok (.aload_n 0, 1) := by decide +kernel
theorem d_B_writeBytes_50 : decode b_B_writeBytes 50 = .ok (.bipush 10, 2) := by decide +kernel
theorem d_B_writeBytes_52 : decode b_B_writeBytes 52 = .ok (.invokevirtual 55, 3) := by decide +kernel
theorem d_B_writeBytes_55 : decode b_B_writeBytes 55 = .ok (.return_, 1) := by decide +kernel
theorem d_B_writeInstruction_0 : decode b_B_writeInstruction 0 = .ok (.iload_n 1, 1) := by decide +kernel
theorem d_B_writeInstruction_1 : decode b_B_writeInstruction 1 = .ok (.lookupswitch 82 #[(0, 35), (6, 49), (7, 67)], 35) := by decide +kernel
theorem d_B_writeInstruction_36 : decode b_B_writeInstruction 36 = .ok (.aload_n 0, 1) := by decide +kernel
theorem d_B_writeInstruction_37 : decode b_B_writeInstruction 37 = .ok (.iload_n 3, 1) := by decide +kernel
theorem d_B_writeInstruction_38 : decode b_B_writeInstruction 38 = .ok (.invokevirtual 59, 3) := by decide +kernel
theorem d_B_writeInstruction_41 : decode b_B_writeInstruction 41 = .ok (.aload_n 0, 1) := by decide +kernel
theorem d_B_writeInstruction_42 : decode b_B_writeInstruction 42 = .ok (.iconst 2, 1) := by decide +kernel
theorem d_B_writeInstruction_43 : decode b_B_writeInstruction 43 = .ok (.iload_n 2, 1) := by decide +kernel
theorem d_B_writeInstruction_44 : decode b_B_writeInstruction 44 = .ok (.invokevirtual 62, 3) := by decide +kernel
theorem d_B_writeInstruction_47 : decode b_B_writeInstruction 47 = .ok (.goto 61, 3) := by decide +kernel
theorem d_B_writeInstruction_50 : decode b_B_writeInstruction 50 = .ok (.aload_n 0, 1) := by decide +kernel
theorem d_B_writeInstruction_51 : decode b_B_writeInstruction 51 = .ok (.iconst 1, 1) := by decide +kernel
theorem d_B_writeInstruction_52 : decode b_B_writeInstruction 52 = .ok (.iload_n 2, 1) := by decide +kernel
theorem d_B_writeInstruction_53 : decode b_B_writeInstruction 53 = .ok (.invokevirtual 62, 3) := by decide +kernel
theorem d_B_writeInstruction_56 : decode b_B_writeInstruction 56 = .ok (.aload_n 0, 1) := by decide +kernel
theorem d_B_writeInstruction_57 : decode b_B_writeInstruction 57 = .ok (.aload_n 0, 1) := by decide +kernel
theorem d_B_writeInstruction_58 : decode b_B_writeInstruction 58 = .ok (.iload_n 3, 1) := by decide +kernel
theorem d_B_writeInstruction_59 : decode b_B_writeInstruction 59 = .ok (.invokevirtual 44, 3) := by decide +kernel
theorem d_B_writeInstruction_62 : decode b_B_writeInstruction 62 = .ok (.invokevirtual 66, 3) := by decide +kernel
theorem d_B_writeInstruction_65 : decode b_B_writeInstruction 65 = .ok (.goto 43, 3) := by decide +kernel
theorem d_B_writeInstruction_68 : decode b_B_writeInstruction 68 = .ok (.aload_n 0, 1) := by decide +kernel
theorem d_B_writeInstruction_69 : decode b_B_writeInstruction 69 = .ok (.iconst 1, 1) := by decide +kernel
theorem d_B_writeInstruction_70 : decode b_B_writeInstruction 70 = .ok (.iload_n 3, 1) := by decide +kernel
theorem d_B_writeInstruction_71 : decode b_B_writeInstruction 71 = .ok (.invokevirtual 62, 3) := by decide +kernel
theorem d_B_writeInstruction_74 : decode b_B_writeInstruction 74 = .ok (.aload_n 0, 1) := by decide +kernel
theorem d_B_writeInstruction_75 : decode b_B_writeInstruction 75 = .ok (.iconst 2, 1) := by decide +kernel
theorem d_B_writeInstruction_76 : decode b_B_writeInstruction 76 = .ok (.iload_n 2, 1) := by decide +kernel
theorem d_B_writeInstruction_77 : decode b_B_writeInstruction 77 = .ok (.invokevirtual 62, 3) := by decide +kernel
theorem d_B_writeInstruction_80 : decode b_B_writeInstruction 80 = .ok (.goto 28, 3) := by decide +kernel
theorem d_B_writeInstruction_83 : decode b_B_writeInstruction 83 = .ok (.aload_n 0, 1) := by decide +kernel
theorem d_B_writeInstruction_84 : decode b_B_writeInstruction 84 = .ok (.iconst 1, 1) := by decide +kernel
theorem d_B_writeInstruction_85 : decode b_B_writeInstruction 85 = .ok (.iload_n 2, 1) := by decide +kernel
theorem d_B_writeInstruction_86 : decode b_B_writeInstruction 86 = .ok (.invokevirtual 62, 3) := by decide +kernel
theorem d_B_writeInstruction_89 : decode b_B_writeInstruction 89 = .ok (.aload_n 0, 1) := by decide +kernel
theorem d_B_writeInstruction_90 : decode b_B_writeInstruction 90 = .ok (.iconst 1, 1) := by decide +kernel
theorem d_B_writeInstruction_91 : decode b_B_writeInstruction 91 = .ok (.iload_n 3, 1) := by decide +kernel
theorem d_B_writeInstruction_92 : decode b_B_writeInstruction 92 = .ok (.invokevirtual 62, 3) := by decide +kernel
theorem d_B_writeInstruction_95 : decode b_B_writeInstruction 95 = .ok (.aload_n 0, 1) := by decide +kernel
theorem d_B_writeInstruction_96 : decode b_B_writeInstruction 96 = .ok (.iload_n 1, 1) := by decide +kernel
theorem d_B_writeInstruction_97 : decode b_B_writeInstruction 97 = .ok (.iconst 3, 1) := by decide +kernel
theorem d_B_writeInstruction_98 : decode b_B_writeInstruction 98 = .ok (.iadd, 1) := by decide +kernel
theorem d_B_writeInstruction_99 : decode b_B_writeInstruction 99 = .ok (.invokevirtual 55, 3) := by decide +kernel
theorem d_B_writeInstruction_102 : decode b_B_writeInstruction 102 = .ok (.aload_n 0, 1) := by decide +kernel
theorem d_B_writeInstruction_103 : decode b_B_writeInstruction 103 = .ok (.iconst 2, 1) := by decide +kernel
theorem d_B_writeInstruction_104 : decode b_B_writeInstruction 104 = .ok (.iload_n 2, 1) := by decide +kernel
theorem d_B_writeInstruction_105 : decode b_B_writeInstruction 105 = .ok (.invokevirtual 62, 3) := by decide +kernel
theorem d_B_writeInstruction_108 : decode b_B_writeInstruction 108 = .ok (.return_, 1) := by decide +kernel
theorem d_B_writePush_0 : decode b_B_writePush 0 = .ok (.iload_n 1, 1) := by decide +kernel
theorem d_B_writePush_1 : decode b_B_writePush 1 = .ok (.invokestatic 69, 3) := by decide +kernel
theorem d_B_writePush_4 : decode b_B_writePush 4 = .ok (.ifCond .eq 15, 3) := by decide +kernel
theorem d_B_writePush_7 : decode b_B_writePush 7 = .ok (.aload_n 0, 1) := by decide +kernel
theorem d_B_writePush_8 : decode b_B_writePush 8 = .ok (.bipush 16, 2) := by decide +kernel
theorem d_B_writePush_10 : decode b_B_writePush 10 = .ok (.invokevirtual 55, 3) := by decide +kernel
theorem d_B_writePush_13 : decode b_B_writePush 13 = .ok (.aload_n 0, 1) := by decide +kernel
theorem d_B_writePush_14 : decode b_B_writePush 14 = .ok (.iload_n 1, 1) := by decide +kernel
theorem d_B_writePush_15 : decode b_B_writePush 15 = .ok (.invokevirtual 55, 3) := by decide +kernel
theorem d_B_writePush_18 : decode b_B_writePush 18 = .ok (.return_, 1) := by decide +kernel
theorem d_B_writePush_19 : decode b_B_writePush 19 = .ok (.aload_n 0, 1) := by decide +kernel
theorem d_B_writePush_20 : decode b_B_writePush 20 = .ok (.iconst 3, 1) := by decide +kernel
theorem d_B_writePush_21 : decode b_B_writePush 21 = .ok (.invokevirtual 55, 3) := by decide +kernel
theorem d_B_writePush_24 : decode b_B_writePush 24 = .ok (.aload_n 0, 1) := by decide +kernel
theorem d_B_writePush_25 : decode b_B_writePush 25 = .ok (.iload_n 1, 1) := by decide +kernel
theorem d_B_writePush_26 : decode b_B_writePush 26 = .ok (.bipush 24, 2) := by decide +kernel
theorem d_B_writePush_28 : decode b_B_writePush 28 = .ok (.ishr, 1) := by decide +kernel
theorem d_B_writePush_29 : decode b_B_writePush 29 = .ok (.invokevirtual 55, 3) := by decide +kernel
theorem d_B_writePush_32 : decode b_B_writePush 32 = .ok (.aload_n 0, 1) := by decide +kernel
theorem d_B_writePush_33 : decode b_B_writePush 33 = .ok (.iload_n 1, 1) := by decide +kernel
theorem d_B_writePush_34 : decode b_B_writePush 34 = .ok (.bipush 16, 2) := by decide +kernel
theorem d_B_writePush_36 : decode b_B_writePush 36 = .ok (.ishr, 1) := by decide +kernel
theorem d_B_writePush_37 : decode b_B_writePush 37 = .ok (.invokevirtual 55, 3) := by decide +kernel
theorem d_B_writePush_40 : decode b_B_writePush 40 = .ok (.aload_n 0, 1) := by decide +kernel
theorem d_B_writePush_41 : decode b_B_writePush 41 = .ok (.iload_n 1, 1) := by decide +kernel
theorem d_B_writePush_42 : decode b_B_writePush 42 = .ok (.bipush 8, 2) := by decide +kernel
theorem d_B_writePush_44 : decode b_B_writePush 44 = .ok (.ishr, 1) := by decide +kernel
theorem d_B_writePush_45 : decode b_B_writePush 45 = .ok (.invokevirtual 55, 3) := by decide +kernel
theorem d_B_writePush_48 : decode b_B_writePush 48 = .ok (.aload_n 0, 1) := by decide +kernel
theorem d_B_writePush_49 : decode b_B_writePush 49 = .ok (.iload_n 1, 1) := by decide +kernel
theorem d_B_writePush_50 : decode b_B_writePush 50 = .ok (.invokevirtual 55, 3) := by decide +kernel
theorem d_B_writePush_53 : decode b_B_writePush 53 = .ok (.return_, 1) := by decide +kernel
theorem d_B_append_0 : decode b_B_append 0 = .ok (.aload_n 0, 1) := by decide +kernel
theorem d_B_append_1 : decode b_B_append 1 = .ok (.getfield 41, 3) := by decide +kernel
theorem d_B_append_4 : decode b_B_append 4 = .ok (.sipush 300, 3) := by decide +kernel
theorem d_B_append_7 : decode b_B_append 7 = .ok (.if_icmp .ge 27, 3) := by decide +kernel
theorem d_B_append_10 : decode b_B_append 10 = .ok (.aload_n 0, 1) := by decide +kernel
theorem d_B_append_11 : decode b_B_append 11 = .ok (.getfield 24, 3) := by decide +kernel
theorem d_B_append_14 : decode b_B_append 14 = .ok (.aload_n 0, 1) := by decide +kernel
theorem d_B_append_15 : decode b_B_append 15 = .ok (.getfield 41, 3) := by decide +kernel
theorem d_B_append_18 : decode b_B_append 18 = .ok (.iload_n 1, 1) := by decide +kernel
theorem d_B_append_19 : decode b_B_append 19 = .ok (.sipush 255, 3) := by decide +kernel
theorem d_B_append_22 : decode b_B_append 22 = .ok (.iand, 1) := by decide +kernel
theorem d_B_append_23 : decode b_B_append 23 = .ok (.iastore, 1) := by decide +kernel
theorem d_B_append_24 : decode b_B_append 24 = .ok (.aload_n 0, 1) := by decide +kernel
theorem d_B_append_25 : decode b_B_append 25 = .ok (.dup, 1) := by decide +kernel
theorem d_B_append_26 : decode b_B_append 26 = .ok (.getfield 41, 3) := by decide +kernel
theorem d_B_append_29 : decode b_B_append 29 = .ok (.iconst 1, 1) := by decide +kernel
theorem d_B_append_30 : decode b_B_append 30 = .ok (.iadd, 1) := by decide +kernel
theorem d_B_append_31 : decode b_B_append 31 = .ok (.putfield 41, 3) := by decide +kernel
theorem d_B_append_34 : decode b_B_append 34 = .ok (.return_, 1) := by decide +kernel
theorem d_B_writeWithRegister_0 : decode b_B_writeWithRegister 0 = .ok (.aload_n 0, 1) := by decide +kernel
theorem d_B_writeWithRegister_1 : decode b_B_writeWithRegister 1 = .ok (.iload_n 1, 1) := by decide +kernel
theorem d_B_writeWithRegister_2 : decode b_B_writeWithRegister 2 = .ok (.invokevirtual 55, 3) := by decide +kernel
theorem d_B_writeWithRegister_5 : decode b_B_writeWithRegister 5 = .ok (.aload_n 0, 1) := by decide +kernel
theorem d_B_writeWithRegister_6 : decode b_B_writeWithRegister 6 = .ok (.iload_n 2, 1) := by decide +kernel
theorem d_B_writeWithRegister_7 : decode b_B_writeWithRegister 7 = .ok (.invokevirtual 55, 3) := by decide +kernel
theorem d_B_writeWithRegister_10 : decode b_B_writeWithRegister 10 = .ok (.return_, 1) := by decide +kernel
theorem d_B_writeBranch_0 : decode b_B_writeBranch 0 = .ok (.aload_n 0, 1) := by decide +kernel
theorem d_B_writeBranch_1 : decode b_B_writeBranch 1 = .ok (.bipush 9, 2) := by decide +kernel
theorem d_B_writeBranch_3 : decode b_B_writeBranch 3 = .ok (.invokevirtual 55, 3) := by decide +kernel
theorem d_B_writeBranch_6 : decode b_B_writeBranch 6 = .ok (.aload_n 0, 1) := by decide +kernel
theorem d_B_writeBranch_7 : decode b_B_writeBranch 7 = .ok (.iload_n 1, 1) := by decide +kernel
theorem d_B_writeBranch_8 : decode b_B_writeBranch 8 = .ok (.bipush 8, 2) := by decide +kernel
theorem d_B_writeBranch_10 : decode b_B_writeBranch 10 = .ok (.ishr, 1) := by decide +kernel
theorem d_B_writeBranch_11 : decode b_B_writeBranch 11 = .ok (.invokevirtual 55, 3) := by decide +kernel
theorem d_B_writeBranch_14 : decode b_B_writeBranch 14 = .ok (.aload_n 0, 1) := by decide +kernel
theorem d_B_writeBranch_15 : decode b_B_writeBranch 15 = .ok (.iload_n 1, 1) := by decide +kernel
theorem d_B_writeBranch_16 : decode b_B_writeBranch 16 = .ok (.invokevirtual 55, 3) := by decide +kernel
theorem d_B_writeBranch_19 : decode b_B_writeBranch 19 = .ok (.return_, 1) := by decide +kernel
theorem d_B_overwrite_0 : decode b_B_overwrite 0 = .ok (.aload_n 0, 1) := by decide +kernel
theorem d_B_overwrite_1 : decode b_B_overwrite 1 = .ok (.iload_n 1, 1) := by decide +kernel
theorem d_B_overwrite_2 : decode b_B_overwrite 2 = .ok (.invokevirtual 81, 3) := by decide +kernel
theorem d_B_overwrite_5 : decode b_B_overwrite 5 = .ok (.ifCond .eq 10, 3) := by decide +kernel
theorem d_B_overwrite_8 : decode b_B_overwrite 8 = .ok (.aload_n 0, 1) := by decide +kernel
theorem d_B_overwrite_9 : decode b_B_overwrite 9 = .ok (.getfield 24, 3) := by decide +kernel
theorem d_B_overwrite_12 : decode b_B_overwrite 12 = .ok (.iload_n 1, 1) := by decide +kernel
theorem d_B_overwrite_13 : decode b_B_overwrite 13 = .ok (.iload_n 2, 1) := by decide +kernel
theorem d_B_overwrite_14 : decode b_B_overwrite 14 = .ok (.iastore, 1) := by decide +kernel
theorem d_B_overwrite_15 : decode b_B_overwrite 15 = .ok (.return_, 1) := by decide +kernel
theorem d_B_readFour_0 : decode b_B_readFour 0 = .ok (.aload_n 0, 1) := by decide +kernel
theorem d_B_readFour_1 : decode b_B_readFour 1 = .ok (.iload_n 1, 1) := by decide +kernel
theorem d_B_readFour_2 : decode b_B_readFour 2 = .ok (.invokevirtual 87, 3) := by decide +kernel
theorem d_B_readFour_5 : decode b_B_readFour 5 = .ok (.bipush 16, 2) := by decide +kernel
theorem d_B_readFour_7 : decode b_B_readFour 7 = .ok (.ishl, 1) := by decide +kernel
theorem d_B_readFour_8 : decode b_B_readFour 8 = .ok (.aload_n 0, 1) := by decide +kernel
theorem d_B_readFour_9 : decode b_B_readFour 9 = .ok (.iload_n 1, 1) := by decide +kernel
theorem d_B_readFour_10 : decode b_B_readFour 10 = .ok (.iconst 2, 1) := by decide +kernel
theorem d_B_readFour_11 : decode b_B_readFour 11 = .ok (.iadd, 1) := by decide +kernel
theorem d_B_readFour_12 : decode b_B_readFour 12 = .ok (.invokevirtual 87, 3) := by decide +kernel
theorem d_B_readFour_15 : decode b_B_readFour 15 = .ok (.ior, 1) := by decide +kernel
theorem d_B_readFour_16 : decode b_B_readFour 16 = .ok (.ireturn, 1) := by decide +kernel
end
section
theorem d_K_init_0 : decode b_K_init 0 = .ok (.aload_n 0, 1) := by decide +kernel
theorem d_K_init_1 : decode b_K_init 1 = .ok (.invokespecial 3, 3) := by decide +kernel
theorem d_K_init_4 : decode b_K_init 4 = .ok (.aload_n 0, 1) := by decide +kernel
theorem d_K_init_5 : decode b_K_init 5 = .ok (.sipush 300, 3) := by decide +kernel
theorem d_K_init_8 : decode b_K_init 8 = .ok (.newarray .int, 2) := by decide +kernel
theorem d_K_init_10 : decode b_K_init 10 = .ok (.putfield 9, 3) := by decide +kernel
theorem d_K_init_13 : decode b_K_init 13 = .ok (.return_, 1) := by decide +kernel
theorem d_K_verdictOn_0 : decode b_K_verdictOn 0 = .ok (.aload_n 0, 1) := by decide +kernel
theorem d_K_verdictOn_1 : decode b_K_verdictOn 1 = .ok (.aload_n 1, 1) := by decide +kernel
theorem d_K_verdictOn_2 : decode b_K_verdictOn 2 = .ok (.invokevirtual 15, 3) := by decide +kernel
theorem d_K_verdictOn_5 : decode b_K_verdictOn 5 = .ok (.istore_n 2, 1) := by decide +kernel
theorem d_K_verdictOn_6 : decode b_K_verdictOn 6 = .ok (.iload_n 2, 1) := by decide +kernel
theorem d_K_verdictOn_7 : decode b_K_verdictOn 7 = .ok (.ifCond .ne 11, 3) := by decide +kernel
theorem d_K_verdictOn_10 : decode b_K_verdictOn 10 = .ok (.aload_n 0, 1) := by decide +kernel
theorem d_K_verdictOn_11 : decode b_K_verdictOn 11 = .ok (.aload_n 1, 1) := by decide +kernel
theorem d_K_verdictOn_12 : decode b_K_verdictOn 12 = .ok (.invokevirtual 19, 3) := by decide +kernel
theorem d_K_verdictOn_15 : decode b_K_verdictOn 15 = .ok (.goto 4, 3) := by decide +kernel
theorem d_K_verdictOn_18 : decode b_K_verdictOn 18 = .ok (.iload_n 2, 1) := by decide +kernel
theorem d_K_verdictOn_19 : decode b_K_verdictOn 19 = .ok (.ireturn, 1) := by decide +kernel
theorem d_K_verdictOnCodes_0 : decode b_K_verdictOnCodes 0 = .ok (.aload_n 0, 1) := by decide +kernel
theorem d_K_verdictOnCodes_1 : decode b_K_verdictOnCodes 1 = .ok (.getfield 9, 3) := by decide +kernel
theorem d_K_verdictOnCodes_4 : decode b_K_verdictOnCodes 4 = .ok (.iconst (-1), 1) := by decide +kernel
theorem d_K_verdictOnCodes_5 : decode b_K_verdictOnCodes 5 = .ok (.invokestatic 22, 3) := by decide +kernel
theorem d_K_verdictOnCodes_8 : decode b_K_verdictOnCodes 8 = .ok (.iconst 0, 1) := by decide +kernel
theorem d_K_verdictOnCodes_9 : decode b_K_verdictOnCodes 9 = .ok (.istore_n 2, 1) := by decide +kernel
theorem d_K_verdictOnCodes_10 : decode b_K_verdictOnCodes 10 = .ok (.iconst 0, 1) := by decide +kernel
theorem d_K_verdictOnCodes_11 : decode b_K_verdictOnCodes 11 = .ok (.istore_n 3, 1) := by decide +kernel
theorem d_K_verdictOnCodes_12 : decode b_K_verdictOnCodes 12 = .ok (.iload_n 3, 1) := by decide +kernel
theorem d_K_verdictOnCodes_13 : decode b_K_verdictOnCodes 13 = .ok (.aload_n 1, 1) := by decide +kernel
theorem d_K_verdictOnCodes_14 : decode b_K_verdictOnCodes 14 = .ok (.getfield 28, 3) := by decide +kernel
theorem d_K_verdictOnCodes_17 : decode b_K_verdictOnCodes 17 = .ok (.if_icmp .ge 108, 3) := by decide +kernel
theorem d_K_verdictOnCodes_20 : decode b_K_verdictOnCodes 20 = .ok (.iload_n 3, 1) := by decide +kernel
theorem d_K_verdictOnCodes_21 : decode b_K_verdictOnCodes 21 = .ok (.sipush 300, 3) := by decide +kernel
theorem d_K_verdictOnCodes_24 : decode b_K_verdictOnCodes 24 = .ok (.if_icmp .ge 101, 3) := by decide +kernel
theorem d_K_verdictOnCodes_27 : decode b_K_verdictOnCodes 27 = .ok (.aload_n 1, 1) := by decide +kernel
theorem d_K_verdictOnCodes_28 : decode b_K_verdictOnCodes 28 = .ok (.iload_n 3, 1) := by decide +kernel
theorem d_K_verdictOnCodes_29 : decode b_K_verdictOnCodes 29 = .ok (.invokevirtual 34, 3) := by decide +kernel
theorem d_K_verdictOnCodes_32 : decode b_K_verdictOnCodes 32 = .ok (.istore 4, 2) := by decide +kernel
theorem d_K_verdictOnCodes_34 : decode b_K_verdictOnCodes 34 = .ok (.iload 4, 2) := by decide +kernel
theorem d_K_verdictOnCodes_36 : decode b_K_verdictOnCodes 36 = .ok (.invokestatic 38, 3) := by decide +kernel
theorem d_K_verdictOnCodes_39 : decode b_K_verdictOnCodes 39 = .ok (.istore 5, 2) := by decide +kernel
theorem d_K_verdictOnCodes_41 : decode b_K_verdictOnCodes 41 = .ok (.iload 5, 2) := by decide +kernel
theorem d_K_verdictOnCodes_43 : decode b_K_verdictOnCodes 43 = .ok (.iconst 1, 1) := by decide +kernel
theorem d_K_verdictOnCodes_44 : decode b_K_verdictOnCodes 44 = .ok (.if_icmp .lt 22, 3) := by decide +kernel
theorem d_K_verdictOnCodes_47 : decode b_K_verdictOnCodes 47 = .ok (.aload_n 1, 1) := by decide +kernel
theorem d_K_verdictOnCodes_48 : decode b_K_verdictOnCodes 48 = .ok (.iload_n 3, 1) := by decide +kernel
theorem d_K_verdictOnCodes_49 : decode b_K_verdictOnCodes 49 = .ok (.iload 4, 2) := by decide +kernel
theorem d_K_verdictOnCodes_51 : decode b_K_verdictOnCodes 51 = .ok (.invokestatic 41, 3) := by decide +kernel
theorem d_K_verdictOnCodes_54 : decode b_K_verdictOnCodes 54 = .ok (.ifCond .eq 12, 3) := by decide +kernel
theorem d_K_verdictOnCodes_57 : decode b_K_verdictOnCodes 57 = .ok (.iload_n 2, 1) := by decide +kernel
theorem d_K_verdictOnCodes_58 : decode b_K_verdictOnCodes 58 = .ok (.iload 4, 2) := by decide +kernel
theorem d_K_verdictOnCodes_60 : decode b_K_verdictOnCodes 60 = .ok (.invokestatic 45, 3) := by decide +kernel
theorem d_K_verdictOnCodes_63 : decode b_K_verdictOnCodes 63 = .ok (.if_icmp .ge 8, 3) := by decide +kernel
theorem d_K_verdictOnCodes_66 : decode b_K_verdictOnCodes 66 = .ok (.iload_n 3, 1) := by decide +kernel
theorem d_K_verdictOnCodes_67 : decode b_K_verdictOnCodes 67 = .ok (.invokestatic 48, 3) := by decide +kernel
theorem d_K_verdictOnCodes_70 : decode b_K_verdictOnCodes 70 = .ok (.ireturn, 1) := by decide +kernel
theorem d_K_verdictOnCodes_71 : decode b_K_verdictOnCodes 71 = .ok (.aload_n 0, 1) := by decide +kernel
theorem d_K_verdictOnCodes_72 : decode b_K_verdictOnCodes 72 = .ok (.getfield 9, 3) := by decide +kernel
theorem d_K_verdictOnCodes_75 : decode b_K_verdictOnCodes 75 = .ok (.iload_n 3, 1) := by decide +kernel
theorem d_K_verdictOnCodes_76 : decode b_K_verdictOnCodes 76 = .ok (.iload_n 2, 1) := by decide +kernel
theorem d_K_verdictOnCodes_77 : decode b_K_verdictOnCodes 77 = .ok (.iastore, 1) := by decide +kernel
theorem d_K_verdictOnCodes_78 : decode b_K_verdictOnCodes 78 = .ok (.iload 4, 2) := by decide +kernel
theorem d_K_verdictOnCodes_80 : decode b_K_verdictOnCodes 80 = .ok (.bipush 10, 2) := by decide +kernel
theorem d_K_verdictOnCodes_82 : decode b_K_verdictOnCodes 82 = .ok (.if_icmp .ne 11, 3) := by decide +kernel
theorem d_K_verdictOnCodes_85 : decode b_K_verdictOnCodes 85 = .ok (.aload_n 0, 1) := by decide +kernel
theorem d_K_verdictOnCodes_86 : decode b_K_verdictOnCodes 86 = .ok (.aload_n 1, 1) := by decide +kernel
theorem d_K_verdictOnCodes_87 : decode b_K_verdictOnCodes 87 = .ok (.iload_n 3, 1) := by decide +kernel
theorem d_K_verdictOnCodes_88 : decode b_K_verdictOnCodes 88 = .ok (.iload_n 2, 1) := by decide +kernel
theorem d_K_verdictOnCodes_89 : decode b_K_verdictOnCodes 89 = .ok (.invokevirtual 51, 3) := by decide +kernel
theorem d_K_verdictOnCodes_92 : decode b_K_verdictOnCodes 92 = .ok (.ireturn, 1) := by decide +kernel
theorem d_K_verdictOnCodes_93 : decode b_K_verdictOnCodes 93 = .ok (.iload_n 2, 1) := by decide +kernel
theorem d_K_verdictOnCodes_94 : decode b_K_verdictOnCodes 94 = .ok (.iload 4, 2) := by decide +kernel
theorem d_K_verdictOnCodes_96 : decode b_K_verdictOnCodes 96 = .ok (.invokestatic 45, 3) := by decide +kernel
theorem d_K_verdictOnCodes_99 : decode b_K_verdictOnCodes 99 = .ok (.isub, 1) := by decide +kernel
theorem d_K_verdictOnCodes_100 : decode b_K_verdictOnCodes 100 = .ok (.iload 4, 2) := by decide +kernel
theorem d_K_verdictOnCodes_102 : decode b_K_verdictOnCodes 102 = .ok (.invokestatic 55, 3) := by decide +kernel
theorem d_K_verdictOnCodes_105 : decode b_K_verdictOnCodes 105 = .ok (.iadd, 1) := by decide +kernel
theorem d_K_verdictOnCodes_106 : decode b_K_verdictOnCodes 106 = .ok (.istore_n 2, 1) := by decide +kernel
theorem d_K_verdictOnCodes_107 : decode b_K_verdictOnCodes 107 = .ok (.iload_n 2, 1) := by decide +kernel
theorem d_K_verdictOnCodes_108 : decode b_K_verdictOnCodes 108 = .ok (.iconst 4, 1) := by decide +kernel
theorem d_K_verdictOnCodes_109 : decode b_K_verdictOnCodes 109 = .ok (.if_icmp .le 8, 3) := by decide +kernel
theorem d_K_verdictOnCodes_112 : decode b_K_verdictOnCodes 112 = .ok (.iload_n 3, 1) := by decide +kernel
theorem d_K_verdictOnCodes_113 : decode b_K_verdictOnCodes 113 = .ok (.invokestatic 48, 3) := by decide +kernel
theorem d_K_verdictOnCodes_116 : decode b_K_verdictOnCodes 116 = .ok (.ireturn, 1) := by decide +kernel
theorem d_K_verdictOnCodes_117 : decode b_K_verdictOnCodes 117 = .ok (.iload_n 3, 1) := by decide +kernel
theorem d_K_verdictOnCodes_118 : decode b_K_verdictOnCodes 118 = .ok (.iload 5, 2) := by decide +kernel
theorem d_K_verdictOnCodes_120 : decode b_K_verdictOnCodes 120 = .ok (.iadd, 1) := by decide +kernel
theorem d_K_verdictOnCodes_121 : decode b_K_verdictOnCodes 121 = .ok (.istore_n 3, 1) := by decide +kernel
theorem d_K_verdictOnCodes_122 : decode b_K_verdictOnCodes 122 = .ok (.goto (-110), 3) := by decide +kernel
theorem d_K_verdictOnCodes_125 : decode b_K_verdictOnCodes 125 = .ok (.aload_n 1, 1) := by decide +kernel
theorem d_K_verdictOnCodes_126 : decode b_K_verdictOnCodes 126 = .ok (.getfield 28, 3) := by decide +kernel
theorem d_K_verdictOnCodes_129 : decode b_K_verdictOnCodes 129 = .ok (.invokestatic 48, 3) := by decide +kernel
theorem d_K_verdictOnCodes_132 : decode b_K_verdictOnCodes 132 = .ok (.ireturn, 1) := by decide +kernel
theorem d_K_standsWhole_0 : decode b_K_standsWhole 0 = .ok (.iload_n 1, 1) := by decide +kernel
theorem d_K_standsWhole_1 : decode b_K_standsWhole 1 = .ok (.iload_n 2, 1) := by decide +kernel
theorem d_K_standsWhole_2 : decode b_K_standsWhole 2 = .ok (.invokestatic 38, 3) := by decide +kernel
theorem d_K_standsWhole_5 : decode b_K_standsWhole 5 = .ok (.iadd, 1) := by decide +kernel
theorem d_K_standsWhole_6 : decode b_K_standsWhole 6 = .ok (.aload_n 0, 1) := by decide +kernel
theorem d_K_standsWhole_7 : decode b_K_standsWhole 7 = .ok (.getfield 28, 3) := by decide +kernel
theorem d_K_standsWhole_10 : decode b_K_standsWhole 10 = .ok (.if_icmp .le 5, 3) := by decide +kernel
theorem d_K_standsWhole_13 : decode b_K_standsWhole 13 = .ok (.iconst 0, 1) := by decide +kernel
theorem d_K_standsWhole_14 : decode b_K_standsWhole 14 = .ok (.ireturn, 1) := by decide +kernel
theorem d_K_standsWhole_15 : decode b_K_standsWhole 15 = .ok (.iload_n 2, 1) := by decide +kernel
theorem d_K_standsWhole_16 : decode b_K_standsWhole 16 = .ok (.iconst 1, 1) := by decide +kernel
theorem d_K_standsWhole_17 : decode b_K_standsWhole 17 = .ok (.if_icmp .eq 8, 3) := by decide +kernel
theorem d_K_standsWhole_20 : decode b_K_standsWhole 20 = .ok (.iload_n 2, 1) := by decide +kernel
theorem d_K_standsWhole_21 : decode b_K_standsWhole 21 = .ok (.iconst 2, 1) := by decide +kernel
theorem d_K_standsWhole_22 : decode b_K_standsWhole 22 = .ok (.if_icmp .ne 7, 3) := by decide +kernel
theorem d_K_standsWhole_25 : decode b_K_standsWhole 25 = .ok (.iconst 1, 1) := by decide +kernel
theorem d_K_standsWhole_26 : decode b_K_standsWhole 26 = .ok (.goto 4, 3) := by decide +kernel
theorem d_K_standsWhole_29 : decode b_K_standsWhole 29 = .ok (.iconst 0, 1) := by decide +kernel
theorem d_K_standsWhole_30 : decode b_K_standsWhole 30 = .ok (.istore_n 3, 1) := by decide +kernel
theorem d_K_standsWhole_31 : decode b_K_standsWhole 31 = .ok (.iload_n 3, 1) := by decide +kernel
theorem d_K_standsWhole_32 : decode b_K_standsWhole 32 = .ok (.ifCond .eq 16, 3) := by decide +kernel
theorem d_K_standsWhole_35 : decode b_K_standsWhole 35 = .ok (.aload_n 0, 1) := by decide +kernel
theorem d_K_standsWhole_36 : decode b_K_standsWhole 36 = .ok (.iload_n 1, 1) := by decide +kernel
theorem d_K_standsWhole_37 : decode b_K_standsWhole 37 = .ok (.iconst 1, 1) := by decide +kernel
theorem d_K_standsWhole_38 : decode b_K_standsWhole 38 = .ok (.iadd, 1) := by decide +kernel
theorem d_K_standsWhole_39 : decode b_K_standsWhole 39 = .ok (.invokevirtual 34, 3) := by decide +kernel
theorem d_K_standsWhole_42 : decode b_K_standsWhole 42 = .ok (.invokestatic 65, 3) := by decide +kernel
theorem d_K_standsWhole_45 : decode b_K_standsWhole 45 = .ok (.ifCond .eq 7, 3) := by decide +kernel
theorem d_K_standsWhole_48 : decode b_K_standsWhole 48 = .ok (.iconst 1, 1) := by decide +kernel
theorem d_K_standsWhole_49 : decode b_K_standsWhole 49 = .ok (.goto 4, 3) := by decide +kernel
theorem d_K_standsWhole_52 : decode b_K_standsWhole 52 = .ok (.iconst 0, 1) := by decide +kernel
theorem d_K_standsWhole_53 : decode b_K_standsWhole 53 = .ok (.ireturn, 1) := by decide +kernel
theorem d_K_takenBy_0 : decode b_K_takenBy 0 = .ok (.iload_n 0, 1) := by decide +kernel
theorem d_K_takenBy_1 : decode b_K_takenBy 1 = .ok (.tableswitch 51 2 9 #[47, 51, 49, 49, 49, 49, 49, 47], 47) := by decide +kernel
theorem d_K_takenBy_48 : decode b_K_takenBy 48 = .ok (.iconst 1, 1) := by decide +kernel
theorem d_K_takenBy_49 : decode b_K_takenBy 49 = .ok (.ireturn, 1) := by decide +kernel
theorem d_K_takenBy_50 : decode b_K_takenBy 50 = .ok (.iconst 2, 1) := by decide +kernel
theorem d_K_takenBy_51 : decode b_K_takenBy 51 = .ok (.ireturn, 1) := by decide +kernel
theorem d_K_takenBy_52 : decode b_K_takenBy 52 = .ok (.iconst 0, 1) := by decide +kernel
theorem d_K_takenBy_53 : decode b_K_takenBy 53 = .ok (.ireturn, 1) := by decide +kernel
theorem d_K_wrongAt_0 : decode b_K_wrongAt 0 = .ok (.iconst 1, 1) := by decide +kernel
theorem d_K_wrongAt_1 : decode b_K_wrongAt 1 = .ok (.iload_n 0, 1) := by decide +kernel
theorem d_K_wrongAt_2 : decode b_K_wrongAt 2 = .ok (.iadd, 1) := by decide +kernel
theorem d_K_wrongAt_3 : decode b_K_wrongAt 3 = .ok (.ireturn, 1) := by decide +kernel
theorem d_K_verdictOnEnd_0 : decode b_K_verdictOnEnd 0 = .ok (.iload_n 3, 1) := by decide +kernel
theorem d_K_verdictOnEnd_1 : decode b_K_verdictOnEnd 1 = .ok (.ifCond .eq 8, 3) := by decide +kernel
theorem d_K_verdictOnEnd_4 : decode b_K_verdictOnEnd 4 = .ok (.iload_n 2, 1) := by decide +kernel
theorem d_K_verdictOnEnd_5 : decode b_K_verdictOnEnd 5 = .ok (.invokestatic 48, 3) := by decide +kernel
theorem d_K_verdictOnEnd_8 : decode b_K_verdictOnEnd 8 = .ok (.ireturn, 1) := by decide +kernel
theorem d_K_verdictOnEnd_9 : decode b_K_verdictOnEnd 9 = .ok (.iload_n 2, 1) := by decide +kernel
theorem d_K_verdictOnEnd_10 : decode b_K_verdictOnEnd 10 = .ok (.iconst 1, 1) := by decide +kernel
theorem d_K_verdictOnEnd_11 : decode b_K_verdictOnEnd 11 = .ok (.iadd, 1) := by decide +kernel
theorem d_K_verdictOnEnd_12 : decode b_K_verdictOnEnd 12 = .ok (.aload_n 1, 1) := by decide +kernel
theorem d_K_verdictOnEnd_13 : decode b_K_verdictOnEnd 13 = .ok (.getfield 28, 3) := by decide +kernel
theorem d_K_verdictOnEnd_16 : decode b_K_verdictOnEnd 16 = .ok (.if_icmp .ge 12, 3) := by decide +kernel
theorem d_K_verdictOnEnd_19 : decode b_K_verdictOnEnd 19 = .ok (.iload_n 2, 1) := by decide +kernel
theorem d_K_verdictOnEnd_20 : decode b_K_verdictOnEnd 20 = .ok (.iconst 1, 1) := by decide +kernel
theorem d_K_verdictOnEnd_21 : decode b_K_verdictOnEnd 21 = .ok (.iadd, 1) := by decide +kernel
theorem d_K_verdictOnEnd_22 : decode b_K_verdictOnEnd 22 = .ok (.invokestatic 48, 3) := by decide +kernel
theorem d_K_verdictOnEnd_25 : decode b_K_verdictOnEnd 25 = .ok (.goto 4, 3) := by decide +kernel
theorem d_K_verdictOnEnd_28 : decode b_K_verdictOnEnd 28 = .ok (.iconst 0, 1) := by decide +kernel
theorem d_K_verdictOnEnd_29 : decode b_K_verdictOnEnd 29 = .ok (.ireturn, 1) := by decide +kernel
theorem d_K_addedBy_0 : decode b_K_addedBy 0 = .ok (.iload_n 0, 1) := by decide +kernel
theorem d_K_addedBy_1 : decode b_K_addedBy 1 = .ok (.lookupswitch 37 #[(2, 35), (9, 35), (10, 35)], 35) := by decide +kernel
theorem d_K_addedBy_36 : decode b_K_addedBy 36 = .ok (.iconst 0, 1) := by decide +kernel
theorem d_K_addedBy_37 : decode b_K_addedBy 37 = .ok (.ireturn, 1) := by decide +kernel
theorem d_K_addedBy_38 : decode b_K_addedBy 38 = .ok (.iconst 1, 1) := by decide +kernel
theorem d_K_addedBy_39 : decode b_K_addedBy 39 = .ok (.ireturn, 1) := by decide +kernel
theorem d_K_verdictOnBranches_0 : decode b_K_verdictOnBranches 0 = .ok (.iconst 0, 1) := by decide +kernel
theorem d_K_verdictOnBranches_1 : decode b_K_verdictOnBranches 1 = .ok (.istore_n 2, 1) := by decide +kernel
theorem d_K_verdictOnBranches_2 : decode b_K_verdictOnBranches 2 = .ok (.iload_n 2, 1) := by decide +kernel
theorem d_K_verdictOnBranches_3 : decode b_K_verdictOnBranches 3 = .ok (.aload_n 1, 1) := by decide +kernel
theorem d_K_verdictOnBranches_4 : decode b_K_verdictOnBranches 4 = .ok (.getfield 28, 3) := by decide +kernel
theorem d_K_verdictOnBranches_7 : decode b_K_verdictOnBranches 7 = .ok (.if_icmp .ge 79, 3) := by decide +kernel
theorem d_K_verdictOnBranches_10 : decode b_K_verdictOnBranches 10 = .ok (.iload_n 2, 1) := by decide +kernel
theorem d_K_verdictOnBranches_11 : decode b_K_verdictOnBranches 11 = .ok (.sipush 300, 3) := by decide +kernel
theorem d_K_verdictOnBranches_14 : decode b_K_verdictOnBranches 14 = .ok (.if_icmp .ge 72, 3) := by decide +kernel
theorem d_K_verdictOnBranches_17 : decode b_K_verdictOnBranches 17 = .ok (.aload_n 0, 1) := by decide +kernel
theorem d_K_verdictOnBranches_18 : decode b_K_verdictOnBranches 18 = .ok (.getfield 9, 3) := by decide +kernel
theorem d_K_verdictOnBranches_21 : decode b_K_verdictOnBranches 21 = .ok (.iload_n 2, 1) := by decide +kernel
theorem d_K_verdictOnBranches_22 : decode b_K_verdictOnBranches 22 = .ok (.iaload, 1) := by decide +kernel
theorem d_K_verdictOnBranches_23 : decode b_K_verdictOnBranches 23 = .ok (.iconst (-1), 1) := by decide +kernel
theorem d_K_verdictOnBranches_24 : decode b_K_verdictOnBranches 24 = .ok (.if_icmp .eq 17, 3) := by decide +kernel
theorem d_K_verdictOnBranches_27 : decode b_K_verdictOnBranches 27 = .ok (.aload_n 1, 1) := by decide +kernel
theorem d_K_verdictOnBranches_28 : decode b_K_verdictOnBranches 28 = .ok (.iload_n 2, 1) := by decide +kernel
theorem d_K_verdictOnBranches_29 : decode b_K_verdictOnBranches 29 = .ok (.invokevirtual 34, 3) := by decide +kernel
theorem d_K_verdictOnBranches_32 : decode b_K_verdictOnBranches 32 = .ok (.bipush 9, 2) := by decide +kernel
theorem d_K_verdictOnBranches_34 : decode b_K_verdictOnBranches 34 = .ok (.if_icmp .ne 7, 3) := by decide +kernel
theorem d_K_verdictOnBranches_37 : decode b_K_verdictOnBranches 37 = .ok (.iconst 1, 1) := by decide +kernel
theorem d_K_verdictOnBranches_38 : decode b_K_verdictOnBranches 38 = .ok (.goto 4, 3) := by decide +kernel
theorem d_K_verdictOnBranches_41 : decode b_K_verdictOnBranches 41 = .ok (.iconst 0, 1) := by decide +kernel
theorem d_K_verdictOnBranches_42 : decode b_K_verdictOnBranches 42 = .ok (.istore_n 3, 1) := by decide +kernel
theorem d_K_verdictOnBranches_43 : decode b_K_verdictOnBranches 43 = .ok (.iload_n 3, 1) := by decide +kernel
theorem d_K_verdictOnBranches_44 : decode b_K_verdictOnBranches 44 = .ok (.ifCond .eq 36, 3) := by decide +kernel
theorem d_K_verdictOnBranches_47 : decode b_K_verdictOnBranches 47 = .ok (.aload_n 0, 1) := by decide +kernel
theorem d_K_verdictOnBranches_48 : decode b_K_verdictOnBranches 48 = .ok (.getfield 9, 3) := by decide +kernel
theorem d_K_verdictOnBranches_51 : decode b_K_verdictOnBranches 51 = .ok (.iload_n 2, 1) := by decide +kernel
theorem d_K_verdictOnBranches_52 : decode b_K_verdictOnBranches 52 = .ok (.iaload, 1) := by decide +kernel
theorem d_K_verdictOnBranches_53 : decode b_K_verdictOnBranches 53 = .ok (.bipush 9, 2) := by decide +kernel
theorem d_K_verdictOnBranches_55 : decode b_K_verdictOnBranches 55 = .ok (.invokestatic 45, 3) := by decide +kernel
theorem d_K_verdictOnBranches_58 : decode b_K_verdictOnBranches 58 = .ok (.if_icmp .ne 17, 3) := by decide +kernel
theorem d_K_verdictOnBranches_61 : decode b_K_verdictOnBranches 61 = .ok (.aload_n 0, 1) := by decide +kernel
theorem d_K_verdictOnBranches_62 : decode b_K_verdictOnBranches 62 = .ok (.aload_n 1, 1) := by decide +kernel
theorem d_K_verdictOnBranches_63 : decode b_K_verdictOnBranches 63 = .ok (.iload_n 2, 1) := by decide +kernel
theorem d_K_verdictOnBranches_64 : decode b_K_verdictOnBranches 64 = .ok (.iconst 1, 1) := by decide +kernel
theorem d_K_verdictOnBranches_65 : decode b_K_verdictOnBranches 65 = .ok (.iadd, 1) := by decide +kernel
theorem d_K_verdictOnBranches_66 : decode b_K_verdictOnBranches 66 = .ok (.invokevirtual 58, 3) := by decide +kernel
theorem d_K_verdictOnBranches_69 : decode b_K_verdictOnBranches 69 = .ok (.invokevirtual 61, 3) := by decide +kernel
theorem d_K_verdictOnBranches_72 : decode b_K_verdictOnBranches 72 = .ok (.ifCond .ne 8, 3) := by decide +kernel
theorem d_K_verdictOnBranches_75 : decode b_K_verdictOnBranches 75 = .ok (.iload_n 2, 1) := by decide +kernel
theorem d_K_verdictOnBranches_76 : decode b_K_verdictOnBranches 76 = .ok (.invokestatic 48, 3) := by decide +kernel
theorem d_K_verdictOnBranches_79 : decode b_K_verdictOnBranches 79 = .ok (.ireturn, 1) := by decide +kernel
theorem d_K_verdictOnBranches_80 : decode b_K_verdictOnBranches 80 = .ok (.iinc 2 1, 3) := by decide +kernel
theorem d_K_verdictOnBranches_83 : decode b_K_verdictOnBranches 83 = .ok (.goto (-81), 3) := by decide +kernel
theorem d_K_verdictOnBranches_86 : decode b_K_verdictOnBranches 86 = .ok (.iconst 0, 1) := by decide +kernel
theorem d_K_verdictOnBranches_87 : decode b_K_verdictOnBranches 87 = .ok (.ireturn, 1) := by decide +kernel
theorem d_K_isGoal_0 : decode b_K_isGoal 0 = .ok (.iload_n 1, 1) := by decide +kernel
theorem d_K_isGoal_1 : decode b_K_isGoal 1 = .ok (.ifCond .lt 23, 3) := by decide +kernel
theorem d_K_isGoal_4 : decode b_K_isGoal 4 = .ok (.iload_n 1, 1) := by decide +kernel
theorem d_K_isGoal_5 : decode b_K_isGoal 5 = .ok (.sipush 300, 3) := by decide +kernel
theorem d_K_isGoal_8 : decode b_K_isGoal 8 = .ok (.if_icmp .ge 16, 3) := by decide +kernel
theorem d_K_isGoal_11 : decode b_K_isGoal 11 = .ok (.aload_n 0, 1) := by decide +kernel
theorem d_K_isGoal_12 : decode b_K_isGoal 12 = .ok (.getfield 9, 3) := by decide +kernel
theorem d_K_isGoal_15 : decode b_K_isGoal 15 = .ok (.iload_n 1, 1) := by decide +kernel
theorem d_K_isGoal_16 : decode b_K_isGoal 16 = .ok (.iaload, 1) := by decide +kernel
theorem d_K_isGoal_17 : decode b_K_isGoal 17 = .ok (.ifCond .ne 7, 3) := by decide +kernel
theorem d_K_isGoal_20 : decode b_K_isGoal 20 = .ok (.iconst 1, 1) := by decide +kernel
theorem d_K_isGoal_21 : decode b_K_isGoal 21 = .ok (.goto 4, 3) := by decide +kernel
theorem d_K_isGoal_24 : decode b_K_isGoal 24 = .ok (.iconst 0, 1) := by decide +kernel
theorem d_K_isGoal_25 : decode b_K_isGoal 25 = .ok (.ireturn, 1) := by decide +kernel
end
section
theorem d_U_init_0 : decode b_U_init 0 = .ok (.aload_n 0, 1) := by decide +kernel
theorem d_U_init_1 : decode b_U_init 1 = .ok (.invokespecial 3, 3) := by decide +kernel
theorem d_U_init_4 : decode b_U_init 4 = .ok (.aload_n 0, 1) := by decide +kernel
theorem d_U_init_5 : decode b_U_init 5 = .ok (.iconst 4, 1) := by decide +kernel
theorem d_U_init_6 : decode b_U_init 6 = .ok (.newarray .long, 2) := by decide +kernel
theorem d_U_init_8 : decode b_U_init 8 = .ok (.putfield 9, 3) := by decide +kernel
theorem d_U_init_11 : decode b_U_init 11 = .ok (.aload_n 0, 1) := by decide +kernel
theorem d_U_init_12 : decode b_U_init 12 = .ok (.iconst 4, 1) := by decide +kernel
theorem d_U_init_13 : decode b_U_init 13 = .ok (.newarray .long, 2) := by decide +kernel
theorem d_U_init_15 : decode b_U_init 15 = .ok (.putfield 15, 3) := by decide +kernel
theorem d_U_init_18 : decode b_U_init 18 = .ok (.aload_n 0, 1) := by decide +kernel
theorem d_U_init_19 : decode b_U_init 19 = .ok (.iconst 0, 1) := by decide +kernel
theorem d_U_init_20 : decode b_U_init 20 = .ok (.putfield 18, 3) := by decide +kernel
theorem d_U_init_23 : decode b_U_init 23 = .ok (.return_, 1) := by decide +kernel
theorem d_U_followBytes_0 : decode b_U_followBytes 0 = .ok (.aload_n 0, 1) := by decide +kernel
theorem d_U_followBytes_1 : decode b_U_followBytes 1 = .ok (.lload_n 2, 1) := by decide +kernel
theorem d_U_followBytes_2 : decode b_U_followBytes 2 = .ok (.lload 4, 2) := by decide +kernel
theorem d_U_followBytes_4 : decode b_U_followBytes 4 = .ok (.iconst 1, 1) := by decide +kernel
theorem d_U_followBytes_5 : decode b_U_followBytes 5 = .ok (.invokevirtual 38, 3) := by decide +kernel
theorem d_U_followBytes_8 : decode b_U_followBytes 8 = .ok (.iconst 0, 1) := by decide +kernel
theorem d_U_followBytes_9 : decode b_U_followBytes 9 = .ok (.istore 6, 2) := by decide +kernel
theorem d_U_followBytes_11 : decode b_U_followBytes 11 = .ok (.iconst 0, 1) := by decide +kernel
theorem d_U_followBytes_12 : decode b_U_followBytes 12 = .ok (.istore 7, 2) := by decide +kernel
theorem d_U_followBytes_14 : decode b_U_followBytes 14 = .ok (.iload 7, 2) := by decide +kernel
theorem d_U_followBytes_16 : decode b_U_followBytes 16 = .ok (.ldc 79, 2) := by decide +kernel
theorem d_U_followBytes_18 : decode b_U_followBytes 18 = .ok (.if_icmp .ge 69, 3) := by decide +kernel
theorem d_U_followBytes_21 : decode b_U_followBytes 21 = .ok (.aload_n 1, 1) := by decide +kernel
theorem d_U_followBytes_22 : decode b_U_followBytes 22 = .ok (.iload 6, 2) := by decide +kernel
theorem d_U_followBytes_24 : decode b_U_followBytes 24 = .ok (.invokevirtual 80, 3) := by decide +kernel
theorem d_U_followBytes_27 : decode b_U_followBytes 27 = .ok (.istore 8, 2) := by decide +kernel
theorem d_U_followBytes_29 : decode b_U_followBytes 29 = .ok (.iload 8, 2) := by decide +kernel
theorem d_U_followBytes_31 : decode b_U_followBytes 31 = .ok (.bipush 10, 2) := by decide +kernel
theorem d_U_followBytes_33 : decode b_U_followBytes 33 = .ok (.if_icmp .ne 4, 3) := by decide +kernel
theorem d_U_followBytes_36 : decode b_U_followBytes 36 = .ok (.return_, 1) := by decide +kernel
theorem d_U_followBytes_37 : decode b_U_followBytes 37 = .ok (.aload_n 0, 1) := by decide +kernel
theorem d_U_followBytes_38 : decode b_U_followBytes 38 = .ok (.getfield 31, 3) := by decide +kernel
theorem d_U_followBytes_41 : decode b_U_followBytes 41 = .ok (.sipush 2000, 3) := by decide +kernel
theorem d_U_followBytes_44 : decode b_U_followBytes 44 = .ok (.if_icmp .lt 6, 3) := by decide +kernel
theorem d_U_followBytes_47 : decode b_U_followBytes 47 = .ok (.goto 40, 3) := by decide +kernel
theorem d_U_followBytes_50 : decode b_U_followBytes 50 = .ok (.iload 8, 2) := by decide +kernel
theorem d_U_followBytes_52 : decode b_U_followBytes 52 = .ok (.bipush 7, 2) := by decide +kernel
theorem d_U_followBytes_54 : decode b_U_followBytes 54 = .ok (.if_icmp .ne 16, 3) := by decide +kernel
theorem d_U_followBytes_57 : decode b_U_followBytes 57 = .ok (.aload_n 0, 1) := by decide +kernel
theorem d_U_followBytes_58 : decode b_U_followBytes 58 = .ok (.invokevirtual 84, 3) := by decide +kernel
theorem d_U_followBytes_61 : decode b_U_followBytes 61 = .ok (.ifCond .eq 9, 3) := by decide +kernel
theorem d_U_followBytes_64 : decode b_U_followBytes 64 = .ok (.aload_n 0, 1) := by decide +kernel
theorem d_U_followBytes_65 : decode b_U_followBytes 65 = .ok (.iconst 1, 1) := by decide +kernel
theorem d_U_followBytes_66 : decode b_U_followBytes 66 = .ok (.putfield 18, 3) := by decide +kernel
theorem d_U_followBytes_69 : decode b_U_followBytes 69 = .ok (.return_, 1) := by decide +kernel
theorem d_U_followBytes_70 : decode b_U_followBytes 70 = .ok (.aload_n 0, 1) := by decide +kernel
theorem d_U_followBytes_71 : decode b_U_followBytes 71 = .ok (.aload_n 1, 1) := by decide +kernel
theorem d_U_followBytes_72 : decode b_U_followBytes 72 = .ok (.iload 6, 2) := by decide +kernel
theorem d_U_followBytes_74 : decode b_U_followBytes 74 = .ok (.iload 8, 2) := by decide +kernel
theorem d_U_followBytes_76 : decode b_U_followBytes 76 = .ok (.invokevirtual 88, 3) := by decide +kernel
theorem d_U_followBytes_79 : decode b_U_followBytes 79 = .ok (.istore 6, 2) := by decide +kernel
theorem d_U_followBytes_81 : decode b_U_followBytes 81 = .ok (.iinc 7 1, 3) := by decide +kernel
theorem d_U_followBytes_84 : decode b_U_followBytes 84 = .ok (.goto (-70), 3) := by decide +kernel
theorem d_U_followBytes_87 : decode b_U_followBytes 87 = .ok (.aload_n 0, 1) := by decide +kernel
theorem d_U_followBytes_88 : decode b_U_followBytes 88 = .ok (.iconst 2, 1) := by decide +kernel
theorem d_U_followBytes_89 : decode b_U_followBytes 89 = .ok (.putfield 18, 3) := by decide +kernel
theorem d_U_followBytes_92 : decode b_U_followBytes 92 = .ok (.return_, 1) := by decide +kernel
theorem d_U_begin_0 : decode b_U_begin 0 = .ok (.aload_n 0, 1) := by decide +kernel
theorem d_U_begin_1 : decode b_U_begin 1 = .ok (.getfield 9, 3) := by decide +kernel
theorem d_U_begin_4 : decode b_U_begin 4 = .ok (.lconst 0, 1) := by decide +kernel
theorem d_U_begin_5 : decode b_U_begin 5 = .ok (.invokestatic 22, 3) := by decide +kernel
theorem d_U_begin_8 : decode b_U_begin 8 = .ok (.aload_n 0, 1) := by decide +kernel
theorem d_U_begin_9 : decode b_U_begin 9 = .ok (.getfield 9, 3) := by decide +kernel
theorem d_U_begin_12 : decode b_U_begin 12 = .ok (.iconst 0, 1) := by decide +kernel
theorem d_U_begin_13 : decode b_U_begin 13 = .ok (.lload_n 1, 1) := by decide +kernel
theorem d_U_begin_14 : decode b_U_begin 14 = .ok (.lastore, 1) := by decide +kernel
theorem d_U_begin_15 : decode b_U_begin 15 = .ok (.aload_n 0, 1) := by decide +kernel
theorem d_U_begin_16 : decode b_U_begin 16 = .ok (.getfield 9, 3) := by decide +kernel
theorem d_U_begin_19 : decode b_U_begin 19 = .ok (.iconst 1, 1) := by decide +kernel
theorem d_U_begin_20 : decode b_U_begin 20 = .ok (.lload_n 3, 1) := by decide +kernel
theorem d_U_begin_21 : decode b_U_begin 21 = .ok (.lastore, 1) := by decide +kernel
theorem d_U_begin_22 : decode b_U_begin 22 = .ok (.aload_n 0, 1) := by decide +kernel
theorem d_U_begin_23 : decode b_U_begin 23 = .ok (.iconst 0, 1) := by decide +kernel
theorem d_U_begin_24 : decode b_U_begin 24 = .ok (.putfield 28, 3) := by decide +kernel
theorem d_U_begin_27 : decode b_U_begin 27 = .ok (.aload_n 0, 1) := by decide +kernel
theorem d_U_begin_28 : decode b_U_begin 28 = .ok (.iconst 0, 1) := by decide +kernel
theorem d_U_begin_29 : decode b_U_begin 29 = .ok (.putfield 31, 3) := by decide +kernel
theorem d_U_begin_32 : decode b_U_begin 32 = .ok (.aload_n 0, 1) := by decide +kernel
theorem d_U_begin_33 : decode b_U_begin 33 = .ok (.iconst 0, 1) := by decide +kernel
theorem d_U_begin_34 : decode b_U_begin 34 = .ok (.putfield 18, 3) := by decide +kernel
theorem d_U_begin_37 : decode b_U_begin 37 = .ok (.aload_n 0, 1) := by decide +kernel
theorem d_U_begin_38 : decode b_U_begin 38 = .ok (.iload 5, 2) := by decide +kernel
theorem d_U_begin_40 : decode b_U_begin 40 = .ok (.putfield 34, 3) := by decide +kernel
theorem d_U_begin_43 : decode b_U_begin 43 = .ok (.return_, 1) := by decide +kernel
theorem d_U_topIsZero_0 : decode b_U_topIsZero 0 = .ok (.aload_n 0, 1) := by decide +kernel
theorem d_U_topIsZero_1 : decode b_U_topIsZero 1 = .ok (.getfield 28, 3) := by decide +kernel
theorem d_U_topIsZero_4 : decode b_U_topIsZero 4 = .ok (.ifCond .le 23, 3) := by decide +kernel
theorem d_U_topIsZero_7 : decode b_U_topIsZero 7 = .ok (.aload_n 0, 1) := by decide +kernel
theorem d_U_topIsZero_8 : decode b_U_topIsZero 8 = .ok (.getfield 15, 3) := by decide +kernel
theorem d_U_topIsZero_11 : decode b_U_topIsZero 11 = .ok (.aload_n 0, 1) := by decide +kernel
theorem d_U_topIsZero_12 : decode b_U_topIsZero 12 = .ok (.getfield 28, 3) := by decide +kernel
theorem d_U_topIsZero_15 : decode b_U_topIsZero 15 = .ok (.iconst 1, 1) := by decide +kernel
theorem d_U_topIsZero_16 : decode b_U_topIsZero 16 = .ok (.isub, 1) := by decide +kernel
theorem d_U_topIsZero_17 : decode b_U_topIsZero 17 = .ok (.laload, 1) := by decide +kernel
theorem d_U_topIsZero_18 : decode b_U_topIsZero 18 = .ok (.lconst 0, 1) := by decide +kernel
theorem d_U_topIsZero_19 : decode b_U_topIsZero 19 = .ok (.lcmp, 1) := by decide +kernel
theorem d_U_topIsZero_20 : decode b_U_topIsZero 20 = .ok (.ifCond .ne 7, 3) := by decide +kernel
theorem d_U_topIsZero_23 : decode b_U_topIsZero 23 = .ok (.iconst 1, 1) := by decide +kernel
theorem d_U_topIsZero_24 : decode b_U_topIsZero 24 = .ok (.goto 4, 3) := by decide +kernel
theorem d_U_topIsZero_27 : decode b_U_topIsZero 27 = .ok (.iconst 0, 1) := by decide +kernel
theorem d_U_topIsZero_28 : decode b_U_topIsZero 28 = .ok (.ireturn, 1) := by decide +kernel
theorem d_U_follow_0 : decode b_U_follow 0 = .ok (.iload_n 3, 1) := by decide +kernel
theorem d_U_follow_1 : decode b_U_follow 1 = .ok (.lookupswitch 155 #[(1, 51), (2, 69), (3, 97), (9, 128), (16, 112)], 51) := by decide +kernel
theorem d_U_follow_52 : decode b_U_follow 52 = .ok (.aload_n 0, 1) := by decide +kernel
theorem d_U_follow_53 : decode b_U_follow 53 = .ok (.aload_n 0, 1) := by decide +kernel
theorem d_U_follow_54 : decode b_U_follow 54 = .ok (.aload_n 1, 1) := by decide +kernel
theorem d_U_follow_55 : decode b_U_follow 55 = .ok (.iload_n 2, 1) := by decide +kernel
theorem d_U_follow_56 : decode b_U_follow 56 = .ok (.iconst 1, 1) := by decide +kernel
theorem d_U_follow_57 : decode b_U_follow 57 = .ok (.iadd, 1) := by decide +kernel
theorem d_U_follow_58 : decode b_U_follow 58 = .ok (.invokevirtual 80, 3) := by decide +kernel
theorem d_U_follow_61 : decode b_U_follow 61 = .ok (.invokevirtual 63, 3) := by decide +kernel
theorem d_U_follow_64 : decode b_U_follow 64 = .ok (.invokevirtual 92, 3) := by decide +kernel
theorem d_U_follow_67 : decode b_U_follow 67 = .ok (.goto 96, 3) := by decide +kernel
theorem d_U_follow_70 : decode b_U_follow 70 = .ok (.aload_n 0, 1) := by decide +kernel
theorem d_U_follow_71 : decode b_U_follow 71 = .ok (.aload_n 1, 1) := by decide +kernel
theorem d_U_follow_72 : decode b_U_follow 72 = .ok (.iload_n 2, 1) := by decide +kernel
theorem d_U_follow_73 : decode b_U_follow 73 = .ok (.iconst 1, 1) := by decide +kernel
theorem d_U_follow_74 : decode b_U_follow 74 = .ok (.iadd, 1) := by decide +kernel
theorem d_U_follow_75 : decode b_U_follow 75 = .ok (.invokevirtual 80, 3) := by decide +kernel
theorem d_U_follow_78 : decode b_U_follow 78 = .ok (.aload_n 0, 1) := by decide +kernel
theorem d_U_follow_79 : decode b_U_follow 79 = .ok (.invokevirtual 96, 3) := by decide +kernel
theorem d_U_follow_82 : decode b_U_follow 82 = .ok (.invokevirtual 71, 3) := by decide +kernel
theorem d_U_follow_85 : decode b_U_follow 85 = .ok (.aload_n 0, 1) := by decide +kernel
theorem d_U_follow_86 : decode b_U_follow 86 = .ok (.dup, 1) := by decide +kernel
theorem d_U_follow_87 : decode b_U_follow 87 = .ok (.getfield 31, 3) := by decide +kernel
theorem d_U_follow_90 : decode b_U_follow 90 = .ok (.iconst 1, 1) := by decide +kernel
theorem d_U_follow_91 : decode b_U_follow 91 = .ok (.iadd, 1) := by decide +kernel
theorem d_U_follow_92 : decode b_U_follow 92 = .ok (.putfield 31, 3) := by decide +kernel
theorem d_U_follow_95 : decode b_U_follow 95 = .ok (.goto 68, 3) := by decide +kernel
theorem d_U_follow_98 : decode b_U_follow 98 = .ok (.aload_n 0, 1) := by decide +kernel
theorem d_U_follow_99 : decode b_U_follow 99 = .ok (.aload_n 1, 1) := by decide +kernel
theorem d_U_follow_100 : decode b_U_follow 100 = .ok (.iload_n 2, 1) := by decide +kernel
theorem d_U_follow_101 : decode b_U_follow 101 = .ok (.iconst 1, 1) := by decide +kernel
theorem d_U_follow_102 : decode b_U_follow 102 = .ok (.iadd, 1) := by decide +kernel
theorem d_U_follow_103 : decode b_U_follow 103 = .ok (.invokevirtual 100, 3) := by decide +kernel
theorem d_U_follow_106 : decode b_U_follow 106 = .ok (.i2l, 1) := by decide +kernel
theorem d_U_follow_107 : decode b_U_follow 107 = .ok (.invokevirtual 92, 3) := by decide +kernel
theorem d_U_follow_110 : decode b_U_follow 110 = .ok (.goto 53, 3) := by decide +kernel
theorem d_U_follow_113 : decode b_U_follow 113 = .ok (.aload_n 0, 1) := by decide +kernel
theorem d_U_follow_114 : decode b_U_follow 114 = .ok (.aload_n 1, 1) := by decide +kernel
theorem d_U_follow_115 : decode b_U_follow 115 = .ok (.iload_n 2, 1) := by decide +kernel
theorem d_U_follow_116 : decode b_U_follow 116 = .ok (.iconst 1, 1) := by decide +kernel
theorem d_U_follow_117 : decode b_U_follow 117 = .ok (.iadd, 1) := by decide +kernel
theorem d_U_follow_118 : decode b_U_follow 118 = .ok (.invokevirtual 80, 3) := by decide +kernel
theorem d_U_follow_121 : decode b_U_follow 121 = .ok (.i2b, 1) := by decide +kernel
theorem d_U_follow_122 : decode b_U_follow 122 = .ok (.i2l, 1) := by decide +kernel
theorem d_U_follow_123 : decode b_U_follow 123 = .ok (.invokevirtual 92, 3) := by decide +kernel
theorem d_U_follow_126 : decode b_U_follow 126 = .ok (.goto 37, 3) := by decide +kernel
theorem d_U_follow_129 : decode b_U_follow 129 = .ok (.aload_n 0, 1) := by decide +kernel
theorem d_U_follow_130 : decode b_U_follow 130 = .ok (.dup, 1) := by decide +kernel
theorem d_U_follow_131 : decode b_U_follow 131 = .ok (.getfield 31, 3) := by decide +kernel
theorem d_U_follow_134 : decode b_U_follow 134 = .ok (.iconst 1, 1) := by decide +kernel
theorem d_U_follow_135 : decode b_U_follow 135 = .ok (.iadd, 1) := by decide +kernel
theorem d_U_follow_136 : decode b_U_follow 136 = .ok (.putfield 31, 3) := by decide +kernel
theorem d_U_follow_139 : decode b_U_follow 139 = .ok (.aload_n 0, 1) := by decide +kernel
theorem d_U_follow_140 : decode b_U_follow 140 = .ok (.invokevirtual 96, 3) := by decide +kernel
theorem d_U_follow_143 : decode b_U_follow 143 = .ok (.lconst 0, 1) := by decide +kernel
theorem d_U_follow_144 : decode b_U_follow 144 = .ok (.lcmp, 1) := by decide +kernel
theorem d_U_follow_145 : decode b_U_follow 145 = .ok (.ifCond .eq 18, 3) := by decide +kernel
theorem d_U_follow_148 : decode b_U_follow 148 = .ok (.aload_n 1, 1) := by decide +kernel
theorem d_U_follow_149 : decode b_U_follow 149 = .ok (.iload_n 2, 1) := by decide +kernel
theorem d_U_follow_150 : decode b_U_follow 150 = .ok (.iconst 1, 1) := by decide +kernel
theorem d_U_follow_151 : decode b_U_follow 151 = .ok (.iadd, 1) := by decide +kernel
theorem d_U_follow_152 : decode b_U_follow 152 = .ok (.invokevirtual 103, 3) := by decide +kernel
theorem d_U_follow_155 : decode b_U_follow 155 = .ok (.ireturn, 1) := by decide +kernel
theorem d_U_follow_156 : decode b_U_follow 156 = .ok (.aload_n 0, 1) := by decide +kernel
theorem d_U_follow_157 : decode b_U_follow 157 = .ok (.iload_n 3, 1) := by decide +kernel
theorem d_U_follow_158 : decode b_U_follow 158 = .ok (.iconst 3, 1) := by decide +kernel
theorem d_U_follow_159 : decode b_U_follow 159 = .ok (.isub, 1) := by decide +kernel
theorem d_U_follow_160 : decode b_U_follow 160 = .ok (.invokevirtual 106, 3) := by decide +kernel
theorem d_U_follow_163 : decode b_U_follow 163 = .ok (.iload_n 2, 1) := by decide +kernel
theorem d_U_follow_164 : decode b_U_follow 164 = .ok (.iload_n 3, 1) := by decide +kernel
theorem d_U_follow_165 : decode b_U_follow 165 = .ok (.invokestatic 110, 3) := by decide +kernel
theorem d_U_follow_168 : decode b_U_follow 168 = .ok (.iadd, 1) := by decide +kernel
theorem d_U_follow_169 : decode b_U_follow 169 = .ok (.ireturn, 1) := by decide +kernel
theorem d_U_load_0 : decode b_U_load 0 = .ok (.iload_n 1, 1) := by decide +kernel
theorem d_U_load_1 : decode b_U_load 1 = .ok (.invokestatic 113, 3) := by decide +kernel
theorem d_U_load_4 : decode b_U_load 4 = .ok (.ifCond .eq 12, 3) := by decide +kernel
theorem d_U_load_7 : decode b_U_load 7 = .ok (.aload_n 0, 1) := by decide +kernel
theorem d_U_load_8 : decode b_U_load 8 = .ok (.getfield 9, 3) := by decide +kernel
theorem d_U_load_11 : decode b_U_load 11 = .ok (.iload_n 1, 1) := by decide +kernel
theorem d_U_load_12 : decode b_U_load 12 = .ok (.laload, 1) := by decide +kernel
theorem d_U_load_13 : decode b_U_load 13 = .ok (.goto 4, 3) := by decide +kernel
theorem d_U_load_16 : decode b_U_load 16 = .ok (.lconst 0, 1) := by decide +kernel
theorem d_U_load_17 : decode b_U_load 17 = .ok (.lreturn, 1) := by decide +kernel
theorem d_U_push_0 : decode b_U_push 0 = .ok (.aload_n 0, 1) := by decide +kernel
theorem d_U_push_1 : decode b_U_push 1 = .ok (.getfield 28, 3) := by decide +kernel
theorem d_U_push_4 : decode b_U_push 4 = .ok (.iconst 4, 1) := by decide +kernel
theorem d_U_push_5 : decode b_U_push 5 = .ok (.if_icmp .ge 23, 3) := by decide +kernel
theorem d_U_push_8 : decode b_U_push 8 = .ok (.aload_n 0, 1) := by decide +kernel
theorem d_U_push_9 : decode b_U_push 9 = .ok (.getfield 15, 3) := by decide +kernel
theorem d_U_push_12 : decode b_U_push 12 = .ok (.aload_n 0, 1) := by decide +kernel
theorem d_U_push_13 : decode b_U_push 13 = .ok (.getfield 28, 3) := by decide +kernel
theorem d_U_push_16 : decode b_U_push 16 = .ok (.lload_n 1, 1) := by decide +kernel
theorem d_U_push_17 : decode b_U_push 17 = .ok (.lastore, 1) := by decide +kernel
theorem d_U_push_18 : decode b_U_push 18 = .ok (.aload_n 0, 1) := by decide +kernel
theorem d_U_push_19 : decode b_U_push 19 = .ok (.dup, 1) := by decide +kernel
theorem d_U_push_20 : decode b_U_push 20 = .ok (.getfield 28, 3) := by decide +kernel
theorem d_U_push_23 : decode b_U_push 23 = .ok (.iconst 1, 1) := by decide +kernel
theorem d_U_push_24 : decode b_U_push 24 = .ok (.iadd, 1) := by decide +kernel
theorem d_U_push_25 : decode b_U_push 25 = .ok (.putfield 28, 3) := by decide +kernel
theorem d_U_push_28 : decode b_U_push 28 = .ok (.return_, 1) := by decide +kernel
theorem d_U_pop_0 : decode b_U_pop 0 = .ok (.aload_n 0, 1) := by decide +kernel
theorem d_U_pop_1 : decode b_U_pop 1 = .ok (.getfield 28, 3) := by decide +kernel
theorem d_U_pop_4 : decode b_U_pop 4 = .ok (.iconst 1, 1) := by decide +kernel
theorem d_U_pop_5 : decode b_U_pop 5 = .ok (.if_icmp .ge 5, 3) := by decide +kernel
theorem d_U_pop_8 : decode b_U_pop 8 = .ok (.lconst 0, 1) := by decide +kernel
theorem d_U_pop_9 : decode b_U_pop 9 = .ok (.lreturn, 1) := by decide +kernel
theorem d_U_pop_10 : decode b_U_pop 10 = .ok (.aload_n 0, 1) := by decide +kernel
theorem d_U_pop_11 : decode b_U_pop 11 = .ok (.dup, 1) := by decide +kernel
theorem d_U_pop_12 : decode b_U_pop 12 = .ok (.getfield 28, 3) := by decide +kernel
theorem d_U_pop_15 : decode b_U_pop 15 = .ok (.iconst 1, 1) := by decide +kernel
theorem d_U_pop_16 : decode b_U_pop 16 = .ok (.isub, 1) := by decide +kernel
theorem d_U_pop_17 : decode b_U_pop 17 = .ok (.putfield 28, 3) := by decide +kernel
theorem d_U_pop_20 : decode b_U_pop 20 = .ok (.aload_n 0, 1) := by decide +kernel
theorem d_U_pop_21 : decode b_U_pop 21 = .ok (.getfield 15, 3) := by decide +kernel
theorem d_U_pop_24 : decode b_U_pop 24 = .ok (.aload_n 0, 1) := by decide +kernel
theorem d_U_pop_25 : decode b_U_pop 25 = .ok (.getfield 28, 3) := by decide +kernel
theorem d_U_pop_28 : decode b_U_pop 28 = .ok (.laload, 1) := by decide +kernel
theorem d_U_pop_29 : decode b_U_pop 29 = .ok (.lreturn, 1) := by decide +kernel
theorem d_U_store_0 : decode b_U_store 0 = .ok (.iload_n 1, 1) := by decide +kernel
theorem d_U_store_1 : decode b_U_store 1 = .ok (.invokestatic 113, 3) := by decide +kernel
theorem d_U_store_4 : decode b_U_store 4 = .ok (.ifCond .eq 10, 3) := by decide +kernel
theorem d_U_store_7 : decode b_U_store 7 = .ok (.aload_n 0, 1) := by decide +kernel
theorem d_U_store_8 : decode b_U_store 8 = .ok (.getfield 9, 3) := by decide +kernel
theorem d_U_store_11 : decode b_U_store 11 = .ok (.iload_n 1, 1) := by decide +kernel
theorem d_U_store_12 : decode b_U_store 12 = .ok (.lload_n 2, 1) := by decide +kernel
theorem d_U_store_13 : decode b_U_store 13 = .ok (.lastore, 1) := by decide +kernel
theorem d_U_store_14 : decode b_U_store 14 = .ok (.return_, 1) := by decide +kernel
theorem d_U_workOnPile_0 : decode b_U_workOnPile 0 = .ok (.aload_n 0, 1) := by decide +kernel
theorem d_U_workOnPile_1 : decode b_U_workOnPile 1 = .ok (.invokevirtual 96, 3) := by decide +kernel
theorem d_U_workOnPile_4 : decode b_U_workOnPile 4 = .ok (.lstore_n 2, 1) := by decide +kernel
theorem d_U_workOnPile_5 : decode b_U_workOnPile 5 = .ok (.aload_n 0, 1) := by decide +kernel
theorem d_U_workOnPile_6 : decode b_U_workOnPile 6 = .ok (.invokevirtual 96, 3) := by decide +kernel
theorem d_U_workOnPile_9 : decode b_U_workOnPile 9 = .ok (.lstore 4, 2) := by decide +kernel
theorem d_U_workOnPile_11 : decode b_U_workOnPile 11 = .ok (.aload_n 0, 1) := by decide +kernel
theorem d_U_workOnPile_12 : decode b_U_workOnPile 12 = .ok (.iload_n 1, 1) := by decide +kernel
theorem d_U_workOnPile_13 : decode b_U_workOnPile 13 = .ok (.lload 4, 2) := by decide +kernel
theorem d_U_workOnPile_15 : decode b_U_workOnPile 15 = .ok (.lload_n 2, 1) := by decide +kernel
theorem d_U_workOnPile_16 : decode b_U_workOnPile 16 = .ok (.invokestatic 75, 3) := by decide +kernel
theorem d_U_workOnPile_19 : decode b_U_workOnPile 19 = .ok (.invokevirtual 92, 3) := by decide +kernel
theorem d_U_workOnPile_22 : decode b_U_workOnPile 22 = .ok (.return_, 1) := by decide +kernel
theorem d_U_worked_0 : decode b_U_worked 0 = .ok (.iload_n 0, 1) := by decide +kernel
theorem d_U_worked_1 : decode b_U_worked 1 = .ok (.tableswitch 73 1 5 #[35, 39, 43, 47, 61], 35) := by decide +kernel
theorem d_U_worked_36 : decode b_U_worked 36 = .ok (.lload_n 1, 1) := by decide +kernel
theorem d_U_worked_37 : decode b_U_worked 37 = .ok (.lload_n 3, 1) := by decide +kernel
theorem d_U_worked_38 : decode b_U_worked 38 = .ok (.ladd, 1) := by decide +kernel
theorem d_U_worked_39 : decode b_U_worked 39 = .ok (.lreturn, 1) := by decide +kernel
theorem d_U_worked_40 : decode b_U_worked 40 = .ok (.lload_n 1, 1) := by decide +kernel
theorem d_U_worked_41 : decode b_U_worked 41 = .ok (.lload_n 3, 1) := by decide +kernel
theorem d_U_worked_42 : decode b_U_worked 42 = .ok (.lsub, 1) := by decide +kernel
theorem d_U_worked_43 : decode b_U_worked 43 = .ok (.lreturn, 1) := by decide +kernel
theorem d_U_worked_44 : decode b_U_worked 44 = .ok (.lload_n 1, 1) := by decide +kernel
theorem d_U_worked_45 : decode b_U_worked 45 = .ok (.lload_n 3, 1) := by decide +kernel
theorem d_U_worked_46 : decode b_U_worked 46 = .ok (.lmul, 1) := by decide +kernel
theorem d_U_worked_47 : decode b_U_worked 47 = .ok (.lreturn, 1) := by decide +kernel
theorem d_U_worked_48 : decode b_U_worked 48 = .ok (.lload_n 3, 1) := by decide +kernel
theorem d_U_worked_49 : decode b_U_worked 49 = .ok (.lconst 0, 1) := by decide +kernel
theorem d_U_worked_50 : decode b_U_worked 50 = .ok (.lcmp, 1) := by decide +kernel
theorem d_U_worked_51 : decode b_U_worked 51 = .ok (.ifCond .ne 7, 3) := by decide +kernel
theorem d_U_worked_54 : decode b_U_worked 54 = .ok (.lconst 0, 1) := by decide +kernel
theorem d_U_worked_55 : decode b_U_worked 55 = .ok (.goto 6, 3) := by decide +kernel
theorem d_U_worked_58 : decode b_U_worked 58 = .ok (.lload_n 1, 1) := by decide +kernel
theorem d_U_worked_59 : decode b_U_worked 59 = .ok (.lload_n 3, 1) := by decide +kernel
theorem d_U_worked_60 : decode b_U_worked 60 = .ok (.ldiv, 1) := by decide +kernel
theorem d_U_worked_61 : decode b_U_worked 61 = .ok (.lreturn, 1) := by decide +kernel
theorem d_U_worked_62 : decode b_U_worked 62 = .ok (.lload_n 1, 1) := by decide +kernel
theorem d_U_worked_63 : decode b_U_worked 63 = .ok (.lload_n 3, 1) := by decide +kernel
theorem d_U_worked_64 : decode b_U_worked 64 = .ok (.lcmp, 1) := by decide +kernel
theorem d_U_worked_65 : decode b_U_worked 65 = .ok (.ifCond .ge 7, 3) := by decide +kernel
theorem d_U_worked_68 : decode b_U_worked 68 = .ok (.lconst 1, 1) := by decide +kernel
theorem d_U_worked_69 : decode b_U_worked 69 = .ok (.goto 4, 3) := by decide +kernel
theorem d_U_worked_72 : decode b_U_worked 72 = .ok (.lconst 0, 1) := by decide +kernel
theorem d_U_worked_73 : decode b_U_worked 73 = .ok (.lreturn, 1) := by decide +kernel
theorem d_U_worked_74 : decode b_U_worked 74 = .ok (.lconst 0, 1) := by decide +kernel
theorem d_U_worked_75 : decode b_U_worked 75 = .ok (.lreturn, 1) := by decide +kernel
theorem d_U_followRows_0 : decode b_U_followRows 0 = .ok (.aload_n 0, 1) := by decide +kernel
theorem d_U_followRows_1 : decode b_U_followRows 1 = .ok (.lload_n 2, 1) := by decide +kernel
theorem d_U_followRows_2 : decode b_U_followRows 2 = .ok (.lload 4, 2) := by decide +kernel
theorem d_U_followRows_4 : decode b_U_followRows 4 = .ok (.iconst 0, 1) := by decide +kernel
theorem d_U_followRows_5 : decode b_U_followRows 5 = .ok (.invokevirtual 38, 3) := by decide +kernel
theorem d_U_followRows_8 : decode b_U_followRows 8 = .ok (.aload_n 1, 1) := by decide +kernel
theorem d_U_followRows_9 : decode b_U_followRows 9 = .ok (.getfield 42, 3) := by decide +kernel
theorem d_U_followRows_12 : decode b_U_followRows 12 = .ok (.bipush 60, 2) := by decide +kernel
theorem d_U_followRows_14 : decode b_U_followRows 14 = .ok (.invokestatic 47, 3) := by decide +kernel
theorem d_U_followRows_17 : decode b_U_followRows 17 = .ok (.istore 6, 2) := by decide +kernel
theorem d_U_followRows_19 : decode b_U_followRows 19 = .ok (.iconst 0, 1) := by decide +kernel
theorem d_U_followRows_20 : decode b_U_followRows 20 = .ok (.istore 7, 2) := by decide +kernel
theorem d_U_followRows_22 : decode b_U_followRows 22 = .ok (.aload_n 0, 1) := by decide +kernel
theorem d_U_followRows_23 : decode b_U_followRows 23 = .ok (.getfield 31, 3) := by decide +kernel
theorem d_U_followRows_26 : decode b_U_followRows 26 = .ok (.sipush 2000, 3) := by decide +kernel
theorem d_U_followRows_29 : decode b_U_followRows 29 = .ok (.if_icmp .ge 129, 3) := by decide +kernel
theorem d_U_followRows_32 : decode b_U_followRows 32 = .ok (.iload 7, 2) := by decide +kernel
theorem d_U_followRows_34 : decode b_U_followRows 34 = .ok (.ifCond .lt 124, 3) := by decide +kernel
theorem d_U_followRows_37 : decode b_U_followRows 37 = .ok (.iload 7, 2) := by decide +kernel
theorem d_U_followRows_39 : decode b_U_followRows 39 = .ok (.iload 6, 2) := by decide +kernel
theorem d_U_followRows_41 : decode b_U_followRows 41 = .ok (.if_icmp .ge 117, 3) := by decide +kernel
theorem d_U_followRows_44 : decode b_U_followRows 44 = .ok (.aload_n 1, 1) := by decide +kernel
theorem d_U_followRows_45 : decode b_U_followRows 45 = .ok (.getfield 53, 3) := by decide +kernel
theorem d_U_followRows_48 : decode b_U_followRows 48 = .ok (.iload 7, 2) := by decide +kernel
theorem d_U_followRows_50 : decode b_U_followRows 50 = .ok (.iaload, 1) := by decide +kernel
theorem d_U_followRows_51 : decode b_U_followRows 51 = .ok (.istore 8, 2) := by decide +kernel
theorem d_U_followRows_53 : decode b_U_followRows 53 = .ok (.aload_n 1, 1) := by decide +kernel
theorem d_U_followRows_54 : decode b_U_followRows 54 = .ok (.getfield 57, 3) := by decide +kernel
theorem d_U_followRows_57 : decode b_U_followRows 57 = .ok (.iload 7, 2) := by decide +kernel
theorem d_U_followRows_59 : decode b_U_followRows 59 = .ok (.iaload, 1) := by decide +kernel
theorem d_U_followRows_60 : decode b_U_followRows 60 = .ok (.istore 9, 2) := by decide +kernel
theorem d_U_followRows_62 : decode b_U_followRows 62 = .ok (.aload_n 1, 1) := by decide +kernel
theorem d_U_followRows_63 : decode b_U_followRows 63 = .ok (.getfield 60, 3) := by decide +kernel
theorem d_U_followRows_66 : decode b_U_followRows 66 = .ok (.iload 7, 2) := by decide +kernel
theorem d_U_followRows_68 : decode b_U_followRows 68 = .ok (.iaload, 1) := by decide +kernel
theorem d_U_followRows_69 : decode b_U_followRows 69 = .ok (.istore 10, 2) := by decide +kernel
theorem d_U_followRows_71 : decode b_U_followRows 71 = .ok (.iload 8, 2) := by decide +kernel
theorem d_U_followRows_73 : decode b_U_followRows 73 = .ok (.iconst 4, 1) := by decide +kernel
theorem d_U_followRows_74 : decode b_U_followRows 74 = .ok (.if_icmp .ne 20, 3) := by decide +kernel
theorem d_U_followRows_77 : decode b_U_followRows 77 = .ok (.aload_n 0, 1) := by decide +kernel
theorem d_U_followRows_78 : decode b_U_followRows 78 = .ok (.iload 10, 2) := by decide +kernel
theorem d_U_followRows_80 : decode b_U_followRows 80 = .ok (.invokevirtual 63, 3) := by decide +kernel
theorem d_U_followRows_83 : decode b_U_followRows 83 = .ok (.lconst 0, 1) := by decide +kernel
theorem d_U_followRows_84 : decode b_U_followRows 84 = .ok (.lcmp, 1) := by decide +kernel
theorem d_U_followRows_85 : decode b_U_followRows 85 = .ok (.ifCond .ne 9, 3) := by decide +kernel
theorem d_U_followRows_88 : decode b_U_followRows 88 = .ok (.aload_n 0, 1) := by decide +kernel
theorem d_U_followRows_89 : decode b_U_followRows 89 = .ok (.iconst 1, 1) := by decide +kernel
theorem d_U_followRows_90 : decode b_U_followRows 90 = .ok (.putfield 18, 3) := by decide +kernel
theorem d_U_followRows_93 : decode b_U_followRows 93 = .ok (.return_, 1) := by decide +kernel
theorem d_U_followRows_94 : decode b_U_followRows 94 = .ok (.iload 8, 2) := by decide +kernel
theorem d_U_followRows_96 : decode b_U_followRows 96 = .ok (.bipush 6, 2) := by decide +kernel
theorem d_U_followRows_98 : decode b_U_followRows 98 = .ok (.if_icmp .ne 28, 3) := by decide +kernel
theorem d_U_followRows_101 : decode b_U_followRows 101 = .ok (.aload_n 0, 1) := by decide +kernel
theorem d_U_followRows_102 : decode b_U_followRows 102 = .ok (.iload 9, 2) := by decide +kernel
theorem d_U_followRows_104 : decode b_U_followRows 104 = .ok (.invokevirtual 63, 3) := by decide +kernel
theorem d_U_followRows_107 : decode b_U_followRows 107 = .ok (.lconst 0, 1) := by decide +kernel
theorem d_U_followRows_108 : decode b_U_followRows 108 = .ok (.lcmp, 1) := by decide +kernel
theorem d_U_followRows_109 : decode b_U_followRows 109 = .ok (.ifCond .eq 8, 3) := by decide +kernel
theorem d_U_followRows_112 : decode b_U_followRows 112 = .ok (.iload 10, 2) := by decide +kernel
theorem d_U_followRows_114 : decode b_U_followRows 114 = .ok (.goto 7, 3) := by decide +kernel
theorem d_U_followRows_117 : decode b_U_followRows 117 = .ok (.iload 7, 2) := by decide +kernel
theorem d_U_followRows_119 : decode b_U_followRows 119 = .ok (.iconst 1, 1) := by decide +kernel
theorem d_U_followRows_120 : decode b_U_followRows 120 = .ok (.iadd, 1) := by decide +kernel
theorem d_U_followRows_121 : decode b_U_followRows 121 = .ok (.istore 7, 2) := by decide +kernel
theorem d_U_followRows_123 : decode b_U_followRows 123 = .ok (.goto 22, 3) := by decide +kernel
theorem d_U_followRows_126 : decode b_U_followRows 126 = .ok (.aload_n 0, 1) := by decide +kernel
theorem d_U_followRows_127 : decode b_U_followRows 127 = .ok (.iload 9, 2) := by decide +kernel
theorem d_U_followRows_129 : decode b_U_followRows 129 = .ok (.aload_n 0, 1) := by decide +kernel
theorem d_U_followRows_130 : decode b_U_followRows 130 = .ok (.iload 8, 2) := by decide +kernel
theorem d_U_followRows_132 : decode b_U_followRows 132 = .ok (.iload 9, 2) := by decide +kernel
theorem d_U_followRows_134 : decode b_U_followRows 134 = .ok (.iload 10, 2) := by decide +kernel
theorem d_U_followRows_136 : decode b_U_followRows 136 = .ok (.invokevirtual 67, 3) := by decide +kernel
theorem d_U_followRows_139 : decode b_U_followRows 139 = .ok (.invokevirtual 71, 3) := by decide +kernel
theorem d_U_followRows_142 : decode b_U_followRows 142 = .ok (.iinc 7 1, 3) := by decide +kernel
theorem d_U_followRows_145 : decode b_U_followRows 145 = .ok (.aload_n 0, 1) := by decide +kernel
theorem d_U_followRows_146 : decode b_U_followRows 146 = .ok (.dup, 1) := by decide +kernel
theorem d_U_followRows_147 : decode b_U_followRows 147 = .ok (.getfield 31, 3) := by decide +kernel
theorem d_U_followRows_150 : decode b_U_followRows 150 = .ok (.iconst 1, 1) := by decide +kernel
theorem d_U_followRows_151 : decode b_U_followRows 151 = .ok (.iadd, 1) := by decide +kernel
theorem d_U_followRows_152 : decode b_U_followRows 152 = .ok (.putfield 31, 3) := by decide +kernel
theorem d_U_followRows_155 : decode b_U_followRows 155 = .ok (.goto (-133), 3) := by decide +kernel
theorem d_U_followRows_158 : decode b_U_followRows 158 = .ok (.aload_n 0, 1) := by decide +kernel
theorem d_U_followRows_159 : decode b_U_followRows 159 = .ok (.iload 7, 2) := by decide +kernel
theorem d_U_followRows_161 : decode b_U_followRows 161 = .ok (.iload 6, 2) := by decide +kernel
theorem d_U_followRows_163 : decode b_U_followRows 163 = .ok (.if_icmp .ge 7, 3) := by decide +kernel
theorem d_U_followRows_166 : decode b_U_followRows 166 = .ok (.iconst 2, 1) := by decide +kernel
theorem d_U_followRows_167 : decode b_U_followRows 167 = .ok (.goto 4, 3) := by decide +kernel
theorem d_U_followRows_170 : decode b_U_followRows 170 = .ok (.iconst 0, 1) := by decide +kernel
theorem d_U_followRows_171 : decode b_U_followRows 171 = .ok (.putfield 18, 3) := by decide +kernel
theorem d_U_followRows_174 : decode b_U_followRows 174 = .ok (.return_, 1) := by decide +kernel
theorem d_U_resultOf_0 : decode b_U_resultOf 0 = .ok (.iload_n 1, 1) := by decide +kernel
theorem d_U_resultOf_1 : decode b_U_resultOf 1 = .ok (.lookupswitch 36 #[(0, 27), (7, 30)], 27) := by decide +kernel
theorem d_U_resultOf_28 : decode b_U_resultOf 28 = .ok (.iload_n 3, 1) := by decide +kernel
theorem d_U_resultOf_29 : decode b_U_resultOf 29 = .ok (.i2l, 1) := by decide +kernel
theorem d_U_resultOf_30 : decode b_U_resultOf 30 = .ok (.lreturn, 1) := by decide +kernel
theorem d_U_resultOf_31 : decode b_U_resultOf 31 = .ok (.aload_n 0, 1) := by decide +kernel
theorem d_U_resultOf_32 : decode b_U_resultOf 32 = .ok (.iload_n 3, 1) := by decide +kernel
theorem d_U_resultOf_33 : decode b_U_resultOf 33 = .ok (.invokevirtual 63, 3) := by decide +kernel
theorem d_U_resultOf_36 : decode b_U_resultOf 36 = .ok (.lreturn, 1) := by decide +kernel
theorem d_U_resultOf_37 : decode b_U_resultOf 37 = .ok (.iload_n 1, 1) := by decide +kernel
theorem d_U_resultOf_38 : decode b_U_resultOf 38 = .ok (.aload_n 0, 1) := by decide +kernel
theorem d_U_resultOf_39 : decode b_U_resultOf 39 = .ok (.iload_n 2, 1) := by decide +kernel
theorem d_U_resultOf_40 : decode b_U_resultOf 40 = .ok (.invokevirtual 63, 3) := by decide +kernel
theorem d_U_resultOf_43 : decode b_U_resultOf 43 = .ok (.aload_n 0, 1) := by decide +kernel
theorem d_U_resultOf_44 : decode b_U_resultOf 44 = .ok (.iload_n 3, 1) := by decide +kernel
theorem d_U_resultOf_45 : decode b_U_resultOf 45 = .ok (.invokevirtual 63, 3) := by decide +kernel
theorem d_U_resultOf_48 : decode b_U_resultOf 48 = .ok (.invokestatic 75, 3) := by decide +kernel
theorem d_U_resultOf_51 : decode b_U_resultOf 51 = .ok (.lreturn, 1) := by decide +kernel
theorem d_U_didAs_0 : decode b_U_didAs 0 = .ok (.iconst 0, 1) := by decide +kernel
theorem d_U_didAs_1 : decode b_U_didAs 1 = .ok (.istore_n 2, 1) := by decide +kernel
theorem d_U_didAs_2 : decode b_U_didAs 2 = .ok (.iload_n 2, 1) := by decide +kernel
theorem d_U_didAs_3 : decode b_U_didAs 3 = .ok (.iconst 4, 1) := by decide +kernel
theorem d_U_didAs_4 : decode b_U_didAs 4 = .ok (.if_icmp .ge 27, 3) := by decide +kernel
theorem d_U_didAs_7 : decode b_U_didAs 7 = .ok (.aload_n 0, 1) := by decide +kernel
theorem d_U_didAs_8 : decode b_U_didAs 8 = .ok (.getfield 9, 3) := by decide +kernel
theorem d_U_didAs_11 : decode b_U_didAs 11 = .ok (.iload_n 2, 1) := by decide +kernel
theorem d_U_didAs_12 : decode b_U_didAs 12 = .ok (.laload, 1) := by decide +kernel
theorem d_U_didAs_13 : decode b_U_didAs 13 = .ok (.aload_n 1, 1) := by decide +kernel
theorem d_U_didAs_14 : decode b_U_didAs 14 = .ok (.getfield 9, 3) := by decide +kernel
theorem d_U_didAs_17 : decode b_U_didAs 17 = .ok (.iload_n 2, 1) := by decide +kernel
theorem d_U_didAs_18 : decode b_U_didAs 18 = .ok (.laload, 1) := by decide +kernel
theorem d_U_didAs_19 : decode b_U_didAs 19 = .ok (.lcmp, 1) := by decide +kernel
theorem d_U_didAs_20 : decode b_U_didAs 20 = .ok (.ifCond .eq 5, 3) := by decide +kernel
theorem d_U_didAs_23 : decode b_U_didAs 23 = .ok (.iconst 0, 1) := by decide +kernel
theorem d_U_didAs_24 : decode b_U_didAs 24 = .ok (.ireturn, 1) := by decide +kernel
theorem d_U_didAs_25 : decode b_U_didAs 25 = .ok (.iinc 2 1, 3) := by decide +kernel
theorem d_U_didAs_28 : decode b_U_didAs 28 = .ok (.goto (-26), 3) := by decide +kernel
theorem d_U_didAs_31 : decode b_U_didAs 31 = .ok (.aload_n 0, 1) := by decide +kernel
theorem d_U_didAs_32 : decode b_U_didAs 32 = .ok (.getfield 31, 3) := by decide +kernel
theorem d_U_didAs_35 : decode b_U_didAs 35 = .ok (.aload_n 1, 1) := by decide +kernel
theorem d_U_didAs_36 : decode b_U_didAs 36 = .ok (.getfield 31, 3) := by decide +kernel
theorem d_U_didAs_39 : decode b_U_didAs 39 = .ok (.if_icmp .ne 18, 3) := by decide +kernel
theorem d_U_didAs_42 : decode b_U_didAs 42 = .ok (.aload_n 0, 1) := by decide +kernel
theorem d_U_didAs_43 : decode b_U_didAs 43 = .ok (.getfield 18, 3) := by decide +kernel
theorem d_U_didAs_46 : decode b_U_didAs 46 = .ok (.aload_n 1, 1) := by decide +kernel
theorem d_U_didAs_47 : decode b_U_didAs 47 = .ok (.getfield 18, 3) := by decide +kernel
theorem d_U_didAs_50 : decode b_U_didAs 50 = .ok (.if_icmp .ne 7, 3) := by decide +kernel
theorem d_U_didAs_53 : decode b_U_didAs 53 = .ok (.iconst 1, 1) := by decide +kernel
theorem d_U_didAs_54 : decode b_U_didAs 54 = .ok (.goto 4, 3) := by decide +kernel
theorem d_U_didAs_57 : decode b_U_didAs 57 = .ok (.iconst 0, 1) := by decide +kernel
theorem d_U_didAs_58 : decode b_U_didAs 58 = .ok (.ireturn, 1) := by decide +kernel
end
section
theorem d_M_init_0 : decode b_M_init 0 = .ok (.aload_n 0, 1) := by decide +kernel
theorem d_M_init_1 : decode b_M_init 1 = .ok (.invokespecial 3, 3) := by decide +kernel
theorem d_M_init_4 : decode b_M_init 4 = .ok (.aload_n 0, 1) := by decide +kernel
theorem d_M_init_5 : decode b_M_init 5 = .ok (.new 9, 3) := by decide +kernel
theorem d_M_init_8 : decode b_M_init 8 = .ok (.dup, 1) := by decide +kernel
theorem d_M_init_9 : decode b_M_init 9 = .ok (.invokespecial 11, 3) := by decide +kernel
theorem d_M_init_12 : decode b_M_init 12 = .ok (.putfield 12, 3) := by decide +kernel
theorem d_M_init_15 : decode b_M_init 15 = .ok (.aload_n 0, 1) := by decide +kernel
theorem d_M_init_16 : decode b_M_init 16 = .ok (.new 16, 3) := by decide +kernel
theorem d_M_init_19 : decode b_M_init 19 = .ok (.dup, 1) := by decide +kernel
theorem d_M_init_20 : decode b_M_init 20 = .ok (.invokespecial 18, 3) := by decide +kernel
theorem d_M_init_23 : decode b_M_init 23 = .ok (.putfield 19, 3) := by decide +kernel
theorem d_M_init_26 : decode b_M_init 26 = .ok (.aload_n 0, 1) := by decide +kernel
theorem d_M_init_27 : decode b_M_init 27 = .ok (.new 23, 3) := by decide +kernel
theorem d_M_init_30 : decode b_M_init 30 = .ok (.dup, 1) := by decide +kernel
theorem d_M_init_31 : decode b_M_init 31 = .ok (.invokespecial 25, 3) := by decide +kernel
theorem d_M_init_34 : decode b_M_init 34 = .ok (.putfield 26, 3) := by decide +kernel
theorem d_M_init_37 : decode b_M_init 37 = .ok (.aload_n 0, 1) := by decide +kernel
theorem d_M_init_38 : decode b_M_init 38 = .ok (.new 23, 3) := by decide +kernel
theorem d_M_init_41 : decode b_M_init 41 = .ok (.dup, 1) := by decide +kernel
theorem d_M_init_42 : decode b_M_init 42 = .ok (.invokespecial 25, 3) := by decide +kernel
theorem d_M_init_45 : decode b_M_init 45 = .ok (.putfield 30, 3) := by decide +kernel
theorem d_M_init_48 : decode b_M_init 48 = .ok (.aload_n 0, 1) := by decide +kernel
theorem d_M_init_49 : decode b_M_init 49 = .ok (.new 23, 3) := by decide +kernel
theorem d_M_init_52 : decode b_M_init 52 = .ok (.dup, 1) := by decide +kernel
theorem d_M_init_53 : decode b_M_init 53 = .ok (.invokespecial 25, 3) := by decide +kernel
theorem d_M_init_56 : decode b_M_init 56 = .ok (.putfield 33, 3) := by decide +kernel
theorem d_M_init_59 : decode b_M_init 59 = .ok (.aload_n 0, 1) := by decide +kernel
theorem d_M_init_60 : decode b_M_init 60 = .ok (.iconst 1, 1) := by decide +kernel
theorem d_M_init_61 : decode b_M_init 61 = .ok (.iload_n 1, 1) := by decide +kernel
theorem d_M_init_62 : decode b_M_init 62 = .ok (.iconst 1, 1) := by decide +kernel
theorem d_M_init_63 : decode b_M_init 63 = .ok (.isub, 1) := by decide +kernel
theorem d_M_init_64 : decode b_M_init 64 = .ok (.bipush 8, 2) := by decide +kernel
theorem d_M_init_66 : decode b_M_init 66 = .ok (.invokestatic 36, 3) := by decide +kernel
theorem d_M_init_69 : decode b_M_init 69 = .ok (.iadd, 1) := by decide +kernel
theorem d_M_init_70 : decode b_M_init 70 = .ok (.putfield 42, 3) := by decide +kernel
theorem d_M_init_73 : decode b_M_init 73 = .ok (.return_, 1) := by decide +kernel
theorem d_M_border_0 : decode b_M_border 0 = .ok (.iconst 0, 1) := by decide +kernel
theorem d_M_border_1 : decode b_M_border 1 = .ok (.istore_n 1, 1) := by decide +kernel
theorem d_M_border_2 : decode b_M_border 2 = .ok (.iconst 0, 1) := by decide +kernel
theorem d_M_border_3 : decode b_M_border 3 = .ok (.istore_n 2, 1) := by decide +kernel
theorem d_M_border_4 : decode b_M_border 4 = .ok (.iload_n 2, 1) := by decide +kernel
theorem d_M_border_5 : decode b_M_border 5 = .ok (.aload_n 0, 1) := by decide +kernel
theorem d_M_border_6 : decode b_M_border 6 = .ok (.getfield 12, 3) := by decide +kernel
theorem d_M_border_9 : decode b_M_border 9 = .ok (.invokevirtual 46, 3) := by decide +kernel
theorem d_M_border_12 : decode b_M_border 12 = .ok (.if_icmp .ge 68, 3) := by decide +kernel
theorem d_M_border_15 : decode b_M_border 15 = .ok (.aload_n 0, 1) := by decide +kernel
theorem d_M_border_16 : decode b_M_border 16 = .ok (.getfield 12, 3) := by decide +kernel
theorem d_M_border_19 : decode b_M_border 19 = .ok (.iload_n 2, 1) := by decide +kernel
theorem d_M_border_20 : decode b_M_border 20 = .ok (.invokevirtual 134, 3) := by decide +kernel
theorem d_M_border_23 : decode b_M_border 23 = .ok (.checkcast 57, 3) := by decide +kernel
theorem d_M_border_26 : decode b_M_border 26 = .ok (.astore_n 3, 1) := by decide +kernel
theorem d_M_border_27 : decode b_M_border 27 = .ok (.aload_n 3, 1) := by decide +kernel
theorem d_M_border_28 : decode b_M_border 28 = .ok (.getfield 100, 3) := by decide +kernel
theorem d_M_border_31 : decode b_M_border 31 = .ok (.iconst 1, 1) := by decide +kernel
theorem d_M_border_32 : decode b_M_border 32 = .ok (.if_icmp .eq 6, 3) := by decide +kernel
theorem d_M_border_35 : decode b_M_border 35 = .ok (.goto 39, 3) := by decide +kernel
theorem d_M_border_38 : decode b_M_border 38 = .ok (.aload_n 0, 1) := by decide +kernel
theorem d_M_border_39 : decode b_M_border 39 = .ok (.getfield 19, 3) := by decide +kernel
theorem d_M_border_42 : decode b_M_border 42 = .ok (.aload_n 3, 1) := by decide +kernel
theorem d_M_border_43 : decode b_M_border 43 = .ok (.invokevirtual 130, 3) := by decide +kernel
theorem d_M_border_46 : decode b_M_border 46 = .ok (.ifCond .ne 14, 3) := by decide +kernel
theorem d_M_border_49 : decode b_M_border 49 = .ok (.aload_n 3, 1) := by decide +kernel
theorem d_M_border_50 : decode b_M_border 50 = .ok (.iconst 2, 1) := by decide +kernel
theorem d_M_border_51 : decode b_M_border 51 = .ok (.putfield 100, 3) := by decide +kernel
theorem d_M_border_54 : decode b_M_border 54 = .ok (.iinc 1 1, 3) := by decide +kernel
theorem d_M_border_57 : decode b_M_border 57 = .ok (.goto 17, 3) := by decide +kernel
theorem d_M_border_60 : decode b_M_border 60 = .ok (.aload_n 3, 1) := by decide +kernel
theorem d_M_border_61 : decode b_M_border 61 = .ok (.invokevirtual 90, 3) := by decide +kernel
theorem d_M_border_64 : decode b_M_border 64 = .ok (.aload_n 0, 1) := by decide +kernel
theorem d_M_border_65 : decode b_M_border 65 = .ok (.dup, 1) := by decide +kernel
theorem d_M_border_66 : decode b_M_border 66 = .ok (.getfield 138, 3) := by decide +kernel
theorem d_M_border_69 : decode b_M_border 69 = .ok (.iconst 1, 1) := by decide +kernel
theorem d_M_border_70 : decode b_M_border 70 = .ok (.iadd, 1) := by decide +kernel
theorem d_M_border_71 : decode b_M_border 71 = .ok (.putfield 138, 3) := by decide +kernel
theorem d_M_border_74 : decode b_M_border 74 = .ok (.iinc 2 1, 3) := by decide +kernel
theorem d_M_border_77 : decode b_M_border 77 = .ok (.goto (-73), 3) := by decide +kernel
theorem d_M_border_80 : decode b_M_border 80 = .ok (.iload_n 1, 1) := by decide +kernel
theorem d_M_border_81 : decode b_M_border 81 = .ok (.ireturn, 1) := by decide +kernel
theorem d_M_lengthOf_0 : decode b_M_lengthOf 0 = .ok (.iload_n 0, 1) := by decide +kernel
theorem d_M_lengthOf_1 : decode b_M_lengthOf 1 = .ok (.tableswitch 87 1 16 #[79, 79, 81, 85, 85, 85, 85, 85, 83, 85, 87, 87, 87, 87, 87, 79], 79) := by decide +kernel
theorem d_M_lengthOf_80 : decode b_M_lengthOf 80 = .ok (.iconst 2, 1) := by decide +kernel
theorem d_M_lengthOf_81 : decode b_M_lengthOf 81 = .ok (.ireturn, 1) := by decide +kernel
theorem d_M_lengthOf_82 : decode b_M_lengthOf 82 = .ok (.iconst 5, 1) := by decide +kernel
theorem d_M_lengthOf_83 : decode b_M_lengthOf 83 = .ok (.ireturn, 1) := by decide +kernel
theorem d_M_lengthOf_84 : decode b_M_lengthOf 84 = .ok (.iconst 3, 1) := by decide +kernel
theorem d_M_lengthOf_85 : decode b_M_lengthOf 85 = .ok (.ireturn, 1) := by decide +kernel
theorem d_M_lengthOf_86 : decode b_M_lengthOf 86 = .ok (.iconst 1, 1) := by decide +kernel
theorem d_M_lengthOf_87 : decode b_M_lengthOf 87 = .ok (.ireturn, 1) := by decide +kernel
theorem d_M_lengthOf_88 : decode b_M_lengthOf 88 = .ok (.iconst 0, 1) := by decide +kernel
theorem d_M_lengthOf_89 : decode b_M_lengthOf 89 = .ok (.ireturn, 1) := by decide +kernel
theorem d_M_isRegister_0 : decode b_M_isRegister 0 = .ok (.iload_n 0, 1) := by decide +kernel
theorem d_M_isRegister_1 : decode b_M_isRegister 1 = .ok (.ifCond .lt 12, 3) := by decide +kernel
theorem d_M_isRegister_4 : decode b_M_isRegister 4 = .ok (.iload_n 0, 1) := by decide +kernel
theorem d_M_isRegister_5 : decode b_M_isRegister 5 = .ok (.iconst 4, 1) := by decide +kernel
theorem d_M_isRegister_6 : decode b_M_isRegister 6 = .ok (.if_icmp .ge 7, 3) := by decide +kernel
theorem d_M_isRegister_9 : decode b_M_isRegister 9 = .ok (.iconst 1, 1) := by decide +kernel
theorem d_M_isRegister_10 : decode b_M_isRegister 10 = .ok (.goto 4, 3) := by decide +kernel
theorem d_M_isRegister_13 : decode b_M_isRegister 13 = .ok (.iconst 0, 1) := by decide +kernel
theorem d_M_isRegister_14 : decode b_M_isRegister 14 = .ok (.ireturn, 1) := by decide +kernel
theorem d_M_next_0 : decode b_M_next 0 = .ok (.aload_n 0, 1) := by decide +kernel
theorem d_M_next_1 : decode b_M_next 1 = .ok (.dup, 1) := by decide +kernel
theorem d_M_next_2 : decode b_M_next 2 = .ok (.getfield 103, 3) := by decide +kernel
theorem d_M_next_5 : decode b_M_next 5 = .ok (.iconst 1, 1) := by decide +kernel
theorem d_M_next_6 : decode b_M_next 6 = .ok (.iadd, 1) := by decide +kernel
theorem d_M_next_7 : decode b_M_next 7 = .ok (.putfield 103, 3) := by decide +kernel
theorem d_M_next_10 : decode b_M_next 10 = .ok (.aload_n 0, 1) := by decide +kernel
theorem d_M_next_11 : decode b_M_next 11 = .ok (.invokevirtual 143, 3) := by decide +kernel
theorem d_M_next_14 : decode b_M_next 14 = .ok (.istore_n 1, 1) := by decide +kernel
theorem d_M_next_15 : decode b_M_next 15 = .ok (.iconst 0, 1) := by decide +kernel
theorem d_M_next_16 : decode b_M_next 16 = .ok (.istore_n 2, 1) := by decide +kernel
theorem d_M_next_17 : decode b_M_next 17 = .ok (.iconst 0, 1) := by decide +kernel
theorem d_M_next_18 : decode b_M_next 18 = .ok (.istore_n 3, 1) := by decide +kernel
theorem d_M_next_19 : decode b_M_next 19 = .ok (.iload_n 3, 1) := by decide +kernel
theorem d_M_next_20 : decode b_M_next 20 = .ok (.aload_n 0, 1) := by decide +kernel
theorem d_M_next_21 : decode b_M_next 21 = .ok (.getfield 12, 3) := by decide +kernel
theorem d_M_next_24 : decode b_M_next 24 = .ok (.invokevirtual 46, 3) := by decide +kernel
theorem d_M_next_27 : decode b_M_next 27 = .ok (.if_icmp .ge 47, 3) := by decide +kernel
theorem d_M_next_30 : decode b_M_next 30 = .ok (.aload_n 0, 1) := by decide +kernel
theorem d_M_next_31 : decode b_M_next 31 = .ok (.getfield 12, 3) := by decide +kernel
theorem d_M_next_34 : decode b_M_next 34 = .ok (.iload_n 3, 1) := by decide +kernel
theorem d_M_next_35 : decode b_M_next 35 = .ok (.invokevirtual 134, 3) := by decide +kernel
theorem d_M_next_38 : decode b_M_next 38 = .ok (.checkcast 57, 3) := by decide +kernel
theorem d_M_next_41 : decode b_M_next 41 = .ok (.astore 4, 2) := by decide +kernel
theorem d_M_next_43 : decode b_M_next 43 = .ok (.aload 4, 2) := by decide +kernel
theorem d_M_next_45 : decode b_M_next 45 = .ok (.getfield 100, 3) := by decide +kernel
theorem d_M_next_48 : decode b_M_next 48 = .ok (.ifCond .eq 20, 3) := by decide +kernel
theorem d_M_next_51 : decode b_M_next 51 = .ok (.aload 4, 2) := by decide +kernel
theorem d_M_next_53 : decode b_M_next 53 = .ok (.getfield 106, 3) := by decide +kernel
theorem d_M_next_56 : decode b_M_next 56 = .ok (.iload_n 1, 1) := by decide +kernel
theorem d_M_next_57 : decode b_M_next 57 = .ok (.if_icmp .ge 11, 3) := by decide +kernel
theorem d_M_next_60 : decode b_M_next 60 = .ok (.aload 4, 2) := by decide +kernel
theorem d_M_next_62 : decode b_M_next 62 = .ok (.invokevirtual 90, 3) := by decide +kernel
theorem d_M_next_65 : decode b_M_next 65 = .ok (.iinc 2 1, 3) := by decide +kernel
theorem d_M_next_68 : decode b_M_next 68 = .ok (.iinc 3 1, 3) := by decide +kernel
theorem d_M_next_71 : decode b_M_next 71 = .ok (.goto (-52), 3) := by decide +kernel
theorem d_M_next_74 : decode b_M_next 74 = .ok (.iload_n 2, 1) := by decide +kernel
theorem d_M_next_75 : decode b_M_next 75 = .ok (.ireturn, 1) := by decide +kernel
theorem d_M_oldestGeneration_0 : decode b_M_oldestGeneration 0 = .ok (.iconst 0, 1) := by decide +kernel
theorem d_M_oldestGeneration_1 : decode b_M_oldestGeneration 1 = .ok (.aload_n 0, 1) := by decide +kernel
theorem d_M_oldestGeneration_2 : decode b_M_oldestGeneration 2 = .ok (.getfield 103, 3) := by decide +kernel
theorem d_M_oldestGeneration_5 : decode b_M_oldestGeneration 5 = .ok (.aload_n 0, 1) := by decide +kernel
theorem d_M_oldestGeneration_6 : decode b_M_oldestGeneration 6 = .ok (.getfield 42, 3) := by decide +kernel
theorem d_M_oldestGeneration_9 : decode b_M_oldestGeneration 9 = .ok (.isub, 1) := by decide +kernel
theorem d_M_oldestGeneration_10 : decode b_M_oldestGeneration 10 = .ok (.iconst 1, 1) := by decide +kernel
theorem d_M_oldestGeneration_11 : decode b_M_oldestGeneration 11 = .ok (.iadd, 1) := by decide +kernel
theorem d_M_oldestGeneration_12 : decode b_M_oldestGeneration 12 = .ok (.invokestatic 189, 3) := by decide +kernel
theorem d_M_oldestGeneration_15 : decode b_M_oldestGeneration 15 = .ok (.ireturn, 1) := by decide +kernel
theorem d_M_count_0 : decode b_M_count 0 = .ok (.iload_n 1, 1) := by decide +kernel
theorem d_M_count_1 : decode b_M_count 1 = .ok (.tableswitch 101 0 8 #[51, 59, 64, 69, 75, 81, 86, 91, 96], 51) := by decide +kernel
theorem d_M_count_52 : decode b_M_count 52 = .ok (.aload_n 0, 1) := by decide +kernel
theorem d_M_count_53 : decode b_M_count 53 = .ok (.getfield 12, 3) := by decide +kernel
theorem d_M_count_56 : decode b_M_count 56 = .ok (.invokevirtual 46, 3) := by decide +kernel
theorem d_M_count_59 : decode b_M_count 59 = .ok (.ireturn, 1) := by decide +kernel
theorem d_M_count_60 : decode b_M_count 60 = .ok (.aload_n 0, 1) := by decide +kernel
theorem d_M_count_61 : decode b_M_count 61 = .ok (.getfield 103, 3) := by decide +kernel
theorem d_M_count_64 : decode b_M_count 64 = .ok (.ireturn, 1) := by decide +kernel
theorem d_M_count_65 : decode b_M_count 65 = .ok (.aload_n 0, 1) := by decide +kernel
theorem d_M_count_66 : decode b_M_count 66 = .ok (.invokevirtual 143, 3) := by decide +kernel
theorem d_M_count_69 : decode b_M_count 69 = .ok (.ireturn, 1) := by decide +kernel
theorem d_M_count_70 : decode b_M_count 70 = .ok (.aload_n 0, 1) := by decide +kernel
theorem d_M_count_71 : decode b_M_count 71 = .ok (.iconst 2, 1) := by decide +kernel
theorem d_M_count_72 : decode b_M_count 72 = .ok (.invokevirtual 184, 3) := by decide +kernel
theorem d_M_count_75 : decode b_M_count 75 = .ok (.ireturn, 1) := by decide +kernel
theorem d_M_count_76 : decode b_M_count 76 = .ok (.aload_n 0, 1) := by decide +kernel
theorem d_M_count_77 : decode b_M_count 77 = .ok (.iconst 1, 1) := by decide +kernel
theorem d_M_count_78 : decode b_M_count 78 = .ok (.invokevirtual 184, 3) := by decide +kernel
theorem d_M_count_81 : decode b_M_count 81 = .ok (.ireturn, 1) := by decide +kernel
theorem d_M_count_82 : decode b_M_count 82 = .ok (.aload_n 0, 1) := by decide +kernel
theorem d_M_count_83 : decode b_M_count 83 = .ok (.getfield 138, 3) := by decide +kernel
theorem d_M_count_86 : decode b_M_count 86 = .ok (.ireturn, 1) := by decide +kernel
theorem d_M_count_87 : decode b_M_count 87 = .ok (.aload_n 0, 1) := by decide +kernel
theorem d_M_count_88 : decode b_M_count 88 = .ok (.getfield 153, 3) := by decide +kernel
theorem d_M_count_91 : decode b_M_count 91 = .ok (.ireturn, 1) := by decide +kernel
theorem d_M_count_92 : decode b_M_count 92 = .ok (.aload_n 0, 1) := by decide +kernel
theorem d_M_count_93 : decode b_M_count 93 = .ok (.getfield 156, 3) := by decide +kernel
theorem d_M_count_96 : decode b_M_count 96 = .ok (.ireturn, 1) := by decide +kernel
theorem d_M_count_97 : decode b_M_count 97 = .ok (.aload_n 0, 1) := by decide +kernel
theorem d_M_count_98 : decode b_M_count 98 = .ok (.getfield 42, 3) := by decide +kernel
theorem d_M_count_101 : decode b_M_count 101 = .ok (.ireturn, 1) := by decide +kernel
theorem d_M_count_102 : decode b_M_count 102 = .ok (.iconst (-1), 1) := by decide +kernel
theorem d_M_count_103 : decode b_M_count 103 = .ok (.ireturn, 1) := by decide +kernel
theorem d_M_blocksThatAre_0 : decode b_M_blocksThatAre 0 = .ok (.iconst 0, 1) := by decide +kernel
theorem d_M_blocksThatAre_1 : decode b_M_blocksThatAre 1 = .ok (.istore_n 2, 1) := by decide +kernel
theorem d_M_blocksThatAre_2 : decode b_M_blocksThatAre 2 = .ok (.iconst 0, 1) := by decide +kernel
theorem d_M_blocksThatAre_3 : decode b_M_blocksThatAre 3 = .ok (.istore_n 3, 1) := by decide +kernel
theorem d_M_blocksThatAre_4 : decode b_M_blocksThatAre 4 = .ok (.iload_n 3, 1) := by decide +kernel
theorem d_M_blocksThatAre_5 : decode b_M_blocksThatAre 5 = .ok (.aload_n 0, 1) := by decide +kernel
theorem d_M_blocksThatAre_6 : decode b_M_blocksThatAre 6 = .ok (.getfield 12, 3) := by decide +kernel
theorem d_M_blocksThatAre_9 : decode b_M_blocksThatAre 9 = .ok (.invokevirtual 46, 3) := by decide +kernel
theorem d_M_blocksThatAre_12 : decode b_M_blocksThatAre 12 = .ok (.if_icmp .ge 30, 3) := by decide +kernel
theorem d_M_blocksThatAre_15 : decode b_M_blocksThatAre 15 = .ok (.aload_n 0, 1) := by decide +kernel
theorem d_M_blocksThatAre_16 : decode b_M_blocksThatAre 16 = .ok (.getfield 12, 3) := by decide +kernel
theorem d_M_blocksThatAre_19 : decode b_M_blocksThatAre 19 = .ok (.iload_n 3, 1) := by decide +kernel
theorem d_M_blocksThatAre_20 : decode b_M_blocksThatAre 20 = .ok (.invokevirtual 134, 3) := by decide +kernel
theorem d_M_blocksThatAre_23 : decode b_M_blocksThatAre 23 = .ok (.checkcast 57, 3) := by decide +kernel
theorem d_M_blocksThatAre_26 : decode b_M_blocksThatAre 26 = .ok (.getfield 100, 3) := by decide +kernel
theorem d_M_blocksThatAre_29 : decode b_M_blocksThatAre 29 = .ok (.iload_n 1, 1) := by decide +kernel
theorem d_M_blocksThatAre_30 : decode b_M_blocksThatAre 30 = .ok (.if_icmp .ne 6, 3) := by decide +kernel
theorem d_M_blocksThatAre_33 : decode b_M_blocksThatAre 33 = .ok (.iinc 2 1, 3) := by decide +kernel
theorem d_M_blocksThatAre_36 : decode b_M_blocksThatAre 36 = .ok (.iinc 3 1, 3) := by decide +kernel
theorem d_M_blocksThatAre_39 : decode b_M_blocksThatAre 39 = .ok (.goto (-35), 3) := by decide +kernel
theorem d_M_blocksThatAre_42 : decode b_M_blocksThatAre 42 = .ok (.iload_n 2, 1) := by decide +kernel
theorem d_M_blocksThatAre_43 : decode b_M_blocksThatAre 43 = .ok (.ireturn, 1) := by decide +kernel
theorem d_M_block_0 : decode b_M_block 0 = .ok (.aload_n 0, 1) := by decide +kernel
theorem d_M_block_1 : decode b_M_block 1 = .ok (.getfield 12, 3) := by decide +kernel
theorem d_M_block_4 : decode b_M_block 4 = .ok (.invokevirtual 46, 3) := by decide +kernel
theorem d_M_block_7 : decode b_M_block 7 = .ok (.bipush 24, 2) := by decide +kernel
theorem d_M_block_9 : decode b_M_block 9 = .ok (.if_icmp .lt 13, 3) := by decide +kernel
theorem d_M_block_12 : decode b_M_block 12 = .ok (.new 50, 3) := by decide +kernel
theorem d_M_block_15 : decode b_M_block 15 = .ok (.dup, 1) := by decide +kernel
theorem d_M_block_16 : decode b_M_block 16 = .ok (.ldc 52, 2) := by decide +kernel
theorem d_M_block_18 : decode b_M_block 18 = .ok (.invokespecial 54, 3) := by decide +kernel
theorem d_M_block_21 : decode b_M_block 21 = .ok (.athrow, 1) := by decide +kernel
theorem d_M_block_22 : decode b_M_block 22 = .ok (.aload_n 0, 1) := by decide +kernel
theorem d_M_block_23 : decode b_M_block 23 = .ok (.getfield 12, 3) := by decide +kernel
theorem d_M_block_26 : decode b_M_block 26 = .ok (.new 57, 3) := by decide +kernel
theorem d_M_block_29 : decode b_M_block 29 = .ok (.dup, 1) := by decide +kernel
theorem d_M_block_30 : decode b_M_block 30 = .ok (.invokespecial 59, 3) := by decide +kernel
theorem d_M_block_33 : decode b_M_block 33 = .ok (.invokevirtual 60, 3) := by decide +kernel
theorem d_M_block_36 : decode b_M_block 36 = .ok (.pop, 1) := by decide +kernel
theorem d_M_block_37 : decode b_M_block 37 = .ok (.aload_n 0, 1) := by decide +kernel
theorem d_M_block_38 : decode b_M_block 38 = .ok (.getfield 12, 3) := by decide +kernel
theorem d_M_block_41 : decode b_M_block 41 = .ok (.invokevirtual 46, 3) := by decide +kernel
theorem d_M_block_44 : decode b_M_block 44 = .ok (.iconst 1, 1) := by decide +kernel
theorem d_M_block_45 : decode b_M_block 45 = .ok (.isub, 1) := by decide +kernel
theorem d_M_block_46 : decode b_M_block 46 = .ok (.ireturn, 1) := by decide +kernel
theorem d_M_instruction_0 : decode b_M_instruction 0 = .ok (.aload_n 0, 1) := by decide +kernel
theorem d_M_instruction_1 : decode b_M_instruction 1 = .ok (.iload_n 1, 1) := by decide +kernel
theorem d_M_instruction_2 : decode b_M_instruction 2 = .ok (.invokevirtual 64, 3) := by decide +kernel
theorem d_M_instruction_5 : decode b_M_instruction 5 = .ok (.astore 5, 2) := by decide +kernel
theorem d_M_instruction_7 : decode b_M_instruction 7 = .ok (.iload_n 2, 1) := by decide +kernel
theorem d_M_instruction_8 : decode b_M_instruction 8 = .ok (.ifCond .lt 25, 3) := by decide +kernel
theorem d_M_instruction_11 : decode b_M_instruction 11 = .ok (.iload_n 2, 1) := by decide +kernel
theorem d_M_instruction_12 : decode b_M_instruction 12 = .ok (.bipush 7, 2) := by decide +kernel
theorem d_M_instruction_14 : decode b_M_instruction 14 = .ok (.if_icmp .gt 19, 3) := by decide +kernel
theorem d_M_instruction_17 : decode b_M_instruction 17 = .ok (.iload_n 3, 1) := by decide +kernel
theorem d_M_instruction_18 : decode b_M_instruction 18 = .ok (.invokestatic 68, 3) := by decide +kernel
theorem d_M_instruction_21 : decode b_M_instruction 21 = .ok (.ifCond .eq 12, 3) := by decide +kernel
theorem d_M_instruction_24 : decode b_M_instruction 24 = .ok (.iload_n 2, 1) := by decide +kernel
theorem d_M_instruction_25 : decode b_M_instruction 25 = .ok (.iload 4, 2) := by decide +kernel
theorem d_M_instruction_27 : decode b_M_instruction 27 = .ok (.invokestatic 72, 3) := by decide +kernel
theorem d_M_instruction_30 : decode b_M_instruction 30 = .ok (.ifCond .ne 13, 3) := by decide +kernel
theorem d_M_instruction_33 : decode b_M_instruction 33 = .ok (.new 76, 3) := by decide +kernel
theorem d_M_instruction_36 : decode b_M_instruction 36 = .ok (.dup, 1) := by decide +kernel
theorem d_M_instruction_37 : decode b_M_instruction 37 = .ok (.ldc 78, 2) := by decide +kernel
theorem d_M_instruction_39 : decode b_M_instruction 39 = .ok (.invokespecial 80, 3) := by decide +kernel
theorem d_M_instruction_42 : decode b_M_instruction 42 = .ok (.athrow, 1) := by decide +kernel
theorem d_M_instruction_43 : decode b_M_instruction 43 = .ok (.aload 5, 2) := by decide +kernel
theorem d_M_instruction_45 : decode b_M_instruction 45 = .ok (.getfield 81, 3) := by decide +kernel
theorem d_M_instruction_48 : decode b_M_instruction 48 = .ok (.bipush 60, 2) := by decide +kernel
theorem d_M_instruction_50 : decode b_M_instruction 50 = .ok (.if_icmp .lt 13, 3) := by decide +kernel
theorem d_M_instruction_53 : decode b_M_instruction 53 = .ok (.new 50, 3) := by decide +kernel
theorem d_M_instruction_56 : decode b_M_instruction 56 = .ok (.dup, 1) := by decide +kernel
theorem d_M_instruction_57 : decode b_M_instruction 57 = .ok (.ldc 84, 2) := by decide +kernel
theorem d_M_instruction_59 : decode b_M_instruction 59 = .ok (.invokespecial 54, 3) := by decide +kernel
theorem d_M_instruction_62 : decode b_M_instruction 62 = .ok (.athrow, 1) := by decide +kernel
theorem d_M_instruction_63 : decode b_M_instruction 63 = .ok (.aload 5, 2) := by decide +kernel
theorem d_M_instruction_65 : decode b_M_instruction 65 = .ok (.iload_n 2, 1) := by decide +kernel
theorem d_M_instruction_66 : decode b_M_instruction 66 = .ok (.iload_n 3, 1) := by decide +kernel
theorem d_M_instruction_67 : decode b_M_instruction 67 = .ok (.iload 4, 2) := by decide +kernel
theorem d_M_instruction_69 : decode b_M_instruction 69 = .ok (.invokevirtual 86, 3) := by decide +kernel
theorem d_M_instruction_72 : decode b_M_instruction 72 = .ok (.aload 5, 2) := by decide +kernel
theorem d_M_instruction_74 : decode b_M_instruction 74 = .ok (.invokevirtual 90, 3) := by decide +kernel
theorem d_M_instruction_77 : decode b_M_instruction 77 = .ok (.aload 5, 2) := by decide +kernel
theorem d_M_instruction_79 : decode b_M_instruction 79 = .ok (.getfield 81, 3) := by decide +kernel
theorem d_M_instruction_82 : decode b_M_instruction 82 = .ok (.ireturn, 1) := by decide +kernel
theorem d_M_find_0 : decode b_M_find 0 = .ok (.iload_n 1, 1) := by decide +kernel
theorem d_M_find_1 : decode b_M_find 1 = .ok (.ifCond .lt 14, 3) := by decide +kernel
theorem d_M_find_4 : decode b_M_find 4 = .ok (.iload_n 1, 1) := by decide +kernel
theorem d_M_find_5 : decode b_M_find 5 = .ok (.aload_n 0, 1) := by decide +kernel
theorem d_M_find_6 : decode b_M_find 6 = .ok (.getfield 12, 3) := by decide +kernel
theorem d_M_find_9 : decode b_M_find 9 = .ok (.invokevirtual 46, 3) := by decide +kernel
theorem d_M_find_12 : decode b_M_find 12 = .ok (.if_icmp .lt 13, 3) := by decide +kernel
theorem d_M_find_15 : decode b_M_find 15 = .ok (.new 162, 3) := by decide +kernel
theorem d_M_find_18 : decode b_M_find 18 = .ok (.dup, 1) := by decide +kernel
theorem d_M_find_19 : decode b_M_find 19 = .ok (.ldc 187, 2) := by decide +kernel
theorem d_M_find_21 : decode b_M_find 21 = .ok (.invokespecial 166, 3) := by decide +kernel
theorem d_M_find_24 : decode b_M_find 24 = .ok (.athrow, 1) := by decide +kernel
theorem d_M_find_25 : decode b_M_find 25 = .ok (.aload_n 0, 1) := by decide +kernel
theorem d_M_find_26 : decode b_M_find 26 = .ok (.getfield 12, 3) := by decide +kernel
theorem d_M_find_29 : decode b_M_find 29 = .ok (.iload_n 1, 1) := by decide +kernel
theorem d_M_find_30 : decode b_M_find 30 = .ok (.invokevirtual 134, 3) := by decide +kernel
theorem d_M_find_33 : decode b_M_find 33 = .ok (.checkcast 57, 3) := by decide +kernel
theorem d_M_find_36 : decode b_M_find 36 = .ok (.areturn, 1) := by decide +kernel
theorem d_M_isOperand_0 : decode b_M_isOperand 0 = .ok (.iload_n 0, 1) := by decide +kernel
theorem d_M_isOperand_1 : decode b_M_isOperand 1 = .ok (.lookupswitch 45 #[(0, 27), (6, 29)], 27) := by decide +kernel
theorem d_M_isOperand_28 : decode b_M_isOperand 28 = .ok (.iconst 1, 1) := by decide +kernel
theorem d_M_isOperand_29 : decode b_M_isOperand 29 = .ok (.ireturn, 1) := by decide +kernel
theorem d_M_isOperand_30 : decode b_M_isOperand 30 = .ok (.iload_n 1, 1) := by decide +kernel
theorem d_M_isOperand_31 : decode b_M_isOperand 31 = .ok (.ifCond .lt 13, 3) := by decide +kernel
theorem d_M_isOperand_34 : decode b_M_isOperand 34 = .ok (.iload_n 1, 1) := by decide +kernel
theorem d_M_isOperand_35 : decode b_M_isOperand 35 = .ok (.bipush 60, 2) := by decide +kernel
theorem d_M_isOperand_37 : decode b_M_isOperand 37 = .ok (.if_icmp .gt 7, 3) := by decide +kernel
theorem d_M_isOperand_40 : decode b_M_isOperand 40 = .ok (.iconst 1, 1) := by decide +kernel
theorem d_M_isOperand_41 : decode b_M_isOperand 41 = .ok (.goto 4, 3) := by decide +kernel
theorem d_M_isOperand_44 : decode b_M_isOperand 44 = .ok (.iconst 0, 1) := by decide +kernel
theorem d_M_isOperand_45 : decode b_M_isOperand 45 = .ok (.ireturn, 1) := by decide +kernel
theorem d_M_isOperand_46 : decode b_M_isOperand 46 = .ok (.iload_n 1, 1) := by decide +kernel
theorem d_M_isOperand_47 : decode b_M_isOperand 47 = .ok (.invokestatic 68, 3) := by decide +kernel
theorem d_M_isOperand_50 : decode b_M_isOperand 50 = .ok (.ireturn, 1) := by decide +kernel
theorem d_M_make_0 : decode b_M_make 0 = .ok (.aload_n 0, 1) := by decide +kernel
theorem d_M_make_1 : decode b_M_make 1 = .ok (.iload_n 1, 1) := by decide +kernel
theorem d_M_make_2 : decode b_M_make 2 = .ok (.invokevirtual 64, 3) := by decide +kernel
theorem d_M_make_5 : decode b_M_make 5 = .ok (.astore_n 2, 1) := by decide +kernel
theorem d_M_make_6 : decode b_M_make 6 = .ok (.aload_n 2, 1) := by decide +kernel
theorem d_M_make_7 : decode b_M_make 7 = .ok (.invokevirtual 93, 3) := by decide +kernel
theorem d_M_make_10 : decode b_M_make 10 = .ok (.ifCond .ne 9, 3) := by decide +kernel
theorem d_M_make_13 : decode b_M_make 13 = .ok (.aload_n 2, 1) := by decide +kernel
theorem d_M_make_14 : decode b_M_make 14 = .ok (.invokevirtual 90, 3) := by decide +kernel
theorem d_M_make_17 : decode b_M_make 17 = .ok (.iconst (-1), 1) := by decide +kernel
theorem d_M_make_18 : decode b_M_make 18 = .ok (.ireturn, 1) := by decide +kernel
theorem d_M_make_19 : decode b_M_make 19 = .ok (.aload_n 2, 1) := by decide +kernel
theorem d_M_make_20 : decode b_M_make 20 = .ok (.invokevirtual 97, 3) := by decide +kernel
theorem d_M_make_23 : decode b_M_make 23 = .ok (.aload_n 2, 1) := by decide +kernel
theorem d_M_make_24 : decode b_M_make 24 = .ok (.iconst 1, 1) := by decide +kernel
theorem d_M_make_25 : decode b_M_make 25 = .ok (.putfield 100, 3) := by decide +kernel
theorem d_M_make_28 : decode b_M_make 28 = .ok (.aload_n 2, 1) := by decide +kernel
theorem d_M_make_29 : decode b_M_make 29 = .ok (.aload_n 0, 1) := by decide +kernel
theorem d_M_make_30 : decode b_M_make 30 = .ok (.getfield 103, 3) := by decide +kernel
theorem d_M_make_33 : decode b_M_make 33 = .ok (.putfield 106, 3) := by decide +kernel
theorem d_M_make_36 : decode b_M_make 36 = .ok (.aload_n 2, 1) := by decide +kernel
theorem d_M_make_37 : decode b_M_make 37 = .ok (.getfield 107, 3) := by decide +kernel
theorem d_M_make_40 : decode b_M_make 40 = .ok (.ireturn, 1) := by decide +kernel
theorem d_M_byteAt_0 : decode b_M_byteAt 0 = .ok (.aload_n 0, 1) := by decide +kernel
theorem d_M_byteAt_1 : decode b_M_byteAt 1 = .ok (.iload_n 1, 1) := by decide +kernel
theorem d_M_byteAt_2 : decode b_M_byteAt 2 = .ok (.invokevirtual 64, 3) := by decide +kernel
theorem d_M_byteAt_5 : decode b_M_byteAt 5 = .ok (.astore_n 3, 1) := by decide +kernel
theorem d_M_byteAt_6 : decode b_M_byteAt 6 = .ok (.aload_n 3, 1) := by decide +kernel
theorem d_M_byteAt_7 : decode b_M_byteAt 7 = .ok (.getfield 100, 3) := by decide +kernel
theorem d_M_byteAt_10 : decode b_M_byteAt 10 = .ok (.ifCond .ne 13, 3) := by decide +kernel
theorem d_M_byteAt_13 : decode b_M_byteAt 13 = .ok (.new 110, 3) := by decide +kernel
theorem d_M_byteAt_16 : decode b_M_byteAt 16 = .ok (.dup, 1) := by decide +kernel
theorem d_M_byteAt_17 : decode b_M_byteAt 17 = .ok (.ldc 112, 2) := by decide +kernel
theorem d_M_byteAt_19 : decode b_M_byteAt 19 = .ok (.invokespecial 114, 3) := by decide +kernel
theorem d_M_byteAt_22 : decode b_M_byteAt 22 = .ok (.athrow, 1) := by decide +kernel
theorem d_M_byteAt_23 : decode b_M_byteAt 23 = .ok (.aload_n 3, 1) := by decide +kernel
theorem d_M_byteAt_24 : decode b_M_byteAt 24 = .ok (.iload_n 2, 1) := by decide +kernel
theorem d_M_byteAt_25 : decode b_M_byteAt 25 = .ok (.invokevirtual 115, 3) := by decide +kernel
theorem d_M_byteAt_28 : decode b_M_byteAt 28 = .ok (.ifCond .ne 13, 3) := by decide +kernel
theorem d_M_byteAt_31 : decode b_M_byteAt 31 = .ok (.new 76, 3) := by decide +kernel
theorem d_M_byteAt_34 : decode b_M_byteAt 34 = .ok (.dup, 1) := by decide +kernel
theorem d_M_byteAt_35 : decode b_M_byteAt 35 = .ok (.ldc 118, 2) := by decide +kernel
theorem d_M_byteAt_37 : decode b_M_byteAt 37 = .ok (.invokespecial 80, 3) := by decide +kernel
theorem d_M_byteAt_40 : decode b_M_byteAt 40 = .ok (.athrow, 1) := by decide +kernel
theorem d_M_byteAt_41 : decode b_M_byteAt 41 = .ok (.aload_n 3, 1) := by decide +kernel
theorem d_M_byteAt_42 : decode b_M_byteAt 42 = .ok (.iload_n 2, 1) := by decide +kernel
theorem d_M_byteAt_43 : decode b_M_byteAt 43 = .ok (.invokevirtual 120, 3) := by decide +kernel
theorem d_M_byteAt_46 : decode b_M_byteAt 46 = .ok (.ireturn, 1) := by decide +kernel
theorem d_M_alter_0 : decode b_M_alter 0 = .ok (.aload_n 0, 1) := by decide +kernel
theorem d_M_alter_1 : decode b_M_alter 1 = .ok (.iload_n 1, 1) := by decide +kernel
theorem d_M_alter_2 : decode b_M_alter 2 = .ok (.invokevirtual 64, 3) := by decide +kernel
theorem d_M_alter_5 : decode b_M_alter 5 = .ok (.astore 4, 2) := by decide +kernel
theorem d_M_alter_7 : decode b_M_alter 7 = .ok (.aload 4, 2) := by decide +kernel
theorem d_M_alter_9 : decode b_M_alter 9 = .ok (.getfield 100, 3) := by decide +kernel
theorem d_M_alter_12 : decode b_M_alter 12 = .ok (.iconst 1, 1) := by decide +kernel
theorem d_M_alter_13 : decode b_M_alter 13 = .ok (.if_icmp .eq 13, 3) := by decide +kernel
theorem d_M_alter_16 : decode b_M_alter 16 = .ok (.new 110, 3) := by decide +kernel
theorem d_M_alter_19 : decode b_M_alter 19 = .ok (.dup, 1) := by decide +kernel
theorem d_M_alter_20 : decode b_M_alter 20 = .ok (.ldc 124, 2) := by decide +kernel
theorem d_M_alter_22 : decode b_M_alter 22 = .ok (.invokespecial 114, 3) := by decide +kernel
theorem d_M_alter_25 : decode b_M_alter 25 = .ok (.athrow, 1) := by decide +kernel
theorem d_M_alter_26 : decode b_M_alter 26 = .ok (.aload 4, 2) := by decide +kernel
theorem d_M_alter_28 : decode b_M_alter 28 = .ok (.iload_n 2, 1) := by decide +kernel
theorem d_M_alter_29 : decode b_M_alter 29 = .ok (.invokevirtual 115, 3) := by decide +kernel
theorem d_M_alter_32 : decode b_M_alter 32 = .ok (.ifCond .eq 14, 3) := by decide +kernel
theorem d_M_alter_35 : decode b_M_alter 35 = .ok (.iload_n 3, 1) := by decide +kernel
theorem d_M_alter_36 : decode b_M_alter 36 = .ok (.ifCond .lt 10, 3) := by decide +kernel
theorem d_M_alter_39 : decode b_M_alter 39 = .ok (.iload_n 3, 1) := by decide +kernel
theorem d_M_alter_40 : decode b_M_alter 40 = .ok (.sipush 255, 3) := by decide +kernel
theorem d_M_alter_43 : decode b_M_alter 43 = .ok (.if_icmp .le 13, 3) := by decide +kernel
theorem d_M_alter_46 : decode b_M_alter 46 = .ok (.new 76, 3) := by decide +kernel
theorem d_M_alter_49 : decode b_M_alter 49 = .ok (.dup, 1) := by decide +kernel
theorem d_M_alter_50 : decode b_M_alter 50 = .ok (.ldc 118, 2) := by decide +kernel
theorem d_M_alter_52 : decode b_M_alter 52 = .ok (.invokespecial 80, 3) := by decide +kernel
theorem d_M_alter_55 : decode b_M_alter 55 = .ok (.athrow, 1) := by decide +kernel
theorem d_M_alter_56 : decode b_M_alter 56 = .ok (.aload 4, 2) := by decide +kernel
theorem d_M_alter_58 : decode b_M_alter 58 = .ok (.iload_n 2, 1) := by decide +kernel
theorem d_M_alter_59 : decode b_M_alter 59 = .ok (.invokevirtual 120, 3) := by decide +kernel
theorem d_M_alter_62 : decode b_M_alter 62 = .ok (.istore 5, 2) := by decide +kernel
theorem d_M_alter_64 : decode b_M_alter 64 = .ok (.aload 4, 2) := by decide +kernel
theorem d_M_alter_66 : decode b_M_alter 66 = .ok (.iload_n 2, 1) := by decide +kernel
theorem d_M_alter_67 : decode b_M_alter 67 = .ok (.iload_n 3, 1) := by decide +kernel
theorem d_M_alter_68 : decode b_M_alter 68 = .ok (.invokevirtual 126, 3) := by decide +kernel
theorem d_M_alter_71 : decode b_M_alter 71 = .ok (.iload 5, 2) := by decide +kernel
theorem d_M_alter_73 : decode b_M_alter 73 = .ok (.ireturn, 1) := by decide +kernel
theorem d_M_check_0 : decode b_M_check 0 = .ok (.aload_n 0, 1) := by decide +kernel
theorem d_M_check_1 : decode b_M_check 1 = .ok (.iload_n 1, 1) := by decide +kernel
theorem d_M_check_2 : decode b_M_check 2 = .ok (.invokevirtual 64, 3) := by decide +kernel
theorem d_M_check_5 : decode b_M_check 5 = .ok (.astore_n 2, 1) := by decide +kernel
theorem d_M_check_6 : decode b_M_check 6 = .ok (.aload_n 2, 1) := by decide +kernel
theorem d_M_check_7 : decode b_M_check 7 = .ok (.getfield 100, 3) := by decide +kernel
theorem d_M_check_10 : decode b_M_check 10 = .ok (.ifCond .ne 13, 3) := by decide +kernel
theorem d_M_check_13 : decode b_M_check 13 = .ok (.new 110, 3) := by decide +kernel
theorem d_M_check_16 : decode b_M_check 16 = .ok (.dup, 1) := by decide +kernel
theorem d_M_check_17 : decode b_M_check 17 = .ok (.ldc 112, 2) := by decide +kernel
theorem d_M_check_19 : decode b_M_check 19 = .ok (.invokespecial 114, 3) := by decide +kernel
theorem d_M_check_22 : decode b_M_check 22 = .ok (.athrow, 1) := by decide +kernel
theorem d_M_check_23 : decode b_M_check 23 = .ok (.aload_n 0, 1) := by decide +kernel
theorem d_M_check_24 : decode b_M_check 24 = .ok (.getfield 19, 3) := by decide +kernel
theorem d_M_check_27 : decode b_M_check 27 = .ok (.aload_n 2, 1) := by decide +kernel
theorem d_M_check_28 : decode b_M_check 28 = .ok (.invokevirtual 130, 3) := by decide +kernel
theorem d_M_check_31 : decode b_M_check 31 = .ok (.ireturn, 1) := by decide +kernel
theorem d_M_what_0 : decode b_M_what 0 = .ok (.aload_n 0, 1) := by decide +kernel
theorem d_M_what_1 : decode b_M_what 1 = .ok (.iload_n 1, 1) := by decide +kernel
theorem d_M_what_2 : decode b_M_what 2 = .ok (.invokevirtual 64, 3) := by decide +kernel
theorem d_M_what_5 : decode b_M_what 5 = .ok (.astore_n 3, 1) := by decide +kernel
theorem d_M_what_6 : decode b_M_what 6 = .ok (.iload_n 2, 1) := by decide +kernel
theorem d_M_what_7 : decode b_M_what 7 = .ok (.tableswitch 49 0 3 #[29, 34, 39, 44], 29) := by decide +kernel
theorem d_M_what_36 : decode b_M_what 36 = .ok (.aload_n 3, 1) := by decide +kernel
theorem d_M_what_37 : decode b_M_what 37 = .ok (.getfield 100, 3) := by decide +kernel
theorem d_M_what_40 : decode b_M_what 40 = .ok (.ireturn, 1) := by decide +kernel
theorem d_M_what_41 : decode b_M_what 41 = .ok (.aload_n 3, 1) := by decide +kernel
theorem d_M_what_42 : decode b_M_what 42 = .ok (.getfield 106, 3) := by decide +kernel
theorem d_M_what_45 : decode b_M_what 45 = .ok (.ireturn, 1) := by decide +kernel
theorem d_M_what_46 : decode b_M_what 46 = .ok (.aload_n 3, 1) := by decide +kernel
theorem d_M_what_47 : decode b_M_what 47 = .ok (.getfield 81, 3) := by decide +kernel
theorem d_M_what_50 : decode b_M_what 50 = .ok (.ireturn, 1) := by decide +kernel
theorem d_M_what_51 : decode b_M_what 51 = .ok (.aload_n 3, 1) := by decide +kernel
theorem d_M_what_52 : decode b_M_what 52 = .ok (.getfield 107, 3) := by decide +kernel
theorem d_M_what_55 : decode b_M_what 55 = .ok (.ireturn, 1) := by decide +kernel
theorem d_M_what_56 : decode b_M_what 56 = .ok (.new 76, 3) := by decide +kernel
theorem d_M_what_59 : decode b_M_what 59 = .ok (.dup, 1) := by decide +kernel
theorem d_M_what_60 : decode b_M_what 60 = .ok (.ldc 141, 2) := by decide +kernel
theorem d_M_what_62 : decode b_M_what 62 = .ok (.invokespecial 80, 3) := by decide +kernel
theorem d_M_what_65 : decode b_M_what 65 = .ok (.athrow, 1) := by decide +kernel
theorem d_M_run_0 : decode b_M_run 0 = .ok (.aload_n 0, 1) := by decide +kernel
theorem d_M_run_1 : decode b_M_run 1 = .ok (.iload_n 1, 1) := by decide +kernel
theorem d_M_run_2 : decode b_M_run 2 = .ok (.invokevirtual 64, 3) := by decide +kernel
theorem d_M_run_5 : decode b_M_run 5 = .ok (.astore 6, 2) := by decide +kernel
theorem d_M_run_7 : decode b_M_run 7 = .ok (.aload 6, 2) := by decide +kernel
theorem d_M_run_9 : decode b_M_run 9 = .ok (.getfield 100, 3) := by decide +kernel
theorem d_M_run_12 : decode b_M_run 12 = .ok (.iconst 2, 1) := by decide +kernel
theorem d_M_run_13 : decode b_M_run 13 = .ok (.if_icmp .ne 18, 3) := by decide +kernel
theorem d_M_run_16 : decode b_M_run 16 = .ok (.aload_n 0, 1) := by decide +kernel
theorem d_M_run_17 : decode b_M_run 17 = .ok (.getfield 26, 3) := by decide +kernel
theorem d_M_run_20 : decode b_M_run 20 = .ok (.aload 6, 2) := by decide +kernel
theorem d_M_run_22 : decode b_M_run 22 = .ok (.lload_n 2, 1) := by decide +kernel
theorem d_M_run_23 : decode b_M_run 23 = .ok (.lload 4, 2) := by decide +kernel
theorem d_M_run_25 : decode b_M_run 25 = .ok (.invokevirtual 146, 3) := by decide +kernel
theorem d_M_run_28 : decode b_M_run 28 = .ok (.goto 15, 3) := by decide +kernel
theorem d_M_run_31 : decode b_M_run 31 = .ok (.aload_n 0, 1) := by decide +kernel
theorem d_M_run_32 : decode b_M_run 32 = .ok (.getfield 26, 3) := by decide +kernel
theorem d_M_run_35 : decode b_M_run 35 = .ok (.aload 6, 2) := by decide +kernel
theorem d_M_run_37 : decode b_M_run 37 = .ok (.lload_n 2, 1) := by decide +kernel
theorem d_M_run_38 : decode b_M_run 38 = .ok (.lload 4, 2) := by decide +kernel
theorem d_M_run_40 : decode b_M_run 40 = .ok (.invokevirtual 150, 3) := by decide +kernel
theorem d_M_run_43 : decode b_M_run 43 = .ok (.aload_n 0, 1) := by decide +kernel
theorem d_M_run_44 : decode b_M_run 44 = .ok (.dup, 1) := by decide +kernel
theorem d_M_run_45 : decode b_M_run 45 = .ok (.getfield 153, 3) := by decide +kernel
theorem d_M_run_48 : decode b_M_run 48 = .ok (.iconst 1, 1) := by decide +kernel
theorem d_M_run_49 : decode b_M_run 49 = .ok (.iadd, 1) := by decide +kernel
theorem d_M_run_50 : decode b_M_run 50 = .ok (.putfield 153, 3) := by decide +kernel
theorem d_M_run_53 : decode b_M_run 53 = .ok (.aload_n 0, 1) := by decide +kernel
theorem d_M_run_54 : decode b_M_run 54 = .ok (.dup, 1) := by decide +kernel
theorem d_M_run_55 : decode b_M_run 55 = .ok (.getfield 156, 3) := by decide +kernel
theorem d_M_run_58 : decode b_M_run 58 = .ok (.aload_n 0, 1) := by decide +kernel
theorem d_M_run_59 : decode b_M_run 59 = .ok (.getfield 26, 3) := by decide +kernel
theorem d_M_run_62 : decode b_M_run 62 = .ok (.getfield 159, 3) := by decide +kernel
theorem d_M_run_65 : decode b_M_run 65 = .ok (.iadd, 1) := by decide +kernel
theorem d_M_run_66 : decode b_M_run 66 = .ok (.putfield 156, 3) := by decide +kernel
theorem d_M_run_69 : decode b_M_run 69 = .ok (.aload_n 0, 1) := by decide +kernel
theorem d_M_run_70 : decode b_M_run 70 = .ok (.getfield 26, 3) := by decide +kernel
theorem d_M_run_73 : decode b_M_run 73 = .ok (.getfield 159, 3) := by decide +kernel
theorem d_M_run_76 : decode b_M_run 76 = .ok (.ireturn, 1) := by decide +kernel
theorem d_M_register_0 : decode b_M_register 0 = .ok (.iload_n 1, 1) := by decide +kernel
theorem d_M_register_1 : decode b_M_register 1 = .ok (.invokestatic 68, 3) := by decide +kernel
theorem d_M_register_4 : decode b_M_register 4 = .ok (.ifCond .ne 13, 3) := by decide +kernel
theorem d_M_register_7 : decode b_M_register 7 = .ok (.new 162, 3) := by decide +kernel
theorem d_M_register_10 : decode b_M_register 10 = .ok (.dup, 1) := by decide +kernel
theorem d_M_register_11 : decode b_M_register 11 = .ok (.ldc 164, 2) := by decide +kernel
theorem d_M_register_13 : decode b_M_register 13 = .ok (.invokespecial 166, 3) := by decide +kernel
theorem d_M_register_16 : decode b_M_register 16 = .ok (.athrow, 1) := by decide +kernel
theorem d_M_register_17 : decode b_M_register 17 = .ok (.aload_n 0, 1) := by decide +kernel
theorem d_M_register_18 : decode b_M_register 18 = .ok (.getfield 26, 3) := by decide +kernel
theorem d_M_register_21 : decode b_M_register 21 = .ok (.iload_n 1, 1) := by decide +kernel
theorem d_M_register_22 : decode b_M_register 22 = .ok (.invokevirtual 167, 3) := by decide +kernel
theorem d_M_register_25 : decode b_M_register 25 = .ok (.lreturn, 1) := by decide +kernel
theorem d_M_ended_0 : decode b_M_ended 0 = .ok (.iload_n 1, 1) := by decide +kernel
theorem d_M_ended_1 : decode b_M_ended 1 = .ok (.lookupswitch 51 #[(0, 27), (1, 35)], 27) := by decide +kernel
theorem d_M_ended_28 : decode b_M_ended 28 = .ok (.aload_n 0, 1) := by decide +kernel
theorem d_M_ended_29 : decode b_M_ended 29 = .ok (.getfield 26, 3) := by decide +kernel
theorem d_M_ended_32 : decode b_M_ended 32 = .ok (.getfield 171, 3) := by decide +kernel
theorem d_M_ended_35 : decode b_M_ended 35 = .ok (.ireturn, 1) := by decide +kernel
theorem d_M_ended_36 : decode b_M_ended 36 = .ok (.aload_n 0, 1) := by decide +kernel
theorem d_M_ended_37 : decode b_M_ended 37 = .ok (.getfield 26, 3) := by decide +kernel
theorem d_M_ended_40 : decode b_M_ended 40 = .ok (.getfield 174, 3) := by decide +kernel
theorem d_M_ended_43 : decode b_M_ended 43 = .ok (.ifCond .eq 7, 3) := by decide +kernel
theorem d_M_ended_46 : decode b_M_ended 46 = .ok (.iconst 1, 1) := by decide +kernel
theorem d_M_ended_47 : decode b_M_ended 47 = .ok (.goto 4, 3) := by decide +kernel
theorem d_M_ended_50 : decode b_M_ended 50 = .ok (.iconst 0, 1) := by decide +kernel
theorem d_M_ended_51 : decode b_M_ended 51 = .ok (.ireturn, 1) := by decide +kernel
theorem d_M_ended_52 : decode b_M_ended 52 = .ok (.new 162, 3) := by decide +kernel
theorem d_M_ended_55 : decode b_M_ended 55 = .ok (.dup, 1) := by decide +kernel
theorem d_M_ended_56 : decode b_M_ended 56 = .ok (.ldc 141, 2) := by decide +kernel
theorem d_M_ended_58 : decode b_M_ended 58 = .ok (.invokespecial 166, 3) := by decide +kernel
theorem d_M_ended_61 : decode b_M_ended 61 = .ok (.athrow, 1) := by decide +kernel
theorem d_M_same_0 : decode b_M_same 0 = .ok (.aload_n 0, 1) := by decide +kernel
theorem d_M_same_1 : decode b_M_same 1 = .ok (.iload_n 1, 1) := by decide +kernel
theorem d_M_same_2 : decode b_M_same 2 = .ok (.invokevirtual 64, 3) := by decide +kernel
theorem d_M_same_5 : decode b_M_same 5 = .ok (.astore 6, 2) := by decide +kernel
theorem d_M_same_7 : decode b_M_same 7 = .ok (.aload 6, 2) := by decide +kernel
theorem d_M_same_9 : decode b_M_same 9 = .ok (.getfield 100, 3) := by decide +kernel
theorem d_M_same_12 : decode b_M_same 12 = .ok (.ifCond .eq 15, 3) := by decide +kernel
theorem d_M_same_15 : decode b_M_same 15 = .ok (.aload_n 0, 1) := by decide +kernel
theorem d_M_same_16 : decode b_M_same 16 = .ok (.getfield 19, 3) := by decide +kernel
theorem d_M_same_19 : decode b_M_same 19 = .ok (.aload 6, 2) := by decide +kernel
theorem d_M_same_21 : decode b_M_same 21 = .ok (.invokevirtual 130, 3) := by decide +kernel
theorem d_M_same_24 : decode b_M_same 24 = .ok (.ifCond .eq 13, 3) := by decide +kernel
theorem d_M_same_27 : decode b_M_same 27 = .ok (.new 110, 3) := by decide +kernel
theorem d_M_same_30 : decode b_M_same 30 = .ok (.dup, 1) := by decide +kernel
theorem d_M_same_31 : decode b_M_same 31 = .ok (.ldc 178, 2) := by decide +kernel
theorem d_M_same_33 : decode b_M_same 33 = .ok (.invokespecial 114, 3) := by decide +kernel
theorem d_M_same_36 : decode b_M_same 36 = .ok (.athrow, 1) := by decide +kernel
theorem d_M_same_37 : decode b_M_same 37 = .ok (.aload_n 0, 1) := by decide +kernel
theorem d_M_same_38 : decode b_M_same 38 = .ok (.getfield 30, 3) := by decide +kernel
theorem d_M_same_41 : decode b_M_same 41 = .ok (.aload 6, 2) := by decide +kernel
theorem d_M_same_43 : decode b_M_same 43 = .ok (.lload_n 2, 1) := by decide +kernel
theorem d_M_same_44 : decode b_M_same 44 = .ok (.lload 4, 2) := by decide +kernel
theorem d_M_same_46 : decode b_M_same 46 = .ok (.invokevirtual 150, 3) := by decide +kernel
theorem d_M_same_49 : decode b_M_same 49 = .ok (.aload_n 0, 1) := by decide +kernel
theorem d_M_same_50 : decode b_M_same 50 = .ok (.getfield 33, 3) := by decide +kernel
theorem d_M_same_53 : decode b_M_same 53 = .ok (.aload 6, 2) := by decide +kernel
theorem d_M_same_55 : decode b_M_same 55 = .ok (.lload_n 2, 1) := by decide +kernel
theorem d_M_same_56 : decode b_M_same 56 = .ok (.lload 4, 2) := by decide +kernel
theorem d_M_same_58 : decode b_M_same 58 = .ok (.invokevirtual 146, 3) := by decide +kernel
theorem d_M_same_61 : decode b_M_same 61 = .ok (.aload_n 0, 1) := by decide +kernel
theorem d_M_same_62 : decode b_M_same 62 = .ok (.getfield 30, 3) := by decide +kernel
theorem d_M_same_65 : decode b_M_same 65 = .ok (.aload_n 0, 1) := by decide +kernel
theorem d_M_same_66 : decode b_M_same 66 = .ok (.getfield 33, 3) := by decide +kernel
theorem d_M_same_69 : decode b_M_same 69 = .ok (.invokevirtual 180, 3) := by decide +kernel
theorem d_M_same_72 : decode b_M_same 72 = .ok (.ireturn, 1) := by decide +kernel
end
section
theorem d_A_init_0 : decode b_A_init 0 = .ok (.aload_n 0, 1) := by decide +kernel
theorem d_A_init_1 : decode b_A_init 1 = .ok (.invokespecial 1, 3) := by decide +kernel
theorem d_A_init_4 : decode b_A_init 4 = .ok (.aload_n 0, 1) := by decide +kernel
theorem d_A_init_5 : decode b_A_init 5 = .ok (.getstatic 39, 3) := by decide +kernel
theorem d_A_init_8 : decode b_A_init 8 = .ok (.putfield 9, 3) := by decide +kernel
theorem d_A_init_11 : decode b_A_init 11 = .ok (.return_, 1) := by decide +kernel
theorem d_AL_init_0 : decode b_AL_init 0 = .ok (.aload_n 0, 1) := by decide +kernel
theorem d_AL_init_1 : decode b_AL_init 1 = .ok (.invokespecial 1, 3) := by decide +kernel
theorem d_AL_init_4 : decode b_AL_init 4 = .ok (.aload_n 0, 1) := by decide +kernel
theorem d_AL_init_5 : decode b_AL_init 5 = .ok (.iconst 0, 1) := by decide +kernel
theorem d_AL_init_6 : decode b_AL_init 6 = .ok (.putfield 7, 3) := by decide +kernel
theorem d_AL_init_9 : decode b_AL_init 9 = .ok (.return_, 1) := by decide +kernel
theorem d_AC_init_0 : decode b_AC_init 0 = .ok (.aload_n 0, 1) := by decide +kernel
theorem d_AC_init_1 : decode b_AC_init 1 = .ok (.invokespecial 1, 3) := by decide +kernel
theorem d_AC_init_4 : decode b_AC_init 4 = .ok (.return_, 1) := by decide +kernel
theorem d_Ma_floorMod_0 : decode b_Ma_floorMod 0 = .ok (.iload_n 0, 1) := by decide +kernel
theorem d_Ma_floorMod_1 : decode b_Ma_floorMod 1 = .ok (.iload_n 1, 1) := by decide +kernel
theorem d_Ma_floorMod_2 : decode b_Ma_floorMod 2 = .ok (.irem, 1) := by decide +kernel
theorem d_Ma_floorMod_3 : decode b_Ma_floorMod 3 = .ok (.istore_n 2, 1) := by decide +kernel
theorem d_Ma_floorMod_4 : decode b_Ma_floorMod 4 = .ok (.iload_n 0, 1) := by decide +kernel
theorem d_Ma_floorMod_5 : decode b_Ma_floorMod 5 = .ok (.iload_n 1, 1) := by decide +kernel
theorem d_Ma_floorMod_6 : decode b_Ma_floorMod 6 = .ok (.ixor, 1) := by decide +kernel
theorem d_Ma_floorMod_7 : decode b_Ma_floorMod 7 = .ok (.ifCond .ge 11, 3) := by decide +kernel
theorem d_Ma_floorMod_10 : decode b_Ma_floorMod 10 = .ok (.iload_n 2, 1) := by decide +kernel
theorem d_Ma_floorMod_11 : decode b_Ma_floorMod 11 = .ok (.ifCond .eq 7, 3) := by decide +kernel
theorem d_Ma_floorMod_14 : decode b_Ma_floorMod 14 = .ok (.iload_n 2, 1) := by decide +kernel
theorem d_Ma_floorMod_15 : decode b_Ma_floorMod 15 = .ok (.iload_n 1, 1) := by decide +kernel
theorem d_Ma_floorMod_16 : decode b_Ma_floorMod 16 = .ok (.iadd, 1) := by decide +kernel
theorem d_Ma_floorMod_17 : decode b_Ma_floorMod 17 = .ok (.ireturn, 1) := by decide +kernel
theorem d_Ma_floorMod_18 : decode b_Ma_floorMod 18 = .ok (.iload_n 2, 1) := by decide +kernel
theorem d_Ma_floorMod_19 : decode b_Ma_floorMod 19 = .ok (.ireturn, 1) := by decide +kernel
theorem d_A_size_0 : decode b_A_size 0 = .ok (.aload_n 0, 1) := by decide +kernel
theorem d_A_size_1 : decode b_A_size 1 = .ok (.getfield 48, 3) := by decide +kernel
theorem d_A_size_4 : decode b_A_size 4 = .ok (.ireturn, 1) := by decide +kernel
theorem d_A_get_0 : decode b_A_get 0 = .ok (.iload_n 1, 1) := by decide +kernel
theorem d_A_get_1 : decode b_A_get 1 = .ok (.aload_n 0, 1) := by decide +kernel
theorem d_A_get_2 : decode b_A_get 2 = .ok (.getfield 48, 3) := by decide +kernel
theorem d_A_get_5 : decode b_A_get 5 = .ok (.invokestatic 118, 3) := by decide +kernel
theorem d_A_get_8 : decode b_A_get 8 = .ok (.pop, 1) := by decide +kernel
theorem d_A_get_9 : decode b_A_get 9 = .ok (.aload_n 0, 1) := by decide +kernel
theorem d_A_get_10 : decode b_A_get 10 = .ok (.iload_n 1, 1) := by decide +kernel
theorem d_A_get_11 : decode b_A_get 11 = .ok (.invokevirtual 123, 3) := by decide +kernel
theorem d_A_get_14 : decode b_A_get 14 = .ok (.areturn, 1) := by decide +kernel
theorem d_Ob_checkIndex_0 : decode b_Ob_checkIndex 0 = .ok (.iload_n 0, 1) := by decide +kernel
theorem d_Ob_checkIndex_1 : decode b_Ob_checkIndex 1 = .ok (.iload_n 1, 1) := by decide +kernel
theorem d_Ob_checkIndex_2 : decode b_Ob_checkIndex 2 = .ok (.aconst_null, 1) := by decide +kernel
theorem d_Ob_checkIndex_3 : decode b_Ob_checkIndex 3 = .ok (.invokestatic 105, 3) := by decide +kernel
theorem d_Ob_checkIndex_6 : decode b_Ob_checkIndex 6 = .ok (.ireturn, 1) := by decide +kernel
theorem d_Pr_checkIndex_0 : decode b_Pr_checkIndex 0 = .ok (.iload_n 0, 1) := by decide +kernel
theorem d_Pr_checkIndex_1 : decode b_Pr_checkIndex 1 = .ok (.ifCond .lt 8, 3) := by decide +kernel
theorem d_Pr_checkIndex_4 : decode b_Pr_checkIndex 4 = .ok (.iload_n 0, 1) := by decide +kernel
theorem d_Pr_checkIndex_5 : decode b_Pr_checkIndex 5 = .ok (.iload_n 1, 1) := by decide +kernel
theorem d_Pr_checkIndex_6 : decode b_Pr_checkIndex 6 = .ok (.if_icmp .lt 10, 3) := by decide +kernel
theorem d_Pr_checkIndex_9 : decode b_Pr_checkIndex 9 = .ok (.aload_n 2, 1) := by decide +kernel
theorem d_Pr_checkIndex_10 : decode b_Pr_checkIndex 10 = .ok (.iload_n 0, 1) := by decide +kernel
theorem d_Pr_checkIndex_11 : decode b_Pr_checkIndex 11 = .ok (.iload_n 1, 1) := by decide +kernel
theorem d_Pr_checkIndex_12 : decode b_Pr_checkIndex 12 = .ok (.invokestatic 95, 3) := by decide +kernel
theorem d_Pr_checkIndex_15 : decode b_Pr_checkIndex 15 = .ok (.athrow, 1) := by decide +kernel
theorem d_Pr_checkIndex_16 : decode b_Pr_checkIndex 16 = .ok (.iload_n 0, 1) := by decide +kernel
theorem d_Pr_checkIndex_17 : decode b_Pr_checkIndex 17 = .ok (.ireturn, 1) := by decide +kernel
theorem d_A_elementData_0 : decode b_A_elementData 0 = .ok (.aload_n 0, 1) := by decide +kernel
theorem d_A_elementData_1 : decode b_A_elementData 1 = .ok (.getfield 9, 3) := by decide +kernel
theorem d_A_elementData_4 : decode b_A_elementData 4 = .ok (.iload_n 1, 1) := by decide +kernel
theorem d_A_elementData_5 : decode b_A_elementData 5 = .ok (.aaload, 1) := by decide +kernel
theorem d_A_elementData_6 : decode b_A_elementData 6 = .ok (.areturn, 1) := by decide +kernel
theorem d_Ar_fill_0 : decode b_Ar_fill 0 = .ok (.iconst 0, 1) := by decide +kernel
theorem d_Ar_fill_1 : decode b_Ar_fill 1 = .ok (.istore_n 2, 1) := by decide +kernel
theorem d_Ar_fill_2 : decode b_Ar_fill 2 = .ok (.aload_n 0, 1) := by decide +kernel
theorem d_Ar_fill_3 : decode b_Ar_fill 3 = .ok (.arraylength, 1) := by decide +kernel
theorem d_Ar_fill_4 : decode b_Ar_fill 4 = .ok (.istore_n 3, 1) := by decide +kernel
theorem d_Ar_fill_5 : decode b_Ar_fill 5 = .ok (.iload_n 2, 1) := by decide +kernel
theorem d_Ar_fill_6 : decode b_Ar_fill 6 = .ok (.iload_n 3, 1) := by decide +kernel
theorem d_Ar_fill_7 : decode b_Ar_fill 7 = .ok (.if_icmp .ge 13, 3) := by decide +kernel
theorem d_Ar_fill_10 : decode b_Ar_fill 10 = .ok (.aload_n 0, 1) := by decide +kernel
theorem d_Ar_fill_11 : decode b_Ar_fill 11 = .ok (.iload_n 2, 1) := by decide +kernel
theorem d_Ar_fill_12 : decode b_Ar_fill 12 = .ok (.iload_n 1, 1) := by decide +kernel
theorem d_Ar_fill_13 : decode b_Ar_fill 13 = .ok (.iastore, 1) := by decide +kernel
theorem d_Ar_fill_14 : decode b_Ar_fill 14 = .ok (.iinc 2 1, 3) := by decide +kernel
theorem d_Ar_fill_17 : decode b_Ar_fill 17 = .ok (.goto (-12), 3) := by decide +kernel
theorem d_Ar_fill_20 : decode b_Ar_fill 20 = .ok (.return_, 1) := by decide +kernel
theorem d_Ma_max_0 : decode b_Ma_max 0 = .ok (.iload_n 0, 1) := by decide +kernel
theorem d_Ma_max_1 : decode b_Ma_max 1 = .ok (.iload_n 1, 1) := by decide +kernel
theorem d_Ma_max_2 : decode b_Ma_max 2 = .ok (.if_icmp .lt 7, 3) := by decide +kernel
theorem d_Ma_max_5 : decode b_Ma_max 5 = .ok (.iload_n 0, 1) := by decide +kernel
theorem d_Ma_max_6 : decode b_Ma_max 6 = .ok (.goto 4, 3) := by decide +kernel
theorem d_Ma_max_9 : decode b_Ma_max 9 = .ok (.iload_n 1, 1) := by decide +kernel
theorem d_Ma_max_10 : decode b_Ma_max 10 = .ok (.ireturn, 1) := by decide +kernel
theorem d_A_add_0 : decode b_A_add 0 = .ok (.aload_n 0, 1) := by decide +kernel
theorem d_A_add_1 : decode b_A_add 1 = .ok (.dup, 1) := by decide +kernel
theorem d_A_add_2 : decode b_A_add 2 = .ok (.getfield 63, 3) := by decide +kernel
theorem d_A_add_5 : decode b_A_add 5 = .ok (.iconst 1, 1) := by decide +kernel
theorem d_A_add_6 : decode b_A_add 6 = .ok (.iadd, 1) := by decide +kernel
theorem d_A_add_7 : decode b_A_add 7 = .ok (.putfield 63, 3) := by decide +kernel
theorem d_A_add_10 : decode b_A_add 10 = .ok (.aload_n 0, 1) := by decide +kernel
theorem d_A_add_11 : decode b_A_add 11 = .ok (.aload_n 1, 1) := by decide +kernel
theorem d_A_add_12 : decode b_A_add 12 = .ok (.aload_n 0, 1) := by decide +kernel
theorem d_A_add_13 : decode b_A_add 13 = .ok (.getfield 9, 3) := by decide +kernel
theorem d_A_add_16 : decode b_A_add 16 = .ok (.aload_n 0, 1) := by decide +kernel
theorem d_A_add_17 : decode b_A_add 17 = .ok (.getfield 48, 3) := by decide +kernel
theorem d_A_add_20 : decode b_A_add 20 = .ok (.invokevirtual 131, 3) := by decide +kernel
theorem d_A_add_23 : decode b_A_add 23 = .ok (.iconst 1, 1) := by decide +kernel
theorem d_A_add_24 : decode b_A_add 24 = .ok (.ireturn, 1) := by decide +kernel
theorem d_A_add2_0 : decode b_A_add2 0 = .ok (.iload_n 3, 1) := by decide +kernel
theorem d_A_add2_1 : decode b_A_add2 1 = .ok (.aload_n 2, 1) := by decide +kernel
theorem d_A_add2_2 : decode b_A_add2 2 = .ok (.arraylength, 1) := by decide +kernel
theorem d_A_add2_3 : decode b_A_add2 3 = .ok (.if_icmp .ne 8, 3) := by decide +kernel
theorem d_A_add2_6 : decode b_A_add2 6 = .ok (.aload_n 0, 1) := by decide +kernel
theorem d_A_add2_7 : decode b_A_add2 7 = .ok (.invokevirtual 129, 3) := by decide +kernel
theorem d_A_add2_10 : decode b_A_add2 10 = .ok (.astore_n 2, 1) := by decide +kernel
theorem d_A_add2_11 : decode b_A_add2 11 = .ok (.aload_n 2, 1) := by decide +kernel
theorem d_A_add2_12 : decode b_A_add2 12 = .ok (.iload_n 3, 1) := by decide +kernel
theorem d_A_add2_13 : decode b_A_add2 13 = .ok (.aload_n 1, 1) := by decide +kernel
theorem d_A_add2_14 : decode b_A_add2 14 = .ok (.aastore, 1) := by decide +kernel
theorem d_A_add2_15 : decode b_A_add2 15 = .ok (.aload_n 0, 1) := by decide +kernel
theorem d_A_add2_16 : decode b_A_add2 16 = .ok (.iload_n 3, 1) := by decide +kernel
theorem d_A_add2_17 : decode b_A_add2 17 = .ok (.iconst 1, 1) := by decide +kernel
theorem d_A_add2_18 : decode b_A_add2 18 = .ok (.iadd, 1) := by decide +kernel
theorem d_A_add2_19 : decode b_A_add2 19 = .ok (.putfield 48, 3) := by decide +kernel
theorem d_A_add2_22 : decode b_A_add2 22 = .ok (.return_, 1) := by decide +kernel
theorem d_A_grow_0 : decode b_A_grow 0 = .ok (.aload_n 0, 1) := by decide +kernel
theorem d_A_grow_1 : decode b_A_grow 1 = .ok (.aload_n 0, 1) := by decide +kernel
theorem d_A_grow_2 : decode b_A_grow 2 = .ok (.getfield 48, 3) := by decide +kernel
theorem d_A_grow_5 : decode b_A_grow 5 = .ok (.iconst 1, 1) := by decide +kernel
theorem d_A_grow_6 : decode b_A_grow 6 = .ok (.iadd, 1) := by decide +kernel
theorem d_A_grow_7 : decode b_A_grow 7 = .ok (.invokevirtual 69, 3) := by decide +kernel
theorem d_A_grow_10 : decode b_A_grow 10 = .ok (.areturn, 1) := by decide +kernel
theorem d_A_grow2_0 : decode b_A_grow2 0 = .ok (.aload_n 0, 1) := by decide +kernel
theorem d_A_grow2_1 : decode b_A_grow2 1 = .ok (.getfield 9, 3) := by decide +kernel
theorem d_A_grow2_4 : decode b_A_grow2 4 = .ok (.arraylength, 1) := by decide +kernel
theorem d_A_grow2_5 : decode b_A_grow2 5 = .ok (.istore_n 2, 1) := by decide +kernel
theorem d_A_grow2_6 : decode b_A_grow2 6 = .ok (.iload_n 2, 1) := by decide +kernel
theorem d_A_grow2_7 : decode b_A_grow2 7 = .ok (.ifCond .gt 13, 3) := by decide +kernel
theorem d_A_grow2_10 : decode b_A_grow2 10 = .ok (.aload_n 0, 1) := by decide +kernel
theorem d_A_grow2_11 : decode b_A_grow2 11 = .ok (.getfield 9, 3) := by decide +kernel
theorem d_A_grow2_14 : decode b_A_grow2 14 = .ok (.getstatic 39, 3) := by decide +kernel
theorem d_A_grow2_17 : decode b_A_grow2 17 = .ok (.if_acmp .eq 28, 3) := by decide +kernel
theorem d_A_grow2_20 : decode b_A_grow2 20 = .ok (.iload_n 2, 1) := by decide +kernel
theorem d_A_grow2_21 : decode b_A_grow2 21 = .ok (.iload_n 1, 1) := by decide +kernel
theorem d_A_grow2_22 : decode b_A_grow2 22 = .ok (.iload_n 2, 1) := by decide +kernel
theorem d_A_grow2_23 : decode b_A_grow2 23 = .ok (.isub, 1) := by decide +kernel
theorem d_A_grow2_24 : decode b_A_grow2 24 = .ok (.iload_n 2, 1) := by decide +kernel
theorem d_A_grow2_25 : decode b_A_grow2 25 = .ok (.iconst 1, 1) := by decide +kernel
theorem d_A_grow2_26 : decode b_A_grow2 26 = .ok (.ishr, 1) := by decide +kernel
theorem d_A_grow2_27 : decode b_A_grow2 27 = .ok (.invokestatic 73, 3) := by decide +kernel
theorem d_A_grow2_30 : decode b_A_grow2 30 = .ok (.istore_n 3, 1) := by decide +kernel
theorem d_A_grow2_31 : decode b_A_grow2 31 = .ok (.aload_n 0, 1) := by decide +kernel
theorem d_A_grow2_32 : decode b_A_grow2 32 = .ok (.aload_n 0, 1) := by decide +kernel
theorem d_A_grow2_33 : decode b_A_grow2 33 = .ok (.getfield 9, 3) := by decide +kernel
theorem d_A_grow2_36 : decode b_A_grow2 36 = .ok (.iload_n 3, 1) := by decide +kernel
theorem d_A_grow2_37 : decode b_A_grow2 37 = .ok (.invokestatic 66, 3) := by decide +kernel
theorem d_A_grow2_40 : decode b_A_grow2 40 = .ok (.dup_x1, 1) := by decide +kernel
theorem d_A_grow2_41 : decode b_A_grow2 41 = .ok (.putfield 9, 3) := by decide +kernel
theorem d_A_grow2_44 : decode b_A_grow2 44 = .ok (.areturn, 1) := by decide +kernel
theorem d_A_grow2_45 : decode b_A_grow2 45 = .ok (.aload_n 0, 1) := by decide +kernel
theorem d_A_grow2_46 : decode b_A_grow2 46 = .ok (.bipush 10, 2) := by decide +kernel
theorem d_A_grow2_48 : decode b_A_grow2 48 = .ok (.iload_n 1, 1) := by decide +kernel
theorem d_A_grow2_49 : decode b_A_grow2 49 = .ok (.invokestatic 79, 3) := by decide +kernel
theorem d_A_grow2_52 : decode b_A_grow2 52 = .ok (.anewarray 7, 3) := by decide +kernel
theorem d_A_grow2_55 : decode b_A_grow2 55 = .ok (.dup_x1, 1) := by decide +kernel
theorem d_A_grow2_56 : decode b_A_grow2 56 = .ok (.putfield 9, 3) := by decide +kernel
theorem d_A_grow2_59 : decode b_A_grow2 59 = .ok (.areturn, 1) := by decide +kernel
theorem d_As_newLength_0 : decode b_As_newLength 0 = .ok (.iload_n 0, 1) := by decide +kernel
theorem d_As_newLength_1 : decode b_As_newLength 1 = .ok (.iload_n 1, 1) := by decide +kernel
theorem d_As_newLength_2 : decode b_As_newLength 2 = .ok (.iload_n 2, 1) := by decide +kernel
theorem d_As_newLength_3 : decode b_As_newLength 3 = .ok (.invokestatic 194, 3) := by decide +kernel
theorem d_As_newLength_6 : decode b_As_newLength 6 = .ok (.iadd, 1) := by decide +kernel
theorem d_As_newLength_7 : decode b_As_newLength 7 = .ok (.istore_n 3, 1) := by decide +kernel
theorem d_As_newLength_8 : decode b_As_newLength 8 = .ok (.iconst 0, 1) := by decide +kernel
theorem d_As_newLength_9 : decode b_As_newLength 9 = .ok (.iload_n 3, 1) := by decide +kernel
theorem d_As_newLength_10 : decode b_As_newLength 10 = .ok (.if_icmp .ge 11, 3) := by decide +kernel
theorem d_As_newLength_13 : decode b_As_newLength 13 = .ok (.iload_n 3, 1) := by decide +kernel
theorem d_As_newLength_14 : decode b_As_newLength 14 = .ok (.ldc 200, 2) := by decide +kernel
theorem d_As_newLength_16 : decode b_As_newLength 16 = .ok (.if_icmp .gt 5, 3) := by decide +kernel
theorem d_As_newLength_19 : decode b_As_newLength 19 = .ok (.iload_n 3, 1) := by decide +kernel
theorem d_As_newLength_20 : decode b_As_newLength 20 = .ok (.ireturn, 1) := by decide +kernel
theorem d_As_newLength_21 : decode b_As_newLength 21 = .ok (.iload_n 0, 1) := by decide +kernel
theorem d_As_newLength_22 : decode b_As_newLength 22 = .ok (.iload_n 1, 1) := by decide +kernel
theorem d_As_newLength_23 : decode b_As_newLength 23 = .ok (.invokestatic 201, 3) := by decide +kernel
theorem d_As_newLength_26 : decode b_As_newLength 26 = .ok (.ireturn, 1) := by decide +kernel
theorem d_As_hugeLength_0 : decode b_As_hugeLength 0 = .ok (.iload_n 0, 1) := by decide +kernel
theorem d_As_hugeLength_1 : decode b_As_hugeLength 1 = .ok (.iload_n 1, 1) := by decide +kernel
theorem d_As_hugeLength_2 : decode b_As_hugeLength 2 = .ok (.iadd, 1) := by decide +kernel
theorem d_As_hugeLength_3 : decode b_As_hugeLength 3 = .ok (.istore_n 2, 1) := by decide +kernel
theorem d_As_hugeLength_4 : decode b_As_hugeLength 4 = .ok (.iload_n 2, 1) := by decide +kernel
theorem d_As_hugeLength_5 : decode b_As_hugeLength 5 = .ok (.ifCond .ge 44, 3) := by decide +kernel
theorem d_As_hugeLength_8 : decode b_As_hugeLength 8 = .ok (.new 204, 3) := by decide +kernel
theorem d_As_hugeLength_11 : decode b_As_hugeLength 11 = .ok (.dup, 1) := by decide +kernel
theorem d_As_hugeLength_12 : decode b_As_hugeLength 12 = .ok (.new 89, 3) := by decide +kernel
theorem d_As_hugeLength_15 : decode b_As_hugeLength 15 = .ok (.dup, 1) := by decide +kernel
theorem d_As_hugeLength_16 : decode b_As_hugeLength 16 = .ok (.invokespecial 91, 3) := by decide +kernel
theorem d_As_hugeLength_19 : decode b_As_hugeLength 19 = .ok (.ldc 206, 2) := by decide +kernel
theorem d_As_hugeLength_21 : decode b_As_hugeLength 21 = .ok (.invokevirtual 94, 3) := by decide +kernel
theorem d_As_hugeLength_24 : decode b_As_hugeLength 24 = .ok (.iload_n 0, 1) := by decide +kernel
theorem d_As_hugeLength_25 : decode b_As_hugeLength 25 = .ok (.invokevirtual 98, 3) := by decide +kernel
theorem d_As_hugeLength_28 : decode b_As_hugeLength 28 = .ok (.ldc 208, 2) := by decide +kernel
theorem d_As_hugeLength_30 : decode b_As_hugeLength 30 = .ok (.invokevirtual 94, 3) := by decide +kernel
theorem d_As_hugeLength_33 : decode b_As_hugeLength 33 = .ok (.iload_n 1, 1) := by decide +kernel
theorem d_As_hugeLength_34 : decode b_As_hugeLength 34 = .ok (.invokevirtual 98, 3) := by decide +kernel
theorem d_As_hugeLength_37 : decode b_As_hugeLength 37 = .ok (.ldc 210, 2) := by decide +kernel
theorem d_As_hugeLength_39 : decode b_As_hugeLength 39 = .ok (.invokevirtual 94, 3) := by decide +kernel
theorem d_As_hugeLength_42 : decode b_As_hugeLength 42 = .ok (.invokevirtual 101, 3) := by decide +kernel
theorem d_As_hugeLength_45 : decode b_As_hugeLength 45 = .ok (.invokespecial 212, 3) := by decide +kernel
theorem d_As_hugeLength_48 : decode b_As_hugeLength 48 = .ok (.athrow, 1) := by decide +kernel
theorem d_As_hugeLength_49 : decode b_As_hugeLength 49 = .ok (.iload_n 2, 1) := by decide +kernel
theorem d_As_hugeLength_50 : decode b_As_hugeLength 50 = .ok (.ldc 200, 2) := by decide +kernel
theorem d_As_hugeLength_52 : decode b_As_hugeLength 52 = .ok (.if_icmp .gt 6, 3) := by decide +kernel
theorem d_As_hugeLength_55 : decode b_As_hugeLength 55 = .ok (.ldc 200, 2) := by decide +kernel
theorem d_As_hugeLength_57 : decode b_As_hugeLength 57 = .ok (.ireturn, 1) := by decide +kernel
theorem d_As_hugeLength_58 : decode b_As_hugeLength 58 = .ok (.iload_n 2, 1) := by decide +kernel
theorem d_As_hugeLength_59 : decode b_As_hugeLength 59 = .ok (.ireturn, 1) := by decide +kernel
theorem d_Ar_copyOf_0 : decode b_Ar_copyOf 0 = .ok (.aload_n 0, 1) := by decide +kernel
theorem d_Ar_copyOf_1 : decode b_Ar_copyOf 1 = .ok (.iload_n 1, 1) := by decide +kernel
theorem d_Ar_copyOf_2 : decode b_Ar_copyOf 2 = .ok (.aload_n 0, 1) := by decide +kernel
theorem d_Ar_copyOf_3 : decode b_Ar_copyOf 3 = .ok (.invokevirtual 86, 3) := by decide +kernel
theorem d_Ar_copyOf_6 : decode b_Ar_copyOf 6 = .ok (.invokestatic 300, 3) := by decide +kernel
theorem d_Ar_copyOf_9 : decode b_Ar_copyOf 9 = .ok (.areturn, 1) := by decide +kernel
theorem d_Ar_copyOf2_0 : decode b_Ar_copyOf2 0 = .ok (.aload_n 2, 1) := by decide +kernel
theorem d_Ar_copyOf2_1 : decode b_Ar_copyOf2 1 = .ok (.ldc 110, 2) := by decide +kernel
theorem d_Ar_copyOf2_3 : decode b_Ar_copyOf2 3 = .ok (.if_acmp .ne 10, 3) := by decide +kernel
theorem d_Ar_copyOf2_6 : decode b_Ar_copyOf2 6 = .ok (.iload_n 1, 1) := by decide +kernel
theorem d_Ar_copyOf2_7 : decode b_Ar_copyOf2 7 = .ok (.anewarray 2, 3) := by decide +kernel
theorem d_Ar_copyOf2_10 : decode b_Ar_copyOf2 10 = .ok (.goto 14, 3) := by decide +kernel
theorem d_Ar_copyOf2_13 : decode b_Ar_copyOf2 13 = .ok (.aload_n 2, 1) := by decide +kernel
theorem d_Ar_copyOf2_14 : decode b_Ar_copyOf2 14 = .ok (.invokevirtual 90, 3) := by decide +kernel
theorem d_Ar_copyOf2_17 : decode b_Ar_copyOf2 17 = .ok (.iload_n 1, 1) := by decide +kernel
theorem d_Ar_copyOf2_18 : decode b_Ar_copyOf2 18 = .ok (.invokestatic 95, 3) := by decide +kernel
theorem d_Ar_copyOf2_21 : decode b_Ar_copyOf2 21 = .ok (.checkcast 110, 3) := by decide +kernel
theorem d_Ar_copyOf2_24 : decode b_Ar_copyOf2 24 = .ok (.astore_n 3, 1) := by decide +kernel
theorem d_Ar_copyOf2_25 : decode b_Ar_copyOf2 25 = .ok (.aload_n 0, 1) := by decide +kernel
theorem d_Ar_copyOf2_26 : decode b_Ar_copyOf2 26 = .ok (.iconst 0, 1) := by decide +kernel
theorem d_Ar_copyOf2_27 : decode b_Ar_copyOf2 27 = .ok (.aload_n 3, 1) := by decide +kernel
theorem d_Ar_copyOf2_28 : decode b_Ar_copyOf2 28 = .ok (.iconst 0, 1) := by decide +kernel
theorem d_Ar_copyOf2_29 : decode b_Ar_copyOf2 29 = .ok (.aload_n 0, 1) := by decide +kernel
theorem d_Ar_copyOf2_30 : decode b_Ar_copyOf2 30 = .ok (.arraylength, 1) := by decide +kernel
theorem d_Ar_copyOf2_31 : decode b_Ar_copyOf2 31 = .ok (.iload_n 1, 1) := by decide +kernel
theorem d_Ar_copyOf2_32 : decode b_Ar_copyOf2 32 = .ok (.invokestatic 304, 3) := by decide +kernel
theorem d_Ar_copyOf2_35 : decode b_Ar_copyOf2 35 = .ok (.invokestatic 150, 3) := by decide +kernel
theorem d_Ar_copyOf2_38 : decode b_Ar_copyOf2 38 = .ok (.aload_n 3, 1) := by decide +kernel
theorem d_Ar_copyOf2_39 : decode b_Ar_copyOf2 39 = .ok (.areturn, 1) := by decide +kernel
theorem d_Ma_min_0 : decode b_Ma_min 0 = .ok (.iload_n 0, 1) := by decide +kernel
theorem d_Ma_min_1 : decode b_Ma_min 1 = .ok (.iload_n 1, 1) := by decide +kernel
theorem d_Ma_min_2 : decode b_Ma_min 2 = .ok (.if_icmp .gt 7, 3) := by decide +kernel
theorem d_Ma_min_5 : decode b_Ma_min 5 = .ok (.iload_n 0, 1) := by decide +kernel
theorem d_Ma_min_6 : decode b_Ma_min 6 = .ok (.goto 4, 3) := by decide +kernel
theorem d_Ma_min_9 : decode b_Ma_min 9 = .ok (.iload_n 1, 1) := by decide +kernel
theorem d_Ma_min_10 : decode b_Ma_min 10 = .ok (.ireturn, 1) := by decide +kernel
theorem d_Ar_fill2_0 : decode b_Ar_fill2 0 = .ok (.iconst 0, 1) := by decide +kernel
theorem d_Ar_fill2_1 : decode b_Ar_fill2 1 = .ok (.istore_n 3, 1) := by decide +kernel
theorem d_Ar_fill2_2 : decode b_Ar_fill2 2 = .ok (.aload_n 0, 1) := by decide +kernel
theorem d_Ar_fill2_3 : decode b_Ar_fill2 3 = .ok (.arraylength, 1) := by decide +kernel
theorem d_Ar_fill2_4 : decode b_Ar_fill2 4 = .ok (.istore 4, 2) := by decide +kernel
theorem d_Ar_fill2_6 : decode b_Ar_fill2 6 = .ok (.iload_n 3, 1) := by decide +kernel
theorem d_Ar_fill2_7 : decode b_Ar_fill2 7 = .ok (.iload 4, 2) := by decide +kernel
theorem d_Ar_fill2_9 : decode b_Ar_fill2 9 = .ok (.if_icmp .ge 13, 3) := by decide +kernel
theorem d_Ar_fill2_12 : decode b_Ar_fill2 12 = .ok (.aload_n 0, 1) := by decide +kernel
theorem d_Ar_fill2_13 : decode b_Ar_fill2 13 = .ok (.iload_n 3, 1) := by decide +kernel
theorem d_Ar_fill2_14 : decode b_Ar_fill2 14 = .ok (.lload_n 1, 1) := by decide +kernel
theorem d_Ar_fill2_15 : decode b_Ar_fill2 15 = .ok (.lastore, 1) := by decide +kernel
theorem d_Ar_fill2_16 : decode b_Ar_fill2 16 = .ok (.iinc 3 1, 3) := by decide +kernel
theorem d_Ar_fill2_19 : decode b_Ar_fill2 19 = .ok (.goto (-13), 3) := by decide +kernel
theorem d_Ar_fill2_22 : decode b_Ar_fill2 22 = .ok (.return_, 1) := by decide +kernel
end
section
theorem d_Z_init_0 : decode b_Z_init 0 = .ok (.aload_n 0, 1) := by decide +kernel
theorem d_Z_init_1 : decode b_Z_init 1 = .ok (.invokespecial 1, 3) := by decide +kernel
theorem d_Z_init_4 : decode b_Z_init 4 = .ok (.aload_n 0, 1) := by decide +kernel
theorem d_Z_init_5 : decode b_Z_init 5 = .ok (.bipush 24, 2) := by decide +kernel
theorem d_Z_init_7 : decode b_Z_init 7 = .ok (.newarray .int, 2) := by decide +kernel
theorem d_Z_init_9 : decode b_Z_init 9 = .ok (.putfield 7, 3) := by decide +kernel
theorem d_Z_init_12 : decode b_Z_init 12 = .ok (.aload_n 0, 1) := by decide +kernel
theorem d_Z_init_13 : decode b_Z_init 13 = .ok (.sipush 1440, 3) := by decide +kernel
theorem d_Z_init_16 : decode b_Z_init 16 = .ok (.newarray .int, 2) := by decide +kernel
theorem d_Z_init_18 : decode b_Z_init 18 = .ok (.putfield 13, 3) := by decide +kernel
theorem d_Z_init_21 : decode b_Z_init 21 = .ok (.aload_n 0, 1) := by decide +kernel
theorem d_Z_init_22 : decode b_Z_init 22 = .ok (.sipush 1440, 3) := by decide +kernel
theorem d_Z_init_25 : decode b_Z_init 25 = .ok (.newarray .int, 2) := by decide +kernel
theorem d_Z_init_27 : decode b_Z_init 27 = .ok (.putfield 16, 3) := by decide +kernel
theorem d_Z_init_30 : decode b_Z_init 30 = .ok (.aload_n 0, 1) := by decide +kernel
theorem d_Z_init_31 : decode b_Z_init 31 = .ok (.sipush 1440, 3) := by decide +kernel
theorem d_Z_init_34 : decode b_Z_init 34 = .ok (.newarray .int, 2) := by decide +kernel
theorem d_Z_init_36 : decode b_Z_init 36 = .ok (.putfield 19, 3) := by decide +kernel
theorem d_Z_init_39 : decode b_Z_init 39 = .ok (.aload_n 0, 1) := by decide +kernel
theorem d_Z_init_40 : decode b_Z_init 40 = .ok (.bipush 24, 2) := by decide +kernel
theorem d_Z_init_42 : decode b_Z_init 42 = .ok (.newarray .int, 2) := by decide +kernel
theorem d_Z_init_44 : decode b_Z_init 44 = .ok (.putfield 22, 3) := by decide +kernel
theorem d_Z_init_47 : decode b_Z_init 47 = .ok (.aload_n 0, 1) := by decide +kernel
theorem d_Z_init_48 : decode b_Z_init 48 = .ok (.bipush 24, 2) := by decide +kernel
theorem d_Z_init_50 : decode b_Z_init 50 = .ok (.newarray .int, 2) := by decide +kernel
theorem d_Z_init_52 : decode b_Z_init 52 = .ok (.putfield 25, 3) := by decide +kernel
theorem d_Z_init_55 : decode b_Z_init 55 = .ok (.aload_n 0, 1) := by decide +kernel
theorem d_Z_init_56 : decode b_Z_init 56 = .ok (.bipush 24, 2) := by decide +kernel
theorem d_Z_init_58 : decode b_Z_init 58 = .ok (.newarray .int, 2) := by decide +kernel
theorem d_Z_init_60 : decode b_Z_init 60 = .ok (.putfield 28, 3) := by decide +kernel
theorem d_Z_init_63 : decode b_Z_init 63 = .ok (.aload_n 0, 1) := by decide +kernel
theorem d_Z_init_64 : decode b_Z_init 64 = .ok (.sipush 7200, 3) := by decide +kernel
theorem d_Z_init_67 : decode b_Z_init 67 = .ok (.newarray .int, 2) := by decide +kernel
theorem d_Z_init_69 : decode b_Z_init 69 = .ok (.putfield 31, 3) := by decide +kernel
theorem d_Z_init_72 : decode b_Z_init 72 = .ok (.aload_n 0, 1) := by decide +kernel
theorem d_Z_init_73 : decode b_Z_init 73 = .ok (.bipush 61, 2) := by decide +kernel
theorem d_Z_init_75 : decode b_Z_init 75 = .ok (.newarray .int, 2) := by decide +kernel
theorem d_Z_init_77 : decode b_Z_init 77 = .ok (.putfield 34, 3) := by decide +kernel
theorem d_Z_init_80 : decode b_Z_init 80 = .ok (.aload_n 0, 1) := by decide +kernel
theorem d_Z_init_81 : decode b_Z_init 81 = .ok (.sipush 301, 3) := by decide +kernel
theorem d_Z_init_84 : decode b_Z_init 84 = .ok (.newarray .int, 2) := by decide +kernel
theorem d_Z_init_86 : decode b_Z_init 86 = .ok (.putfield 37, 3) := by decide +kernel
theorem d_Z_init_89 : decode b_Z_init 89 = .ok (.aload_n 0, 1) := by decide +kernel
theorem d_Z_init_90 : decode b_Z_init 90 = .ok (.iconst 4, 1) := by decide +kernel
theorem d_Z_init_91 : decode b_Z_init 91 = .ok (.newarray .long, 2) := by decide +kernel
theorem d_Z_init_93 : decode b_Z_init 93 = .ok (.putfield 40, 3) := by decide +kernel
theorem d_Z_init_96 : decode b_Z_init 96 = .ok (.aload_n 0, 1) := by decide +kernel
theorem d_Z_init_97 : decode b_Z_init 97 = .ok (.bipush 8, 2) := by decide +kernel
theorem d_Z_init_99 : decode b_Z_init 99 = .ok (.newarray .long, 2) := by decide +kernel
theorem d_Z_init_101 : decode b_Z_init 101 = .ok (.putfield 44, 3) := by decide +kernel
theorem d_Z_init_104 : decode b_Z_init 104 = .ok (.aload_n 0, 1) := by decide +kernel
theorem d_Z_init_105 : decode b_Z_init 105 = .ok (.iconst 4, 1) := by decide +kernel
theorem d_Z_init_106 : decode b_Z_init 106 = .ok (.newarray .long, 2) := by decide +kernel
theorem d_Z_init_108 : decode b_Z_init 108 = .ok (.putfield 47, 3) := by decide +kernel
theorem d_Z_init_111 : decode b_Z_init 111 = .ok (.aload_n 0, 1) := by decide +kernel
theorem d_Z_init_112 : decode b_Z_init 112 = .ok (.iconst 4, 1) := by decide +kernel
theorem d_Z_init_113 : decode b_Z_init 113 = .ok (.newarray .long, 2) := by decide +kernel
theorem d_Z_init_115 : decode b_Z_init 115 = .ok (.putfield 50, 3) := by decide +kernel
theorem d_Z_init_118 : decode b_Z_init 118 = .ok (.aload_n 0, 1) := by decide +kernel
theorem d_Z_init_119 : decode b_Z_init 119 = .ok (.iconst 1, 1) := by decide +kernel
theorem d_Z_init_120 : decode b_Z_init 120 = .ok (.iload_n 1, 1) := by decide +kernel
theorem d_Z_init_121 : decode b_Z_init 121 = .ok (.iconst 1, 1) := by decide +kernel
theorem d_Z_init_122 : decode b_Z_init 122 = .ok (.isub, 1) := by decide +kernel
theorem d_Z_init_123 : decode b_Z_init 123 = .ok (.bipush 7, 2) := by decide +kernel
theorem d_Z_init_125 : decode b_Z_init 125 = .ok (.iand, 1) := by decide +kernel
theorem d_Z_init_126 : decode b_Z_init 126 = .ok (.iadd, 1) := by decide +kernel
theorem d_Z_init_127 : decode b_Z_init 127 = .ok (.putfield 53, 3) := by decide +kernel
theorem d_Z_init_130 : decode b_Z_init 130 = .ok (.return_, 1) := by decide +kernel
theorem d_Z_thrown_0 : decode b_Z_thrown 0 = .ok (.aload_n 0, 1) := by decide +kernel
theorem d_Z_thrown_1 : decode b_Z_thrown 1 = .ok (.getfield 57, 3) := by decide +kernel
theorem d_Z_thrown_4 : decode b_Z_thrown 4 = .ok (.ireturn, 1) := by decide +kernel
theorem d_Z_block_0 : decode b_Z_block 0 = .ok (.aload_n 0, 1) := by decide +kernel
theorem d_Z_block_1 : decode b_Z_block 1 = .ok (.iconst 0, 1) := by decide +kernel
theorem d_Z_block_2 : decode b_Z_block 2 = .ok (.putfield 57, 3) := by decide +kernel
theorem d_Z_block_5 : decode b_Z_block 5 = .ok (.aload_n 0, 1) := by decide +kernel
theorem d_Z_block_6 : decode b_Z_block 6 = .ok (.getfield 60, 3) := by decide +kernel
theorem d_Z_block_9 : decode b_Z_block 9 = .ok (.bipush 24, 2) := by decide +kernel
theorem d_Z_block_11 : decode b_Z_block 11 = .ok (.if_icmp .ne 9, 3) := by decide +kernel
theorem d_Z_block_14 : decode b_Z_block 14 = .ok (.aload_n 0, 1) := by decide +kernel
theorem d_Z_block_15 : decode b_Z_block 15 = .ok (.iconst 1, 1) := by decide +kernel
theorem d_Z_block_16 : decode b_Z_block 16 = .ok (.invokevirtual 67, 3) := by decide +kernel
theorem d_Z_block_19 : decode b_Z_block 19 = .ok (.ireturn, 1) := by decide +kernel
theorem d_Z_block_20 : decode b_Z_block 20 = .ok (.aload_n 0, 1) := by decide +kernel
theorem d_Z_block_21 : decode b_Z_block 21 = .ok (.dup, 1) := by decide +kernel
theorem d_Z_block_22 : decode b_Z_block 22 = .ok (.getfield 60, 3) := by decide +kernel
theorem d_Z_block_25 : decode b_Z_block 25 = .ok (.iconst 1, 1) := by decide +kernel
theorem d_Z_block_26 : decode b_Z_block 26 = .ok (.iadd, 1) := by decide +kernel
theorem d_Z_block_27 : decode b_Z_block 27 = .ok (.putfield 60, 3) := by decide +kernel
theorem d_Z_block_30 : decode b_Z_block 30 = .ok (.aload_n 0, 1) := by decide +kernel
theorem d_Z_block_31 : decode b_Z_block 31 = .ok (.getfield 60, 3) := by decide +kernel
theorem d_Z_block_34 : decode b_Z_block 34 = .ok (.iconst 1, 1) := by decide +kernel
theorem d_Z_block_35 : decode b_Z_block 35 = .ok (.isub, 1) := by decide +kernel
theorem d_Z_block_36 : decode b_Z_block 36 = .ok (.ireturn, 1) := by decide +kernel
theorem d_Z_fail_0 : decode b_Z_fail 0 = .ok (.aload_n 0, 1) := by decide +kernel
theorem d_Z_fail_1 : decode b_Z_fail 1 = .ok (.iload_n 1, 1) := by decide +kernel
theorem d_Z_fail_2 : decode b_Z_fail 2 = .ok (.putfield 57, 3) := by decide +kernel
theorem d_Z_fail_5 : decode b_Z_fail 5 = .ok (.iconst 0, 1) := by decide +kernel
theorem d_Z_fail_6 : decode b_Z_fail 6 = .ok (.ireturn, 1) := by decide +kernel
theorem d_Z_instruction_0 : decode b_Z_instruction 0 = .ok (.aload_n 0, 1) := by decide +kernel
theorem d_Z_instruction_1 : decode b_Z_instruction 1 = .ok (.iload_n 1, 1) := by decide +kernel
theorem d_Z_instruction_2 : decode b_Z_instruction 2 = .ok (.invokevirtual 71, 3) := by decide +kernel
theorem d_Z_instruction_5 : decode b_Z_instruction 5 = .ok (.ifCond .ne 5, 3) := by decide +kernel
theorem d_Z_instruction_8 : decode b_Z_instruction 8 = .ok (.iconst 0, 1) := by decide +kernel
theorem d_Z_instruction_9 : decode b_Z_instruction 9 = .ok (.ireturn, 1) := by decide +kernel
theorem d_Z_instruction_10 : decode b_Z_instruction 10 = .ok (.iload_n 2, 1) := by decide +kernel
theorem d_Z_instruction_11 : decode b_Z_instruction 11 = .ok (.iload_n 3, 1) := by decide +kernel
theorem d_Z_instruction_12 : decode b_Z_instruction 12 = .ok (.iload 4, 2) := by decide +kernel
theorem d_Z_instruction_14 : decode b_Z_instruction 14 = .ok (.invokestatic 75, 3) := by decide +kernel
theorem d_Z_instruction_17 : decode b_Z_instruction 17 = .ok (.ifCond .ne 9, 3) := by decide +kernel
theorem d_Z_instruction_20 : decode b_Z_instruction 20 = .ok (.aload_n 0, 1) := by decide +kernel
theorem d_Z_instruction_21 : decode b_Z_instruction 21 = .ok (.iconst 2, 1) := by decide +kernel
theorem d_Z_instruction_22 : decode b_Z_instruction 22 = .ok (.invokevirtual 67, 3) := by decide +kernel
theorem d_Z_instruction_25 : decode b_Z_instruction 25 = .ok (.ireturn, 1) := by decide +kernel
theorem d_Z_instruction_26 : decode b_Z_instruction 26 = .ok (.aload_n 0, 1) := by decide +kernel
theorem d_Z_instruction_27 : decode b_Z_instruction 27 = .ok (.getfield 7, 3) := by decide +kernel
theorem d_Z_instruction_30 : decode b_Z_instruction 30 = .ok (.iload_n 1, 1) := by decide +kernel
theorem d_Z_instruction_31 : decode b_Z_instruction 31 = .ok (.iaload, 1) := by decide +kernel
theorem d_Z_instruction_32 : decode b_Z_instruction 32 = .ok (.bipush 60, 2) := by decide +kernel
theorem d_Z_instruction_34 : decode b_Z_instruction 34 = .ok (.if_icmp .ne 9, 3) := by decide +kernel
theorem d_Z_instruction_37 : decode b_Z_instruction 37 = .ok (.aload_n 0, 1) := by decide +kernel
theorem d_Z_instruction_38 : decode b_Z_instruction 38 = .ok (.iconst 3, 1) := by decide +kernel
theorem d_Z_instruction_39 : decode b_Z_instruction 39 = .ok (.invokevirtual 67, 3) := by decide +kernel
theorem d_Z_instruction_42 : decode b_Z_instruction 42 = .ok (.ireturn, 1) := by decide +kernel
theorem d_Z_instruction_43 : decode b_Z_instruction 43 = .ok (.bipush 60, 2) := by decide +kernel
theorem d_Z_instruction_45 : decode b_Z_instruction 45 = .ok (.iload_n 1, 1) := by decide +kernel
theorem d_Z_instruction_46 : decode b_Z_instruction 46 = .ok (.imul, 1) := by decide +kernel
theorem d_Z_instruction_47 : decode b_Z_instruction 47 = .ok (.aload_n 0, 1) := by decide +kernel
theorem d_Z_instruction_48 : decode b_Z_instruction 48 = .ok (.getfield 7, 3) := by decide +kernel
theorem d_Z_instruction_51 : decode b_Z_instruction 51 = .ok (.iload_n 1, 1) := by decide +kernel
theorem d_Z_instruction_52 : decode b_Z_instruction 52 = .ok (.iaload, 1) := by decide +kernel
theorem d_Z_instruction_53 : decode b_Z_instruction 53 = .ok (.iadd, 1) := by decide +kernel
theorem d_Z_instruction_54 : decode b_Z_instruction 54 = .ok (.istore 5, 2) := by decide +kernel
theorem d_Z_instruction_56 : decode b_Z_instruction 56 = .ok (.aload_n 0, 1) := by decide +kernel
theorem d_Z_instruction_57 : decode b_Z_instruction 57 = .ok (.getfield 13, 3) := by decide +kernel
theorem d_Z_instruction_60 : decode b_Z_instruction 60 = .ok (.iload 5, 2) := by decide +kernel
theorem d_Z_instruction_62 : decode b_Z_instruction 62 = .ok (.iload_n 2, 1) := by decide +kernel
theorem d_Z_instruction_63 : decode b_Z_instruction 63 = .ok (.iastore, 1) := by decide +kernel
theorem d_Z_instruction_64 : decode b_Z_instruction 64 = .ok (.aload_n 0, 1) := by decide +kernel
theorem d_Z_instruction_65 : decode b_Z_instruction 65 = .ok (.getfield 16, 3) := by decide +kernel
theorem d_Z_instruction_68 : decode b_Z_instruction 68 = .ok (.iload 5, 2) := by decide +kernel
theorem d_Z_instruction_70 : decode b_Z_instruction 70 = .ok (.iload_n 3, 1) := by decide +kernel
theorem d_Z_instruction_71 : decode b_Z_instruction 71 = .ok (.iastore, 1) := by decide +kernel
theorem d_Z_instruction_72 : decode b_Z_instruction 72 = .ok (.aload_n 0, 1) := by decide +kernel
theorem d_Z_instruction_73 : decode b_Z_instruction 73 = .ok (.getfield 19, 3) := by decide +kernel
theorem d_Z_instruction_76 : decode b_Z_instruction 76 = .ok (.iload 5, 2) := by decide +kernel
theorem d_Z_instruction_78 : decode b_Z_instruction 78 = .ok (.iload 4, 2) := by decide +kernel
theorem d_Z_instruction_80 : decode b_Z_instruction 80 = .ok (.iastore, 1) := by decide +kernel
theorem d_Z_instruction_81 : decode b_Z_instruction 81 = .ok (.aload_n 0, 1) := by decide +kernel
theorem d_Z_instruction_82 : decode b_Z_instruction 82 = .ok (.getfield 7, 3) := by decide +kernel
theorem d_Z_instruction_85 : decode b_Z_instruction 85 = .ok (.iload_n 1, 1) := by decide +kernel
theorem d_Z_instruction_86 : decode b_Z_instruction 86 = .ok (.dup2, 1) := by decide +kernel
theorem d_Z_instruction_87 : decode b_Z_instruction 87 = .ok (.iaload, 1) := by decide +kernel
theorem d_Z_instruction_88 : decode b_Z_instruction 88 = .ok (.iconst 1, 1) := by decide +kernel
theorem d_Z_instruction_89 : decode b_Z_instruction 89 = .ok (.iadd, 1) := by decide +kernel
theorem d_Z_instruction_90 : decode b_Z_instruction 90 = .ok (.iastore, 1) := by decide +kernel
theorem d_Z_instruction_91 : decode b_Z_instruction 91 = .ok (.aload_n 0, 1) := by decide +kernel
theorem d_Z_instruction_92 : decode b_Z_instruction 92 = .ok (.getfield 22, 3) := by decide +kernel
theorem d_Z_instruction_95 : decode b_Z_instruction 95 = .ok (.iload_n 1, 1) := by decide +kernel
theorem d_Z_instruction_96 : decode b_Z_instruction 96 = .ok (.iconst 0, 1) := by decide +kernel
theorem d_Z_instruction_97 : decode b_Z_instruction 97 = .ok (.iastore, 1) := by decide +kernel
theorem d_Z_instruction_98 : decode b_Z_instruction 98 = .ok (.aload_n 0, 1) := by decide +kernel
theorem d_Z_instruction_99 : decode b_Z_instruction 99 = .ok (.getfield 7, 3) := by decide +kernel
theorem d_Z_instruction_102 : decode b_Z_instruction 102 = .ok (.iload_n 1, 1) := by decide +kernel
theorem d_Z_instruction_103 : decode b_Z_instruction 103 = .ok (.iaload, 1) := by decide +kernel
theorem d_Z_instruction_104 : decode b_Z_instruction 104 = .ok (.ireturn, 1) := by decide +kernel
theorem d_Z_isBlock_0 : decode b_Z_isBlock 0 = .ok (.aload_n 0, 1) := by decide +kernel
theorem d_Z_isBlock_1 : decode b_Z_isBlock 1 = .ok (.iload_n 1, 1) := by decide +kernel
theorem d_Z_isBlock_2 : decode b_Z_isBlock 2 = .ok (.iconst 0, 1) := by decide +kernel
theorem d_Z_isBlock_3 : decode b_Z_isBlock 3 = .ok (.aload_n 0, 1) := by decide +kernel
theorem d_Z_isBlock_4 : decode b_Z_isBlock 4 = .ok (.getfield 60, 3) := by decide +kernel
theorem d_Z_isBlock_7 : decode b_Z_isBlock 7 = .ok (.iconst 1, 1) := by decide +kernel
theorem d_Z_isBlock_8 : decode b_Z_isBlock 8 = .ok (.isub, 1) := by decide +kernel
theorem d_Z_isBlock_9 : decode b_Z_isBlock 9 = .ok (.invokestatic 63, 3) := by decide +kernel
theorem d_Z_isBlock_12 : decode b_Z_isBlock 12 = .ok (.ifCond .eq 7, 3) := by decide +kernel
theorem d_Z_isBlock_15 : decode b_Z_isBlock 15 = .ok (.iconst 0, 1) := by decide +kernel
theorem d_Z_isBlock_16 : decode b_Z_isBlock 16 = .ok (.goto 4, 3) := by decide +kernel
theorem d_Z_isBlock_19 : decode b_Z_isBlock 19 = .ok (.iconst 1, 1) := by decide +kernel
theorem d_Z_isBlock_20 : decode b_Z_isBlock 20 = .ok (.putfield 57, 3) := by decide +kernel
theorem d_Z_isBlock_23 : decode b_Z_isBlock 23 = .ok (.aload_n 0, 1) := by decide +kernel
theorem d_Z_isBlock_24 : decode b_Z_isBlock 24 = .ok (.getfield 57, 3) := by decide +kernel
theorem d_Z_isBlock_27 : decode b_Z_isBlock 27 = .ok (.ifCond .ne 7, 3) := by decide +kernel
theorem d_Z_isBlock_30 : decode b_Z_isBlock 30 = .ok (.iconst 1, 1) := by decide +kernel
theorem d_Z_isBlock_31 : decode b_Z_isBlock 31 = .ok (.goto 4, 3) := by decide +kernel
theorem d_Z_isBlock_34 : decode b_Z_isBlock 34 = .ok (.iconst 0, 1) := by decide +kernel
theorem d_Z_isBlock_35 : decode b_Z_isBlock 35 = .ok (.ireturn, 1) := by decide +kernel
theorem d_Z_within_0 : decode b_Z_within 0 = .ok (.iload_n 0, 1) := by decide +kernel
theorem d_Z_within_1 : decode b_Z_within 1 = .ok (.iload_n 1, 1) := by decide +kernel
theorem d_Z_within_2 : decode b_Z_within 2 = .ok (.if_icmp .lt 12, 3) := by decide +kernel
theorem d_Z_within_5 : decode b_Z_within 5 = .ok (.iload_n 0, 1) := by decide +kernel
theorem d_Z_within_6 : decode b_Z_within 6 = .ok (.iload_n 2, 1) := by decide +kernel
theorem d_Z_within_7 : decode b_Z_within 7 = .ok (.if_icmp .gt 7, 3) := by decide +kernel
theorem d_Z_within_10 : decode b_Z_within 10 = .ok (.iconst 1, 1) := by decide +kernel
theorem d_Z_within_11 : decode b_Z_within 11 = .ok (.goto 4, 3) := by decide +kernel
theorem d_Z_within_14 : decode b_Z_within 14 = .ok (.iconst 0, 1) := by decide +kernel
theorem d_Z_within_15 : decode b_Z_within 15 = .ok (.ireturn, 1) := by decide +kernel
theorem d_Z_isInstruction_0 : decode b_Z_isInstruction 0 = .ok (.iload_n 0, 1) := by decide +kernel
theorem d_Z_isInstruction_1 : decode b_Z_isInstruction 1 = .ok (.iconst 0, 1) := by decide +kernel
theorem d_Z_isInstruction_2 : decode b_Z_isInstruction 2 = .ok (.bipush 7, 2) := by decide +kernel
theorem d_Z_isInstruction_4 : decode b_Z_isInstruction 4 = .ok (.invokestatic 63, 3) := by decide +kernel
theorem d_Z_isInstruction_7 : decode b_Z_isInstruction 7 = .ok (.ifCond .eq 12, 3) := by decide +kernel
theorem d_Z_isInstruction_10 : decode b_Z_isInstruction 10 = .ok (.iload_n 1, 1) := by decide +kernel
theorem d_Z_isInstruction_11 : decode b_Z_isInstruction 11 = .ok (.iconst 0, 1) := by decide +kernel
theorem d_Z_isInstruction_12 : decode b_Z_isInstruction 12 = .ok (.iconst 3, 1) := by decide +kernel
theorem d_Z_isInstruction_13 : decode b_Z_isInstruction 13 = .ok (.invokestatic 63, 3) := by decide +kernel
theorem d_Z_isInstruction_16 : decode b_Z_isInstruction 16 = .ok (.ifCond .ne 5, 3) := by decide +kernel
theorem d_Z_isInstruction_19 : decode b_Z_isInstruction 19 = .ok (.iconst 0, 1) := by decide +kernel
theorem d_Z_isInstruction_20 : decode b_Z_isInstruction 20 = .ok (.ireturn, 1) := by decide +kernel
theorem d_Z_isInstruction_21 : decode b_Z_isInstruction 21 = .ok (.iload_n 0, 1) := by decide +kernel
theorem d_Z_isInstruction_22 : decode b_Z_isInstruction 22 = .ok (.ifCond .eq 31, 3) := by decide +kernel
theorem d_Z_isInstruction_25 : decode b_Z_isInstruction 25 = .ok (.iload_n 0, 1) := by decide +kernel
theorem d_Z_isInstruction_26 : decode b_Z_isInstruction 26 = .ok (.bipush 6, 2) := by decide +kernel
theorem d_Z_isInstruction_28 : decode b_Z_isInstruction 28 = .ok (.if_icmp .ne 16, 3) := by decide +kernel
theorem d_Z_isInstruction_31 : decode b_Z_isInstruction 31 = .ok (.iload_n 2, 1) := by decide +kernel
theorem d_Z_isInstruction_32 : decode b_Z_isInstruction 32 = .ok (.iconst 0, 1) := by decide +kernel
theorem d_Z_isInstruction_33 : decode b_Z_isInstruction 33 = .ok (.bipush 60, 2) := by decide +kernel
theorem d_Z_isInstruction_35 : decode b_Z_isInstruction 35 = .ok (.invokestatic 63, 3) := by decide +kernel
theorem d_Z_isInstruction_38 : decode b_Z_isInstruction 38 = .ok (.ifCond .eq 19, 3) := by decide +kernel
theorem d_Z_isInstruction_41 : decode b_Z_isInstruction 41 = .ok (.goto 12, 3) := by decide +kernel
theorem d_Z_isInstruction_44 : decode b_Z_isInstruction 44 = .ok (.iload_n 2, 1) := by decide +kernel
theorem d_Z_isInstruction_45 : decode b_Z_isInstruction 45 = .ok (.iconst 0, 1) := by decide +kernel
theorem d_Z_isInstruction_46 : decode b_Z_isInstruction 46 = .ok (.iconst 3, 1) := by decide +kernel
theorem d_Z_isInstruction_47 : decode b_Z_isInstruction 47 = .ok (.invokestatic 63, 3) := by decide +kernel
theorem d_Z_isInstruction_50 : decode b_Z_isInstruction 50 = .ok (.ifCond .eq 7, 3) := by decide +kernel
theorem d_Z_isInstruction_53 : decode b_Z_isInstruction 53 = .ok (.iconst 1, 1) := by decide +kernel
theorem d_Z_isInstruction_54 : decode b_Z_isInstruction 54 = .ok (.goto 4, 3) := by decide +kernel
theorem d_Z_isInstruction_57 : decode b_Z_isInstruction 57 = .ok (.iconst 0, 1) := by decide +kernel
theorem d_Z_isInstruction_58 : decode b_Z_isInstruction 58 = .ok (.ireturn, 1) := by decide +kernel
theorem d_Z_make_0 : decode b_Z_make 0 = .ok (.aload_n 0, 1) := by decide +kernel
theorem d_Z_make_1 : decode b_Z_make 1 = .ok (.iload_n 1, 1) := by decide +kernel
theorem d_Z_make_2 : decode b_Z_make 2 = .ok (.invokevirtual 71, 3) := by decide +kernel
theorem d_Z_make_5 : decode b_Z_make 5 = .ok (.ifCond .ne 5, 3) := by decide +kernel
theorem d_Z_make_8 : decode b_Z_make 8 = .ok (.iconst 0, 1) := by decide +kernel
theorem d_Z_make_9 : decode b_Z_make 9 = .ok (.ireturn, 1) := by decide +kernel
theorem d_Z_make_10 : decode b_Z_make 10 = .ok (.iconst 0, 1) := by decide +kernel
theorem d_Z_make_11 : decode b_Z_make 11 = .ok (.istore_n 2, 1) := by decide +kernel
theorem d_Z_make_12 : decode b_Z_make 12 = .ok (.iconst 0, 1) := by decide +kernel
theorem d_Z_make_13 : decode b_Z_make 13 = .ok (.istore_n 3, 1) := by decide +kernel
theorem d_Z_make_14 : decode b_Z_make 14 = .ok (.iload_n 3, 1) := by decide +kernel
theorem d_Z_make_15 : decode b_Z_make 15 = .ok (.aload_n 0, 1) := by decide +kernel
theorem d_Z_make_16 : decode b_Z_make 16 = .ok (.getfield 7, 3) := by decide +kernel
theorem d_Z_make_19 : decode b_Z_make 19 = .ok (.iload_n 1, 1) := by decide +kernel
theorem d_Z_make_20 : decode b_Z_make 20 = .ok (.iaload, 1) := by decide +kernel
theorem d_Z_make_21 : decode b_Z_make 21 = .ok (.if_icmp .ge 44, 3) := by decide +kernel
theorem d_Z_make_24 : decode b_Z_make 24 = .ok (.aload_n 0, 1) := by decide +kernel
theorem d_Z_make_25 : decode b_Z_make 25 = .ok (.getfield 34, 3) := by decide +kernel
theorem d_Z_make_28 : decode b_Z_make 28 = .ok (.iload_n 3, 1) := by decide +kernel
theorem d_Z_make_29 : decode b_Z_make 29 = .ok (.iload_n 2, 1) := by decide +kernel
theorem d_Z_make_30 : decode b_Z_make 30 = .ok (.iastore, 1) := by decide +kernel
theorem d_Z_make_31 : decode b_Z_make 31 = .ok (.iload_n 2, 1) := by decide +kernel
theorem d_Z_make_32 : decode b_Z_make 32 = .ok (.aload_n 0, 1) := by decide +kernel
theorem d_Z_make_33 : decode b_Z_make 33 = .ok (.getfield 13, 3) := by decide +kernel
theorem d_Z_make_36 : decode b_Z_make 36 = .ok (.bipush 60, 2) := by decide +kernel
theorem d_Z_make_38 : decode b_Z_make 38 = .ok (.iload_n 1, 1) := by decide +kernel
theorem d_Z_make_39 : decode b_Z_make 39 = .ok (.imul, 1) := by decide +kernel
theorem d_Z_make_40 : decode b_Z_make 40 = .ok (.iload_n 3, 1) := by decide +kernel
theorem d_Z_make_41 : decode b_Z_make 41 = .ok (.iadd, 1) := by decide +kernel
theorem d_Z_make_42 : decode b_Z_make 42 = .ok (.iaload, 1) := by decide +kernel
theorem d_Z_make_43 : decode b_Z_make 43 = .ok (.aload_n 0, 1) := by decide +kernel
theorem d_Z_make_44 : decode b_Z_make 44 = .ok (.getfield 19, 3) := by decide +kernel
theorem d_Z_make_47 : decode b_Z_make 47 = .ok (.bipush 60, 2) := by decide +kernel
theorem d_Z_make_49 : decode b_Z_make 49 = .ok (.iload_n 1, 1) := by decide +kernel
theorem d_Z_make_50 : decode b_Z_make 50 = .ok (.imul, 1) := by decide +kernel
theorem d_Z_make_51 : decode b_Z_make 51 = .ok (.iload_n 3, 1) := by decide +kernel
theorem d_Z_make_52 : decode b_Z_make 52 = .ok (.iadd, 1) := by decide +kernel
theorem d_Z_make_53 : decode b_Z_make 53 = .ok (.iaload, 1) := by decide +kernel
theorem d_Z_make_54 : decode b_Z_make 54 = .ok (.invokestatic 89, 3) := by decide +kernel
theorem d_Z_make_57 : decode b_Z_make 57 = .ok (.iadd, 1) := by decide +kernel
theorem d_Z_make_58 : decode b_Z_make 58 = .ok (.istore_n 2, 1) := by decide +kernel
theorem d_Z_make_59 : decode b_Z_make 59 = .ok (.iinc 3 1, 3) := by decide +kernel
theorem d_Z_make_62 : decode b_Z_make 62 = .ok (.goto (-48), 3) := by decide +kernel
theorem d_Z_make_65 : decode b_Z_make 65 = .ok (.aload_n 0, 1) := by decide +kernel
theorem d_Z_make_66 : decode b_Z_make 66 = .ok (.getfield 34, 3) := by decide +kernel
theorem d_Z_make_69 : decode b_Z_make 69 = .ok (.aload_n 0, 1) := by decide +kernel
theorem d_Z_make_70 : decode b_Z_make 70 = .ok (.getfield 7, 3) := by decide +kernel
theorem d_Z_make_73 : decode b_Z_make 73 = .ok (.iload_n 1, 1) := by decide +kernel
theorem d_Z_make_74 : decode b_Z_make 74 = .ok (.iaload, 1) := by decide +kernel
theorem d_Z_make_75 : decode b_Z_make 75 = .ok (.iload_n 2, 1) := by decide +kernel
theorem d_Z_make_76 : decode b_Z_make 76 = .ok (.iastore, 1) := by decide +kernel
theorem d_Z_make_77 : decode b_Z_make 77 = .ok (.aload_n 0, 1) := by decide +kernel
theorem d_Z_make_78 : decode b_Z_make 78 = .ok (.getfield 22, 3) := by decide +kernel
theorem d_Z_make_81 : decode b_Z_make 81 = .ok (.iload_n 1, 1) := by decide +kernel
theorem d_Z_make_82 : decode b_Z_make 82 = .ok (.iconst 0, 1) := by decide +kernel
theorem d_Z_make_83 : decode b_Z_make 83 = .ok (.iastore, 1) := by decide +kernel
theorem d_Z_make_84 : decode b_Z_make 84 = .ok (.iload_n 2, 1) := by decide +kernel
theorem d_Z_make_85 : decode b_Z_make 85 = .ok (.iconst 1, 1) := by decide +kernel
theorem d_Z_make_86 : decode b_Z_make 86 = .ok (.iadd, 1) := by decide +kernel
theorem d_Z_make_87 : decode b_Z_make 87 = .ok (.sipush 300, 3) := by decide +kernel
theorem d_Z_make_90 : decode b_Z_make 90 = .ok (.if_icmp .le 5, 3) := by decide +kernel
theorem d_Z_make_93 : decode b_Z_make 93 = .ok (.iconst (-1), 1) := by decide +kernel
theorem d_Z_make_94 : decode b_Z_make 94 = .ok (.ireturn, 1) := by decide +kernel
theorem d_Z_make_95 : decode b_Z_make 95 = .ok (.aload_n 0, 1) := by decide +kernel
theorem d_Z_make_96 : decode b_Z_make 96 = .ok (.iconst 0, 1) := by decide +kernel
theorem d_Z_make_97 : decode b_Z_make 97 = .ok (.putfield 78, 3) := by decide +kernel
theorem d_Z_make_100 : decode b_Z_make 100 = .ok (.iconst 0, 1) := by decide +kernel
theorem d_Z_make_101 : decode b_Z_make 101 = .ok (.istore_n 3, 1) := by decide +kernel
theorem d_Z_make_102 : decode b_Z_make 102 = .ok (.iload_n 3, 1) := by decide +kernel
theorem d_Z_make_103 : decode b_Z_make 103 = .ok (.aload_n 0, 1) := by decide +kernel
theorem d_Z_make_104 : decode b_Z_make 104 = .ok (.getfield 7, 3) := by decide +kernel
theorem d_Z_make_107 : decode b_Z_make 107 = .ok (.iload_n 1, 1) := by decide +kernel
theorem d_Z_make_108 : decode b_Z_make 108 = .ok (.iaload, 1) := by decide +kernel
theorem d_Z_make_109 : decode b_Z_make 109 = .ok (.if_icmp .ge 20, 3) := by decide +kernel
theorem d_Z_make_112 : decode b_Z_make 112 = .ok (.aload_n 0, 1) := by decide +kernel
theorem d_Z_make_113 : decode b_Z_make 113 = .ok (.iload_n 1, 1) := by decide +kernel
theorem d_Z_make_114 : decode b_Z_make 114 = .ok (.bipush 60, 2) := by decide +kernel
theorem d_Z_make_116 : decode b_Z_make 116 = .ok (.iload_n 1, 1) := by decide +kernel
theorem d_Z_make_117 : decode b_Z_make 117 = .ok (.imul, 1) := by decide +kernel
theorem d_Z_make_118 : decode b_Z_make 118 = .ok (.iload_n 3, 1) := by decide +kernel
theorem d_Z_make_119 : decode b_Z_make 119 = .ok (.iadd, 1) := by decide +kernel
theorem d_Z_make_120 : decode b_Z_make 120 = .ok (.invokevirtual 93, 3) := by decide +kernel
theorem d_Z_make_123 : decode b_Z_make 123 = .ok (.iinc 3 1, 3) := by decide +kernel
theorem d_Z_make_126 : decode b_Z_make 126 = .ok (.goto (-24), 3) := by decide +kernel
theorem d_Z_make_129 : decode b_Z_make 129 = .ok (.aload_n 0, 1) := by decide +kernel
theorem d_Z_make_130 : decode b_Z_make 130 = .ok (.iload_n 1, 1) := by decide +kernel
theorem d_Z_make_131 : decode b_Z_make 131 = .ok (.bipush 10, 2) := by decide +kernel
theorem d_Z_make_133 : decode b_Z_make 133 = .ok (.invokevirtual 81, 3) := by decide +kernel
theorem d_Z_make_136 : decode b_Z_make 136 = .ok (.aload_n 0, 1) := by decide +kernel
theorem d_Z_make_137 : decode b_Z_make 137 = .ok (.getfield 28, 3) := by decide +kernel
theorem d_Z_make_140 : decode b_Z_make 140 = .ok (.iload_n 1, 1) := by decide +kernel
theorem d_Z_make_141 : decode b_Z_make 141 = .ok (.aload_n 0, 1) := by decide +kernel
theorem d_Z_make_142 : decode b_Z_make 142 = .ok (.getfield 78, 3) := by decide +kernel
theorem d_Z_make_145 : decode b_Z_make 145 = .ok (.iastore, 1) := by decide +kernel
theorem d_Z_make_146 : decode b_Z_make 146 = .ok (.aload_n 0, 1) := by decide +kernel
theorem d_Z_make_147 : decode b_Z_make 147 = .ok (.getfield 22, 3) := by decide +kernel
theorem d_Z_make_150 : decode b_Z_make 150 = .ok (.iload_n 1, 1) := by decide +kernel
theorem d_Z_make_151 : decode b_Z_make 151 = .ok (.iconst 1, 1) := by decide +kernel
theorem d_Z_make_152 : decode b_Z_make 152 = .ok (.iastore, 1) := by decide +kernel
theorem d_Z_make_153 : decode b_Z_make 153 = .ok (.aload_n 0, 1) := by decide +kernel
theorem d_Z_make_154 : decode b_Z_make 154 = .ok (.getfield 25, 3) := by decide +kernel
theorem d_Z_make_157 : decode b_Z_make 157 = .ok (.iload_n 1, 1) := by decide +kernel
theorem d_Z_make_158 : decode b_Z_make 158 = .ok (.aload_n 0, 1) := by decide +kernel
theorem d_Z_make_159 : decode b_Z_make 159 = .ok (.getfield 96, 3) := by decide +kernel
theorem d_Z_make_162 : decode b_Z_make 162 = .ok (.iastore, 1) := by decide +kernel
theorem d_Z_make_163 : decode b_Z_make 163 = .ok (.aload_n 0, 1) := by decide +kernel
theorem d_Z_make_164 : decode b_Z_make 164 = .ok (.getfield 78, 3) := by decide +kernel
theorem d_Z_make_167 : decode b_Z_make 167 = .ok (.ireturn, 1) := by decide +kernel
theorem d_Z_bytesOf_0 : decode b_Z_bytesOf 0 = .ok (.iload_n 0, 1) := by decide +kernel
theorem d_Z_bytesOf_1 : decode b_Z_bytesOf 1 = .ok (.ifCond .ne 23, 3) := by decide +kernel
theorem d_Z_bytesOf_4 : decode b_Z_bytesOf 4 = .ok (.iload_n 1, 1) := by decide +kernel
theorem d_Z_bytesOf_5 : decode b_Z_bytesOf 5 = .ok (.bipush (-128), 2) := by decide +kernel
theorem d_Z_bytesOf_7 : decode b_Z_bytesOf 7 = .ok (.bipush 127, 2) := by decide +kernel
theorem d_Z_bytesOf_9 : decode b_Z_bytesOf 9 = .ok (.invokestatic 63, 3) := by decide +kernel
theorem d_Z_bytesOf_12 : decode b_Z_bytesOf 12 = .ok (.ifCond .eq 7, 3) := by decide +kernel
theorem d_Z_bytesOf_15 : decode b_Z_bytesOf 15 = .ok (.iconst 4, 1) := by decide +kernel
theorem d_Z_bytesOf_16 : decode b_Z_bytesOf 16 = .ok (.goto 30, 3) := by decide +kernel
theorem d_Z_bytesOf_19 : decode b_Z_bytesOf 19 = .ok (.bipush 7, 2) := by decide +kernel
theorem d_Z_bytesOf_21 : decode b_Z_bytesOf 21 = .ok (.goto 25, 3) := by decide +kernel
theorem d_Z_bytesOf_24 : decode b_Z_bytesOf 24 = .ok (.iload_n 0, 1) := by decide +kernel
theorem d_Z_bytesOf_25 : decode b_Z_bytesOf 25 = .ok (.bipush 6, 2) := by decide +kernel
theorem d_Z_bytesOf_27 : decode b_Z_bytesOf 27 = .ok (.if_icmp .ne 7, 3) := by decide +kernel
theorem d_Z_bytesOf_30 : decode b_Z_bytesOf 30 = .ok (.iconst 5, 1) := by decide +kernel
theorem d_Z_bytesOf_31 : decode b_Z_bytesOf 31 = .ok (.goto 15, 3) := by decide +kernel
theorem d_Z_bytesOf_34 : decode b_Z_bytesOf 34 = .ok (.iload_n 0, 1) := by decide +kernel
theorem d_Z_bytesOf_35 : decode b_Z_bytesOf 35 = .ok (.bipush 6, 2) := by decide +kernel
theorem d_Z_bytesOf_37 : decode b_Z_bytesOf 37 = .ok (.if_icmp .ge 8, 3) := by decide +kernel
theorem d_Z_bytesOf_40 : decode b_Z_bytesOf 40 = .ok (.bipush 7, 2) := by decide +kernel
theorem d_Z_bytesOf_42 : decode b_Z_bytesOf 42 = .ok (.goto 4, 3) := by decide +kernel
theorem d_Z_bytesOf_45 : decode b_Z_bytesOf 45 = .ok (.iconst 4, 1) := by decide +kernel
theorem d_Z_bytesOf_46 : decode b_Z_bytesOf 46 = .ok (.ireturn, 1) := by decide +kernel
theorem d_Z_putInstruction_0 : decode b_Z_putInstruction 0 = .ok (.aload_n 0, 1) := by decide +kernel
theorem d_Z_putInstruction_1 : decode b_Z_putInstruction 1 = .ok (.getfield 13, 3) := by decide +kernel
theorem d_Z_putInstruction_4 : decode b_Z_putInstruction 4 = .ok (.iload_n 2, 1) := by decide +kernel
theorem d_Z_putInstruction_5 : decode b_Z_putInstruction 5 = .ok (.iaload, 1) := by decide +kernel
theorem d_Z_putInstruction_6 : decode b_Z_putInstruction 6 = .ok (.istore_n 3, 1) := by decide +kernel
theorem d_Z_putInstruction_7 : decode b_Z_putInstruction 7 = .ok (.iload_n 3, 1) := by decide +kernel
theorem d_Z_putInstruction_8 : decode b_Z_putInstruction 8 = .ok (.ifCond .ne 35, 3) := by decide +kernel
theorem d_Z_putInstruction_11 : decode b_Z_putInstruction 11 = .ok (.aload_n 0, 1) := by decide +kernel
theorem d_Z_putInstruction_12 : decode b_Z_putInstruction 12 = .ok (.getfield 19, 3) := by decide +kernel
theorem d_Z_putInstruction_15 : decode b_Z_putInstruction 15 = .ok (.iload_n 2, 1) := by decide +kernel
theorem d_Z_putInstruction_16 : decode b_Z_putInstruction 16 = .ok (.iaload, 1) := by decide +kernel
theorem d_Z_putInstruction_17 : decode b_Z_putInstruction 17 = .ok (.bipush (-128), 2) := by decide +kernel
theorem d_Z_putInstruction_19 : decode b_Z_putInstruction 19 = .ok (.bipush 127, 2) := by decide +kernel
theorem d_Z_putInstruction_21 : decode b_Z_putInstruction 21 = .ok (.invokestatic 63, 3) := by decide +kernel
theorem d_Z_putInstruction_24 : decode b_Z_putInstruction 24 = .ok (.ifCond .eq 19, 3) := by decide +kernel
theorem d_Z_putInstruction_27 : decode b_Z_putInstruction 27 = .ok (.aload_n 0, 1) := by decide +kernel
theorem d_Z_putInstruction_28 : decode b_Z_putInstruction 28 = .ok (.iload_n 1, 1) := by decide +kernel
theorem d_Z_putInstruction_29 : decode b_Z_putInstruction 29 = .ok (.bipush 16, 2) := by decide +kernel
theorem d_Z_putInstruction_31 : decode b_Z_putInstruction 31 = .ok (.aload_n 0, 1) := by decide +kernel
theorem d_Z_putInstruction_32 : decode b_Z_putInstruction 32 = .ok (.getfield 19, 3) := by decide +kernel
theorem d_Z_putInstruction_35 : decode b_Z_putInstruction 35 = .ok (.iload_n 2, 1) := by decide +kernel
theorem d_Z_putInstruction_36 : decode b_Z_putInstruction 36 = .ok (.iaload, 1) := by decide +kernel
theorem d_Z_putInstruction_37 : decode b_Z_putInstruction 37 = .ok (.invokevirtual 85, 3) := by decide +kernel
theorem d_Z_putInstruction_40 : decode b_Z_putInstruction 40 = .ok (.goto 164, 3) := by decide +kernel
theorem d_Z_putInstruction_43 : decode b_Z_putInstruction 43 = .ok (.iload_n 3, 1) := by decide +kernel
theorem d_Z_putInstruction_44 : decode b_Z_putInstruction 44 = .ok (.ifCond .ne 41, 3) := by decide +kernel
theorem d_Z_putInstruction_47 : decode b_Z_putInstruction 47 = .ok (.aload_n 0, 1) := by decide +kernel
theorem d_Z_putInstruction_48 : decode b_Z_putInstruction 48 = .ok (.iload_n 1, 1) := by decide +kernel
theorem d_Z_putInstruction_49 : decode b_Z_putInstruction 49 = .ok (.iconst 3, 1) := by decide +kernel
theorem d_Z_putInstruction_50 : decode b_Z_putInstruction 50 = .ok (.invokevirtual 81, 3) := by decide +kernel
theorem d_Z_putInstruction_53 : decode b_Z_putInstruction 53 = .ok (.bipush 24, 2) := by decide +kernel
theorem d_Z_putInstruction_55 : decode b_Z_putInstruction 55 = .ok (.istore 4, 2) := by decide +kernel
theorem d_Z_putInstruction_57 : decode b_Z_putInstruction 57 = .ok (.iload 4, 2) := by decide +kernel
theorem d_Z_putInstruction_59 : decode b_Z_putInstruction 59 = .ok (.ifCond .lt 23, 3) := by decide +kernel
theorem d_Z_putInstruction_62 : decode b_Z_putInstruction 62 = .ok (.aload_n 0, 1) := by decide +kernel
theorem d_Z_putInstruction_63 : decode b_Z_putInstruction 63 = .ok (.iload_n 1, 1) := by decide +kernel
theorem d_Z_putInstruction_64 : decode b_Z_putInstruction 64 = .ok (.aload_n 0, 1) := by decide +kernel
theorem d_Z_putInstruction_65 : decode b_Z_putInstruction 65 = .ok (.getfield 19, 3) := by decide +kernel
theorem d_Z_putInstruction_68 : decode b_Z_putInstruction 68 = .ok (.iload_n 2, 1) := by decide +kernel
theorem d_Z_putInstruction_69 : decode b_Z_putInstruction 69 = .ok (.iaload, 1) := by decide +kernel
theorem d_Z_putInstruction_70 : decode b_Z_putInstruction 70 = .ok (.iload 4, 2) := by decide +kernel
theorem d_Z_putInstruction_72 : decode b_Z_putInstruction 72 = .ok (.ishr, 1) := by decide +kernel
theorem d_Z_putInstruction_73 : decode b_Z_putInstruction 73 = .ok (.invokevirtual 81, 3) := by decide +kernel
theorem d_Z_putInstruction_76 : decode b_Z_putInstruction 76 = .ok (.iinc 4 (-8), 3) := by decide +kernel
theorem d_Z_putInstruction_79 : decode b_Z_putInstruction 79 = .ok (.goto (-22), 3) := by decide +kernel
theorem d_Z_putInstruction_82 : decode b_Z_putInstruction 82 = .ok (.goto 122, 3) := by decide +kernel
theorem d_Z_putInstruction_85 : decode b_Z_putInstruction 85 = .ok (.iload_n 3, 1) := by decide +kernel
theorem d_Z_putInstruction_86 : decode b_Z_putInstruction 86 = .ok (.bipush 6, 2) := by decide +kernel
theorem d_Z_putInstruction_88 : decode b_Z_putInstruction 88 = .ok (.if_icmp .ne 72, 3) := by decide +kernel
theorem d_Z_putInstruction_91 : decode b_Z_putInstruction 91 = .ok (.aload_n 0, 1) := by decide +kernel
theorem d_Z_putInstruction_92 : decode b_Z_putInstruction 92 = .ok (.getfield 34, 3) := by decide +kernel
theorem d_Z_putInstruction_95 : decode b_Z_putInstruction 95 = .ok (.aload_n 0, 1) := by decide +kernel
theorem d_Z_putInstruction_96 : decode b_Z_putInstruction 96 = .ok (.getfield 19, 3) := by decide +kernel
theorem d_Z_putInstruction_99 : decode b_Z_putInstruction 99 = .ok (.iload_n 2, 1) := by decide +kernel
theorem d_Z_putInstruction_100 : decode b_Z_putInstruction 100 = .ok (.iaload, 1) := by decide +kernel
theorem d_Z_putInstruction_101 : decode b_Z_putInstruction 101 = .ok (.aload_n 0, 1) := by decide +kernel
theorem d_Z_putInstruction_102 : decode b_Z_putInstruction 102 = .ok (.getfield 7, 3) := by decide +kernel
theorem d_Z_putInstruction_105 : decode b_Z_putInstruction 105 = .ok (.iload_n 1, 1) := by decide +kernel
theorem d_Z_putInstruction_106 : decode b_Z_putInstruction 106 = .ok (.iaload, 1) := by decide +kernel
theorem d_Z_putInstruction_107 : decode b_Z_putInstruction 107 = .ok (.if_icmp .ge 12, 3) := by decide +kernel
theorem d_Z_putInstruction_110 : decode b_Z_putInstruction 110 = .ok (.aload_n 0, 1) := by decide +kernel
theorem d_Z_putInstruction_111 : decode b_Z_putInstruction 111 = .ok (.getfield 19, 3) := by decide +kernel
theorem d_Z_putInstruction_114 : decode b_Z_putInstruction 114 = .ok (.iload_n 2, 1) := by decide +kernel
theorem d_Z_putInstruction_115 : decode b_Z_putInstruction 115 = .ok (.iaload, 1) := by decide +kernel
theorem d_Z_putInstruction_116 : decode b_Z_putInstruction 116 = .ok (.goto 9, 3) := by decide +kernel
theorem d_Z_putInstruction_119 : decode b_Z_putInstruction 119 = .ok (.aload_n 0, 1) := by decide +kernel
theorem d_Z_putInstruction_120 : decode b_Z_putInstruction 120 = .ok (.getfield 7, 3) := by decide +kernel
theorem d_Z_putInstruction_123 : decode b_Z_putInstruction 123 = .ok (.iload_n 1, 1) := by decide +kernel
theorem d_Z_putInstruction_124 : decode b_Z_putInstruction 124 = .ok (.iaload, 1) := by decide +kernel
theorem d_Z_putInstruction_125 : decode b_Z_putInstruction 125 = .ok (.iaload, 1) := by decide +kernel
theorem d_Z_putInstruction_126 : decode b_Z_putInstruction 126 = .ok (.istore 4, 2) := by decide +kernel
theorem d_Z_putInstruction_128 : decode b_Z_putInstruction 128 = .ok (.aload_n 0, 1) := by decide +kernel
theorem d_Z_putInstruction_129 : decode b_Z_putInstruction 129 = .ok (.iload_n 1, 1) := by decide +kernel
theorem d_Z_putInstruction_130 : decode b_Z_putInstruction 130 = .ok (.iconst 1, 1) := by decide +kernel
theorem d_Z_putInstruction_131 : decode b_Z_putInstruction 131 = .ok (.aload_n 0, 1) := by decide +kernel
theorem d_Z_putInstruction_132 : decode b_Z_putInstruction 132 = .ok (.getfield 16, 3) := by decide +kernel
theorem d_Z_putInstruction_135 : decode b_Z_putInstruction 135 = .ok (.iload_n 2, 1) := by decide +kernel
theorem d_Z_putInstruction_136 : decode b_Z_putInstruction 136 = .ok (.iaload, 1) := by decide +kernel
theorem d_Z_putInstruction_137 : decode b_Z_putInstruction 137 = .ok (.invokevirtual 85, 3) := by decide +kernel
theorem d_Z_putInstruction_140 : decode b_Z_putInstruction 140 = .ok (.aload_n 0, 1) := by decide +kernel
theorem d_Z_putInstruction_141 : decode b_Z_putInstruction 141 = .ok (.iload_n 1, 1) := by decide +kernel
theorem d_Z_putInstruction_142 : decode b_Z_putInstruction 142 = .ok (.bipush 9, 2) := by decide +kernel
theorem d_Z_putInstruction_144 : decode b_Z_putInstruction 144 = .ok (.iload 4, 2) := by decide +kernel
theorem d_Z_putInstruction_146 : decode b_Z_putInstruction 146 = .ok (.bipush 8, 2) := by decide +kernel
theorem d_Z_putInstruction_148 : decode b_Z_putInstruction 148 = .ok (.ishr, 1) := by decide +kernel
theorem d_Z_putInstruction_149 : decode b_Z_putInstruction 149 = .ok (.invokevirtual 85, 3) := by decide +kernel
theorem d_Z_putInstruction_152 : decode b_Z_putInstruction 152 = .ok (.aload_n 0, 1) := by decide +kernel
theorem d_Z_putInstruction_153 : decode b_Z_putInstruction 153 = .ok (.iload_n 1, 1) := by decide +kernel
theorem d_Z_putInstruction_154 : decode b_Z_putInstruction 154 = .ok (.iload 4, 2) := by decide +kernel
theorem d_Z_putInstruction_156 : decode b_Z_putInstruction 156 = .ok (.invokevirtual 81, 3) := by decide +kernel
theorem d_Z_putInstruction_159 : decode b_Z_putInstruction 159 = .ok (.return_, 1) := by decide +kernel
theorem d_Z_putInstruction_160 : decode b_Z_putInstruction 160 = .ok (.iload_n 3, 1) := by decide +kernel
theorem d_Z_putInstruction_161 : decode b_Z_putInstruction 161 = .ok (.bipush 6, 2) := by decide +kernel
theorem d_Z_putInstruction_163 : decode b_Z_putInstruction 163 = .ok (.if_icmp .ge 15, 3) := by decide +kernel
theorem d_Z_putInstruction_166 : decode b_Z_putInstruction 166 = .ok (.aload_n 0, 1) := by decide +kernel
theorem d_Z_putInstruction_167 : decode b_Z_putInstruction 167 = .ok (.iload_n 1, 1) := by decide +kernel
theorem d_Z_putInstruction_168 : decode b_Z_putInstruction 168 = .ok (.iconst 1, 1) := by decide +kernel
theorem d_Z_putInstruction_169 : decode b_Z_putInstruction 169 = .ok (.aload_n 0, 1) := by decide +kernel
theorem d_Z_putInstruction_170 : decode b_Z_putInstruction 170 = .ok (.getfield 16, 3) := by decide +kernel
theorem d_Z_putInstruction_173 : decode b_Z_putInstruction 173 = .ok (.iload_n 2, 1) := by decide +kernel
theorem d_Z_putInstruction_174 : decode b_Z_putInstruction 174 = .ok (.iaload, 1) := by decide +kernel
theorem d_Z_putInstruction_175 : decode b_Z_putInstruction 175 = .ok (.invokevirtual 85, 3) := by decide +kernel
theorem d_Z_putInstruction_178 : decode b_Z_putInstruction 178 = .ok (.aload_n 0, 1) := by decide +kernel
theorem d_Z_putInstruction_179 : decode b_Z_putInstruction 179 = .ok (.iload_n 1, 1) := by decide +kernel
theorem d_Z_putInstruction_180 : decode b_Z_putInstruction 180 = .ok (.iconst 1, 1) := by decide +kernel
theorem d_Z_putInstruction_181 : decode b_Z_putInstruction 181 = .ok (.aload_n 0, 1) := by decide +kernel
theorem d_Z_putInstruction_182 : decode b_Z_putInstruction 182 = .ok (.getfield 19, 3) := by decide +kernel
theorem d_Z_putInstruction_185 : decode b_Z_putInstruction 185 = .ok (.iload_n 2, 1) := by decide +kernel
theorem d_Z_putInstruction_186 : decode b_Z_putInstruction 186 = .ok (.iaload, 1) := by decide +kernel
theorem d_Z_putInstruction_187 : decode b_Z_putInstruction 187 = .ok (.invokevirtual 85, 3) := by decide +kernel
theorem d_Z_putInstruction_190 : decode b_Z_putInstruction 190 = .ok (.iload_n 3, 1) := by decide +kernel
theorem d_Z_putInstruction_191 : decode b_Z_putInstruction 191 = .ok (.bipush 6, 2) := by decide +kernel
theorem d_Z_putInstruction_193 : decode b_Z_putInstruction 193 = .ok (.if_icmp .ge 11, 3) := by decide +kernel
theorem d_Z_putInstruction_196 : decode b_Z_putInstruction 196 = .ok (.aload_n 0, 1) := by decide +kernel
theorem d_Z_putInstruction_197 : decode b_Z_putInstruction 197 = .ok (.iload_n 1, 1) := by decide +kernel
theorem d_Z_putInstruction_198 : decode b_Z_putInstruction 198 = .ok (.iload_n 3, 1) := by decide +kernel
theorem d_Z_putInstruction_199 : decode b_Z_putInstruction 199 = .ok (.iconst 3, 1) := by decide +kernel
theorem d_Z_putInstruction_200 : decode b_Z_putInstruction 200 = .ok (.iadd, 1) := by decide +kernel
theorem d_Z_putInstruction_201 : decode b_Z_putInstruction 201 = .ok (.invokevirtual 81, 3) := by decide +kernel
theorem d_Z_putInstruction_204 : decode b_Z_putInstruction 204 = .ok (.aload_n 0, 1) := by decide +kernel
theorem d_Z_putInstruction_205 : decode b_Z_putInstruction 205 = .ok (.iload_n 1, 1) := by decide +kernel
theorem d_Z_putInstruction_206 : decode b_Z_putInstruction 206 = .ok (.iconst 2, 1) := by decide +kernel
theorem d_Z_putInstruction_207 : decode b_Z_putInstruction 207 = .ok (.aload_n 0, 1) := by decide +kernel
theorem d_Z_putInstruction_208 : decode b_Z_putInstruction 208 = .ok (.getfield 16, 3) := by decide +kernel
theorem d_Z_putInstruction_211 : decode b_Z_putInstruction 211 = .ok (.iload_n 2, 1) := by decide +kernel
theorem d_Z_putInstruction_212 : decode b_Z_putInstruction 212 = .ok (.iaload, 1) := by decide +kernel
theorem d_Z_putInstruction_213 : decode b_Z_putInstruction 213 = .ok (.invokevirtual 85, 3) := by decide +kernel
theorem d_Z_putInstruction_216 : decode b_Z_putInstruction 216 = .ok (.return_, 1) := by decide +kernel
theorem d_Z_putTwo_0 : decode b_Z_putTwo 0 = .ok (.aload_n 0, 1) := by decide +kernel
theorem d_Z_putTwo_1 : decode b_Z_putTwo 1 = .ok (.iload_n 1, 1) := by decide +kernel
theorem d_Z_putTwo_2 : decode b_Z_putTwo 2 = .ok (.iload_n 2, 1) := by decide +kernel
theorem d_Z_putTwo_3 : decode b_Z_putTwo 3 = .ok (.invokevirtual 81, 3) := by decide +kernel
theorem d_Z_putTwo_6 : decode b_Z_putTwo 6 = .ok (.aload_n 0, 1) := by decide +kernel
theorem d_Z_putTwo_7 : decode b_Z_putTwo 7 = .ok (.iload_n 1, 1) := by decide +kernel
theorem d_Z_putTwo_8 : decode b_Z_putTwo 8 = .ok (.iload_n 3, 1) := by decide +kernel
theorem d_Z_putTwo_9 : decode b_Z_putTwo 9 = .ok (.invokevirtual 81, 3) := by decide +kernel
theorem d_Z_putTwo_12 : decode b_Z_putTwo 12 = .ok (.return_, 1) := by decide +kernel
theorem d_Z_put_0 : decode b_Z_put 0 = .ok (.aload_n 0, 1) := by decide +kernel
theorem d_Z_put_1 : decode b_Z_put 1 = .ok (.getfield 31, 3) := by decide +kernel
theorem d_Z_put_4 : decode b_Z_put 4 = .ok (.sipush 300, 3) := by decide +kernel
theorem d_Z_put_7 : decode b_Z_put 7 = .ok (.iload_n 1, 1) := by decide +kernel
theorem d_Z_put_8 : decode b_Z_put 8 = .ok (.imul, 1) := by decide +kernel
theorem d_Z_put_9 : decode b_Z_put 9 = .ok (.aload_n 0, 1) := by decide +kernel
theorem d_Z_put_10 : decode b_Z_put 10 = .ok (.getfield 78, 3) := by decide +kernel
theorem d_Z_put_13 : decode b_Z_put 13 = .ok (.iadd, 1) := by decide +kernel
theorem d_Z_put_14 : decode b_Z_put 14 = .ok (.iload_n 2, 1) := by decide +kernel
theorem d_Z_put_15 : decode b_Z_put 15 = .ok (.sipush 255, 3) := by decide +kernel
theorem d_Z_put_18 : decode b_Z_put 18 = .ok (.iand, 1) := by decide +kernel
theorem d_Z_put_19 : decode b_Z_put 19 = .ok (.iastore, 1) := by decide +kernel
theorem d_Z_put_20 : decode b_Z_put 20 = .ok (.aload_n 0, 1) := by decide +kernel
theorem d_Z_put_21 : decode b_Z_put 21 = .ok (.dup, 1) := by decide +kernel
theorem d_Z_put_22 : decode b_Z_put 22 = .ok (.getfield 78, 3) := by decide +kernel
theorem d_Z_put_25 : decode b_Z_put 25 = .ok (.iconst 1, 1) := by decide +kernel
theorem d_Z_put_26 : decode b_Z_put 26 = .ok (.iadd, 1) := by decide +kernel
theorem d_Z_put_27 : decode b_Z_put 27 = .ok (.putfield 78, 3) := by decide +kernel
theorem d_Z_put_30 : decode b_Z_put 30 = .ok (.return_, 1) := by decide +kernel
theorem d_Z_byteAt_0 : decode b_Z_byteAt 0 = .ok (.aload_n 0, 1) := by decide +kernel
theorem d_Z_byteAt_1 : decode b_Z_byteAt 1 = .ok (.iload_n 1, 1) := by decide +kernel
theorem d_Z_byteAt_2 : decode b_Z_byteAt 2 = .ok (.invokevirtual 71, 3) := by decide +kernel
theorem d_Z_byteAt_5 : decode b_Z_byteAt 5 = .ok (.ifCond .ne 5, 3) := by decide +kernel
theorem d_Z_byteAt_8 : decode b_Z_byteAt 8 = .ok (.iconst 0, 1) := by decide +kernel
theorem d_Z_byteAt_9 : decode b_Z_byteAt 9 = .ok (.ireturn, 1) := by decide +kernel
theorem d_Z_byteAt_10 : decode b_Z_byteAt 10 = .ok (.aload_n 0, 1) := by decide +kernel
theorem d_Z_byteAt_11 : decode b_Z_byteAt 11 = .ok (.getfield 22, 3) := by decide +kernel
theorem d_Z_byteAt_14 : decode b_Z_byteAt 14 = .ok (.iload_n 1, 1) := by decide +kernel
theorem d_Z_byteAt_15 : decode b_Z_byteAt 15 = .ok (.iaload, 1) := by decide +kernel
theorem d_Z_byteAt_16 : decode b_Z_byteAt 16 = .ok (.ifCond .ne 9, 3) := by decide +kernel
theorem d_Z_byteAt_19 : decode b_Z_byteAt 19 = .ok (.aload_n 0, 1) := by decide +kernel
theorem d_Z_byteAt_20 : decode b_Z_byteAt 20 = .ok (.iconst 2, 1) := by decide +kernel
theorem d_Z_byteAt_21 : decode b_Z_byteAt 21 = .ok (.invokevirtual 67, 3) := by decide +kernel
theorem d_Z_byteAt_24 : decode b_Z_byteAt 24 = .ok (.ireturn, 1) := by decide +kernel
theorem d_Z_byteAt_25 : decode b_Z_byteAt 25 = .ok (.iload_n 2, 1) := by decide +kernel
theorem d_Z_byteAt_26 : decode b_Z_byteAt 26 = .ok (.iconst 0, 1) := by decide +kernel
theorem d_Z_byteAt_27 : decode b_Z_byteAt 27 = .ok (.aload_n 0, 1) := by decide +kernel
theorem d_Z_byteAt_28 : decode b_Z_byteAt 28 = .ok (.getfield 28, 3) := by decide +kernel
theorem d_Z_byteAt_31 : decode b_Z_byteAt 31 = .ok (.iload_n 1, 1) := by decide +kernel
theorem d_Z_byteAt_32 : decode b_Z_byteAt 32 = .ok (.iaload, 1) := by decide +kernel
theorem d_Z_byteAt_33 : decode b_Z_byteAt 33 = .ok (.iconst 1, 1) := by decide +kernel
theorem d_Z_byteAt_34 : decode b_Z_byteAt 34 = .ok (.isub, 1) := by decide +kernel
theorem d_Z_byteAt_35 : decode b_Z_byteAt 35 = .ok (.invokestatic 63, 3) := by decide +kernel
theorem d_Z_byteAt_38 : decode b_Z_byteAt 38 = .ok (.ifCond .eq 18, 3) := by decide +kernel
theorem d_Z_byteAt_41 : decode b_Z_byteAt 41 = .ok (.aload_n 0, 1) := by decide +kernel
theorem d_Z_byteAt_42 : decode b_Z_byteAt 42 = .ok (.getfield 31, 3) := by decide +kernel
theorem d_Z_byteAt_45 : decode b_Z_byteAt 45 = .ok (.sipush 300, 3) := by decide +kernel
theorem d_Z_byteAt_48 : decode b_Z_byteAt 48 = .ok (.iload_n 1, 1) := by decide +kernel
theorem d_Z_byteAt_49 : decode b_Z_byteAt 49 = .ok (.imul, 1) := by decide +kernel
theorem d_Z_byteAt_50 : decode b_Z_byteAt 50 = .ok (.iload_n 2, 1) := by decide +kernel
theorem d_Z_byteAt_51 : decode b_Z_byteAt 51 = .ok (.iadd, 1) := by decide +kernel
theorem d_Z_byteAt_52 : decode b_Z_byteAt 52 = .ok (.iaload, 1) := by decide +kernel
theorem d_Z_byteAt_53 : decode b_Z_byteAt 53 = .ok (.goto 8, 3) := by decide +kernel
theorem d_Z_byteAt_56 : decode b_Z_byteAt 56 = .ok (.aload_n 0, 1) := by decide +kernel
theorem d_Z_byteAt_57 : decode b_Z_byteAt 57 = .ok (.iconst 3, 1) := by decide +kernel
theorem d_Z_byteAt_58 : decode b_Z_byteAt 58 = .ok (.invokevirtual 67, 3) := by decide +kernel
theorem d_Z_byteAt_61 : decode b_Z_byteAt 61 = .ok (.ireturn, 1) := by decide +kernel
theorem d_Z_alter_0 : decode b_Z_alter 0 = .ok (.aload_n 0, 1) := by decide +kernel
theorem d_Z_alter_1 : decode b_Z_alter 1 = .ok (.iload_n 1, 1) := by decide +kernel
theorem d_Z_alter_2 : decode b_Z_alter 2 = .ok (.invokevirtual 71, 3) := by decide +kernel
theorem d_Z_alter_5 : decode b_Z_alter 5 = .ok (.ifCond .ne 5, 3) := by decide +kernel
theorem d_Z_alter_8 : decode b_Z_alter 8 = .ok (.iconst 0, 1) := by decide +kernel
theorem d_Z_alter_9 : decode b_Z_alter 9 = .ok (.ireturn, 1) := by decide +kernel
theorem d_Z_alter_10 : decode b_Z_alter 10 = .ok (.aload_n 0, 1) := by decide +kernel
theorem d_Z_alter_11 : decode b_Z_alter 11 = .ok (.getfield 22, 3) := by decide +kernel
theorem d_Z_alter_14 : decode b_Z_alter 14 = .ok (.iload_n 1, 1) := by decide +kernel
theorem d_Z_alter_15 : decode b_Z_alter 15 = .ok (.iaload, 1) := by decide +kernel
theorem d_Z_alter_16 : decode b_Z_alter 16 = .ok (.iconst 1, 1) := by decide +kernel
theorem d_Z_alter_17 : decode b_Z_alter 17 = .ok (.if_icmp .eq 9, 3) := by decide +kernel
theorem d_Z_alter_20 : decode b_Z_alter 20 = .ok (.aload_n 0, 1) := by decide +kernel
theorem d_Z_alter_21 : decode b_Z_alter 21 = .ok (.iconst 2, 1) := by decide +kernel
theorem d_Z_alter_22 : decode b_Z_alter 22 = .ok (.invokevirtual 67, 3) := by decide +kernel
theorem d_Z_alter_25 : decode b_Z_alter 25 = .ok (.ireturn, 1) := by decide +kernel
theorem d_Z_alter_26 : decode b_Z_alter 26 = .ok (.iload_n 2, 1) := by decide +kernel
theorem d_Z_alter_27 : decode b_Z_alter 27 = .ok (.iconst 0, 1) := by decide +kernel
theorem d_Z_alter_28 : decode b_Z_alter 28 = .ok (.aload_n 0, 1) := by decide +kernel
theorem d_Z_alter_29 : decode b_Z_alter 29 = .ok (.getfield 28, 3) := by decide +kernel
theorem d_Z_alter_32 : decode b_Z_alter 32 = .ok (.iload_n 1, 1) := by decide +kernel
theorem d_Z_alter_33 : decode b_Z_alter 33 = .ok (.iaload, 1) := by decide +kernel
theorem d_Z_alter_34 : decode b_Z_alter 34 = .ok (.iconst 1, 1) := by decide +kernel
theorem d_Z_alter_35 : decode b_Z_alter 35 = .ok (.isub, 1) := by decide +kernel
theorem d_Z_alter_36 : decode b_Z_alter 36 = .ok (.invokestatic 63, 3) := by decide +kernel
theorem d_Z_alter_39 : decode b_Z_alter 39 = .ok (.ifCond .eq 14, 3) := by decide +kernel
theorem d_Z_alter_42 : decode b_Z_alter 42 = .ok (.iload_n 3, 1) := by decide +kernel
theorem d_Z_alter_43 : decode b_Z_alter 43 = .ok (.iconst 0, 1) := by decide +kernel
theorem d_Z_alter_44 : decode b_Z_alter 44 = .ok (.sipush 255, 3) := by decide +kernel
theorem d_Z_alter_47 : decode b_Z_alter 47 = .ok (.invokestatic 63, 3) := by decide +kernel
theorem d_Z_alter_50 : decode b_Z_alter 50 = .ok (.ifCond .ne 9, 3) := by decide +kernel
theorem d_Z_alter_53 : decode b_Z_alter 53 = .ok (.aload_n 0, 1) := by decide +kernel
theorem d_Z_alter_54 : decode b_Z_alter 54 = .ok (.iconst 3, 1) := by decide +kernel
theorem d_Z_alter_55 : decode b_Z_alter 55 = .ok (.invokevirtual 67, 3) := by decide +kernel
theorem d_Z_alter_58 : decode b_Z_alter 58 = .ok (.ireturn, 1) := by decide +kernel
theorem d_Z_alter_59 : decode b_Z_alter 59 = .ok (.aload_n 0, 1) := by decide +kernel
theorem d_Z_alter_60 : decode b_Z_alter 60 = .ok (.getfield 31, 3) := by decide +kernel
theorem d_Z_alter_63 : decode b_Z_alter 63 = .ok (.sipush 300, 3) := by decide +kernel
theorem d_Z_alter_66 : decode b_Z_alter 66 = .ok (.iload_n 1, 1) := by decide +kernel
theorem d_Z_alter_67 : decode b_Z_alter 67 = .ok (.imul, 1) := by decide +kernel
theorem d_Z_alter_68 : decode b_Z_alter 68 = .ok (.iload_n 2, 1) := by decide +kernel
theorem d_Z_alter_69 : decode b_Z_alter 69 = .ok (.iadd, 1) := by decide +kernel
theorem d_Z_alter_70 : decode b_Z_alter 70 = .ok (.iaload, 1) := by decide +kernel
theorem d_Z_alter_71 : decode b_Z_alter 71 = .ok (.istore 4, 2) := by decide +kernel
theorem d_Z_alter_73 : decode b_Z_alter 73 = .ok (.aload_n 0, 1) := by decide +kernel
theorem d_Z_alter_74 : decode b_Z_alter 74 = .ok (.getfield 31, 3) := by decide +kernel
theorem d_Z_alter_77 : decode b_Z_alter 77 = .ok (.sipush 300, 3) := by decide +kernel
theorem d_Z_alter_80 : decode b_Z_alter 80 = .ok (.iload_n 1, 1) := by decide +kernel
theorem d_Z_alter_81 : decode b_Z_alter 81 = .ok (.imul, 1) := by decide +kernel
theorem d_Z_alter_82 : decode b_Z_alter 82 = .ok (.iload_n 2, 1) := by decide +kernel
theorem d_Z_alter_83 : decode b_Z_alter 83 = .ok (.iadd, 1) := by decide +kernel
theorem d_Z_alter_84 : decode b_Z_alter 84 = .ok (.iload_n 3, 1) := by decide +kernel
theorem d_Z_alter_85 : decode b_Z_alter 85 = .ok (.iastore, 1) := by decide +kernel
theorem d_Z_alter_86 : decode b_Z_alter 86 = .ok (.iload 4, 2) := by decide +kernel
theorem d_Z_alter_88 : decode b_Z_alter 88 = .ok (.ireturn, 1) := by decide +kernel
theorem d_Z_check_0 : decode b_Z_check 0 = .ok (.aload_n 0, 1) := by decide +kernel
theorem d_Z_check_1 : decode b_Z_check 1 = .ok (.iload_n 1, 1) := by decide +kernel
theorem d_Z_check_2 : decode b_Z_check 2 = .ok (.invokevirtual 71, 3) := by decide +kernel
theorem d_Z_check_5 : decode b_Z_check 5 = .ok (.ifCond .ne 5, 3) := by decide +kernel
theorem d_Z_check_8 : decode b_Z_check 8 = .ok (.iconst 0, 1) := by decide +kernel
theorem d_Z_check_9 : decode b_Z_check 9 = .ok (.ireturn, 1) := by decide +kernel
theorem d_Z_check_10 : decode b_Z_check 10 = .ok (.aload_n 0, 1) := by decide +kernel
theorem d_Z_check_11 : decode b_Z_check 11 = .ok (.getfield 22, 3) := by decide +kernel
theorem d_Z_check_14 : decode b_Z_check 14 = .ok (.iload_n 1, 1) := by decide +kernel
theorem d_Z_check_15 : decode b_Z_check 15 = .ok (.iaload, 1) := by decide +kernel
theorem d_Z_check_16 : decode b_Z_check 16 = .ok (.ifCond .ne 11, 3) := by decide +kernel
theorem d_Z_check_19 : decode b_Z_check 19 = .ok (.aload_n 0, 1) := by decide +kernel
theorem d_Z_check_20 : decode b_Z_check 20 = .ok (.iconst 2, 1) := by decide +kernel
theorem d_Z_check_21 : decode b_Z_check 21 = .ok (.invokevirtual 67, 3) := by decide +kernel
theorem d_Z_check_24 : decode b_Z_check 24 = .ok (.goto 8, 3) := by decide +kernel
theorem d_Z_check_27 : decode b_Z_check 27 = .ok (.aload_n 0, 1) := by decide +kernel
theorem d_Z_check_28 : decode b_Z_check 28 = .ok (.iload_n 1, 1) := by decide +kernel
theorem d_Z_check_29 : decode b_Z_check 29 = .ok (.invokevirtual 114, 3) := by decide +kernel
theorem d_Z_check_32 : decode b_Z_check 32 = .ok (.ireturn, 1) := by decide +kernel
theorem d_Z_checkOf_0 : decode b_Z_checkOf 0 = .ok (.aload_n 0, 1) := by decide +kernel
theorem d_Z_checkOf_1 : decode b_Z_checkOf 1 = .ok (.iload_n 1, 1) := by decide +kernel
theorem d_Z_checkOf_2 : decode b_Z_checkOf 2 = .ok (.invokevirtual 111, 3) := by decide +kernel
theorem d_Z_checkOf_5 : decode b_Z_checkOf 5 = .ok (.istore_n 2, 1) := by decide +kernel
theorem d_Z_checkOf_6 : decode b_Z_checkOf 6 = .ok (.aload_n 0, 1) := by decide +kernel
theorem d_Z_checkOf_7 : decode b_Z_checkOf 7 = .ok (.getfield 28, 3) := by decide +kernel
theorem d_Z_checkOf_10 : decode b_Z_checkOf 10 = .ok (.iload_n 1, 1) := by decide +kernel
theorem d_Z_checkOf_11 : decode b_Z_checkOf 11 = .ok (.iaload, 1) := by decide +kernel
theorem d_Z_checkOf_12 : decode b_Z_checkOf 12 = .ok (.istore_n 3, 1) := by decide +kernel
theorem d_Z_checkOf_13 : decode b_Z_checkOf 13 = .ok (.iconst 0, 1) := by decide +kernel
theorem d_Z_checkOf_14 : decode b_Z_checkOf 14 = .ok (.istore 4, 2) := by decide +kernel
theorem d_Z_checkOf_16 : decode b_Z_checkOf 16 = .ok (.iload 4, 2) := by decide +kernel
theorem d_Z_checkOf_18 : decode b_Z_checkOf 18 = .ok (.iload_n 3, 1) := by decide +kernel
theorem d_Z_checkOf_19 : decode b_Z_checkOf 19 = .ok (.if_icmp .ge 102, 3) := by decide +kernel
theorem d_Z_checkOf_22 : decode b_Z_checkOf 22 = .ok (.iload_n 2, 1) := by decide +kernel
theorem d_Z_checkOf_23 : decode b_Z_checkOf 23 = .ok (.ifCond .ne 98, 3) := by decide +kernel
theorem d_Z_checkOf_26 : decode b_Z_checkOf 26 = .ok (.sipush 300, 3) := by decide +kernel
theorem d_Z_checkOf_29 : decode b_Z_checkOf 29 = .ok (.iload_n 1, 1) := by decide +kernel
theorem d_Z_checkOf_30 : decode b_Z_checkOf 30 = .ok (.imul, 1) := by decide +kernel
theorem d_Z_checkOf_31 : decode b_Z_checkOf 31 = .ok (.iload 4, 2) := by decide +kernel
theorem d_Z_checkOf_33 : decode b_Z_checkOf 33 = .ok (.iadd, 1) := by decide +kernel
theorem d_Z_checkOf_34 : decode b_Z_checkOf 34 = .ok (.istore 5, 2) := by decide +kernel
theorem d_Z_checkOf_36 : decode b_Z_checkOf 36 = .ok (.aload_n 0, 1) := by decide +kernel
theorem d_Z_checkOf_37 : decode b_Z_checkOf 37 = .ok (.getfield 37, 3) := by decide +kernel
theorem d_Z_checkOf_40 : decode b_Z_checkOf 40 = .ok (.iload 4, 2) := by decide +kernel
theorem d_Z_checkOf_42 : decode b_Z_checkOf 42 = .ok (.iaload, 1) := by decide +kernel
theorem d_Z_checkOf_43 : decode b_Z_checkOf 43 = .ok (.ifCond .lt 72, 3) := by decide +kernel
theorem d_Z_checkOf_46 : decode b_Z_checkOf 46 = .ok (.aload_n 0, 1) := by decide +kernel
theorem d_Z_checkOf_47 : decode b_Z_checkOf 47 = .ok (.getfield 31, 3) := by decide +kernel
theorem d_Z_checkOf_50 : decode b_Z_checkOf 50 = .ok (.iload 5, 2) := by decide +kernel
theorem d_Z_checkOf_52 : decode b_Z_checkOf 52 = .ok (.iaload, 1) := by decide +kernel
theorem d_Z_checkOf_53 : decode b_Z_checkOf 53 = .ok (.bipush 9, 2) := by decide +kernel
theorem d_Z_checkOf_55 : decode b_Z_checkOf 55 = .ok (.if_icmp .ne 60, 3) := by decide +kernel
theorem d_Z_checkOf_58 : decode b_Z_checkOf 58 = .ok (.sipush 256, 3) := by decide +kernel
theorem d_Z_checkOf_61 : decode b_Z_checkOf 61 = .ok (.aload_n 0, 1) := by decide +kernel
theorem d_Z_checkOf_62 : decode b_Z_checkOf 62 = .ok (.getfield 31, 3) := by decide +kernel
theorem d_Z_checkOf_65 : decode b_Z_checkOf 65 = .ok (.iload 5, 2) := by decide +kernel
theorem d_Z_checkOf_67 : decode b_Z_checkOf 67 = .ok (.iconst 1, 1) := by decide +kernel
theorem d_Z_checkOf_68 : decode b_Z_checkOf 68 = .ok (.iadd, 1) := by decide +kernel
theorem d_Z_checkOf_69 : decode b_Z_checkOf 69 = .ok (.iaload, 1) := by decide +kernel
theorem d_Z_checkOf_70 : decode b_Z_checkOf 70 = .ok (.imul, 1) := by decide +kernel
theorem d_Z_checkOf_71 : decode b_Z_checkOf 71 = .ok (.aload_n 0, 1) := by decide +kernel
theorem d_Z_checkOf_72 : decode b_Z_checkOf 72 = .ok (.getfield 31, 3) := by decide +kernel
theorem d_Z_checkOf_75 : decode b_Z_checkOf 75 = .ok (.iload 5, 2) := by decide +kernel
theorem d_Z_checkOf_77 : decode b_Z_checkOf 77 = .ok (.iconst 2, 1) := by decide +kernel
theorem d_Z_checkOf_78 : decode b_Z_checkOf 78 = .ok (.iadd, 1) := by decide +kernel
theorem d_Z_checkOf_79 : decode b_Z_checkOf 79 = .ok (.iaload, 1) := by decide +kernel
theorem d_Z_checkOf_80 : decode b_Z_checkOf 80 = .ok (.iadd, 1) := by decide +kernel
theorem d_Z_checkOf_81 : decode b_Z_checkOf 81 = .ok (.istore 6, 2) := by decide +kernel
theorem d_Z_checkOf_83 : decode b_Z_checkOf 83 = .ok (.aload_n 0, 1) := by decide +kernel
theorem d_Z_checkOf_84 : decode b_Z_checkOf 84 = .ok (.getfield 37, 3) := by decide +kernel
theorem d_Z_checkOf_87 : decode b_Z_checkOf 87 = .ok (.iload 4, 2) := by decide +kernel
theorem d_Z_checkOf_89 : decode b_Z_checkOf 89 = .ok (.iaload, 1) := by decide +kernel
theorem d_Z_checkOf_90 : decode b_Z_checkOf 90 = .ok (.iconst 1, 1) := by decide +kernel
theorem d_Z_checkOf_91 : decode b_Z_checkOf 91 = .ok (.if_icmp .ne 19, 3) := by decide +kernel
theorem d_Z_checkOf_94 : decode b_Z_checkOf 94 = .ok (.iload 6, 2) := by decide +kernel
theorem d_Z_checkOf_96 : decode b_Z_checkOf 96 = .ok (.iload_n 3, 1) := by decide +kernel
theorem d_Z_checkOf_97 : decode b_Z_checkOf 97 = .ok (.if_icmp .ge 13, 3) := by decide +kernel
theorem d_Z_checkOf_100 : decode b_Z_checkOf 100 = .ok (.aload_n 0, 1) := by decide +kernel
theorem d_Z_checkOf_101 : decode b_Z_checkOf 101 = .ok (.getfield 37, 3) := by decide +kernel
theorem d_Z_checkOf_104 : decode b_Z_checkOf 104 = .ok (.iload 6, 2) := by decide +kernel
theorem d_Z_checkOf_106 : decode b_Z_checkOf 106 = .ok (.iaload, 1) := by decide +kernel
theorem d_Z_checkOf_107 : decode b_Z_checkOf 107 = .ok (.ifCond .eq 8, 3) := by decide +kernel
theorem d_Z_checkOf_110 : decode b_Z_checkOf 110 = .ok (.iconst 1, 1) := by decide +kernel
theorem d_Z_checkOf_111 : decode b_Z_checkOf 111 = .ok (.iload 4, 2) := by decide +kernel
theorem d_Z_checkOf_113 : decode b_Z_checkOf 113 = .ok (.iadd, 1) := by decide +kernel
theorem d_Z_checkOf_114 : decode b_Z_checkOf 114 = .ok (.istore_n 2, 1) := by decide +kernel
theorem d_Z_checkOf_115 : decode b_Z_checkOf 115 = .ok (.iinc 4 1, 3) := by decide +kernel
theorem d_Z_checkOf_118 : decode b_Z_checkOf 118 = .ok (.goto (-102), 3) := by decide +kernel
theorem d_Z_checkOf_121 : decode b_Z_checkOf 121 = .ok (.iload_n 2, 1) := by decide +kernel
theorem d_Z_checkOf_122 : decode b_Z_checkOf 122 = .ok (.ireturn, 1) := by decide +kernel
theorem d_Z_checkCodes_0 : decode b_Z_checkCodes 0 = .ok (.aload_n 0, 1) := by decide +kernel
theorem d_Z_checkCodes_1 : decode b_Z_checkCodes 1 = .ok (.getfield 28, 3) := by decide +kernel
theorem d_Z_checkCodes_4 : decode b_Z_checkCodes 4 = .ok (.iload_n 1, 1) := by decide +kernel
theorem d_Z_checkCodes_5 : decode b_Z_checkCodes 5 = .ok (.iaload, 1) := by decide +kernel
theorem d_Z_checkCodes_6 : decode b_Z_checkCodes 6 = .ok (.istore_n 2, 1) := by decide +kernel
theorem d_Z_checkCodes_7 : decode b_Z_checkCodes 7 = .ok (.iconst 0, 1) := by decide +kernel
theorem d_Z_checkCodes_8 : decode b_Z_checkCodes 8 = .ok (.istore_n 3, 1) := by decide +kernel
theorem d_Z_checkCodes_9 : decode b_Z_checkCodes 9 = .ok (.iload_n 3, 1) := by decide +kernel
theorem d_Z_checkCodes_10 : decode b_Z_checkCodes 10 = .ok (.iload_n 2, 1) := by decide +kernel
theorem d_Z_checkCodes_11 : decode b_Z_checkCodes 11 = .ok (.if_icmp .gt 16, 3) := by decide +kernel
theorem d_Z_checkCodes_14 : decode b_Z_checkCodes 14 = .ok (.aload_n 0, 1) := by decide +kernel
theorem d_Z_checkCodes_15 : decode b_Z_checkCodes 15 = .ok (.getfield 37, 3) := by decide +kernel
theorem d_Z_checkCodes_18 : decode b_Z_checkCodes 18 = .ok (.iload_n 3, 1) := by decide +kernel
theorem d_Z_checkCodes_19 : decode b_Z_checkCodes 19 = .ok (.iconst (-1), 1) := by decide +kernel
theorem d_Z_checkCodes_20 : decode b_Z_checkCodes 20 = .ok (.iastore, 1) := by decide +kernel
theorem d_Z_checkCodes_21 : decode b_Z_checkCodes 21 = .ok (.iinc 3 1, 3) := by decide +kernel
theorem d_Z_checkCodes_24 : decode b_Z_checkCodes 24 = .ok (.goto (-15), 3) := by decide +kernel
theorem d_Z_checkCodes_27 : decode b_Z_checkCodes 27 = .ok (.iconst 0, 1) := by decide +kernel
theorem d_Z_checkCodes_28 : decode b_Z_checkCodes 28 = .ok (.istore_n 3, 1) := by decide +kernel
theorem d_Z_checkCodes_29 : decode b_Z_checkCodes 29 = .ok (.iconst 0, 1) := by decide +kernel
theorem d_Z_checkCodes_30 : decode b_Z_checkCodes 30 = .ok (.istore 4, 2) := by decide +kernel
theorem d_Z_checkCodes_32 : decode b_Z_checkCodes 32 = .ok (.iload 4, 2) := by decide +kernel
theorem d_Z_checkCodes_34 : decode b_Z_checkCodes 34 = .ok (.iload_n 2, 1) := by decide +kernel
theorem d_Z_checkCodes_35 : decode b_Z_checkCodes 35 = .ok (.if_icmp .ge 172, 3) := by decide +kernel
theorem d_Z_checkCodes_38 : decode b_Z_checkCodes 38 = .ok (.aload_n 0, 1) := by decide +kernel
theorem d_Z_checkCodes_39 : decode b_Z_checkCodes 39 = .ok (.getfield 31, 3) := by decide +kernel
theorem d_Z_checkCodes_42 : decode b_Z_checkCodes 42 = .ok (.sipush 300, 3) := by decide +kernel
theorem d_Z_checkCodes_45 : decode b_Z_checkCodes 45 = .ok (.iload_n 1, 1) := by decide +kernel
theorem d_Z_checkCodes_46 : decode b_Z_checkCodes 46 = .ok (.imul, 1) := by decide +kernel
theorem d_Z_checkCodes_47 : decode b_Z_checkCodes 47 = .ok (.iload 4, 2) := by decide +kernel
theorem d_Z_checkCodes_49 : decode b_Z_checkCodes 49 = .ok (.iadd, 1) := by decide +kernel
theorem d_Z_checkCodes_50 : decode b_Z_checkCodes 50 = .ok (.iaload, 1) := by decide +kernel
theorem d_Z_checkCodes_51 : decode b_Z_checkCodes 51 = .ok (.istore 5, 2) := by decide +kernel
theorem d_Z_checkCodes_53 : decode b_Z_checkCodes 53 = .ok (.iload 5, 2) := by decide +kernel
theorem d_Z_checkCodes_55 : decode b_Z_checkCodes 55 = .ok (.invokestatic 99, 3) := by decide +kernel
theorem d_Z_checkCodes_58 : decode b_Z_checkCodes 58 = .ok (.ifCond .eq 15, 3) := by decide +kernel
theorem d_Z_checkCodes_61 : decode b_Z_checkCodes 61 = .ok (.iload 4, 2) := by decide +kernel
theorem d_Z_checkCodes_63 : decode b_Z_checkCodes 63 = .ok (.iload 5, 2) := by decide +kernel
theorem d_Z_checkCodes_65 : decode b_Z_checkCodes 65 = .ok (.invokestatic 102, 3) := by decide +kernel
theorem d_Z_checkCodes_68 : decode b_Z_checkCodes 68 = .ok (.iadd, 1) := by decide +kernel
theorem d_Z_checkCodes_69 : decode b_Z_checkCodes 69 = .ok (.iload_n 2, 1) := by decide +kernel
theorem d_Z_checkCodes_70 : decode b_Z_checkCodes 70 = .ok (.if_icmp .le 8, 3) := by decide +kernel
theorem d_Z_checkCodes_73 : decode b_Z_checkCodes 73 = .ok (.iconst 1, 1) := by decide +kernel
theorem d_Z_checkCodes_74 : decode b_Z_checkCodes 74 = .ok (.iload 4, 2) := by decide +kernel
theorem d_Z_checkCodes_76 : decode b_Z_checkCodes 76 = .ok (.iadd, 1) := by decide +kernel
theorem d_Z_checkCodes_77 : decode b_Z_checkCodes 77 = .ok (.ireturn, 1) := by decide +kernel
theorem d_Z_checkCodes_78 : decode b_Z_checkCodes 78 = .ok (.iload 5, 2) := by decide +kernel
theorem d_Z_checkCodes_80 : decode b_Z_checkCodes 80 = .ok (.iconst 3, 1) := by decide +kernel
theorem d_Z_checkCodes_81 : decode b_Z_checkCodes 81 = .ok (.if_icmp .ge 27, 3) := by decide +kernel
theorem d_Z_checkCodes_84 : decode b_Z_checkCodes 84 = .ok (.aload_n 0, 1) := by decide +kernel
theorem d_Z_checkCodes_85 : decode b_Z_checkCodes 85 = .ok (.getfield 31, 3) := by decide +kernel
theorem d_Z_checkCodes_88 : decode b_Z_checkCodes 88 = .ok (.sipush 300, 3) := by decide +kernel
theorem d_Z_checkCodes_91 : decode b_Z_checkCodes 91 = .ok (.iload_n 1, 1) := by decide +kernel
theorem d_Z_checkCodes_92 : decode b_Z_checkCodes 92 = .ok (.imul, 1) := by decide +kernel
theorem d_Z_checkCodes_93 : decode b_Z_checkCodes 93 = .ok (.iload 4, 2) := by decide +kernel
theorem d_Z_checkCodes_95 : decode b_Z_checkCodes 95 = .ok (.iadd, 1) := by decide +kernel
theorem d_Z_checkCodes_96 : decode b_Z_checkCodes 96 = .ok (.iconst 1, 1) := by decide +kernel
theorem d_Z_checkCodes_97 : decode b_Z_checkCodes 97 = .ok (.iadd, 1) := by decide +kernel
theorem d_Z_checkCodes_98 : decode b_Z_checkCodes 98 = .ok (.iaload, 1) := by decide +kernel
theorem d_Z_checkCodes_99 : decode b_Z_checkCodes 99 = .ok (.iconst 3, 1) := by decide +kernel
theorem d_Z_checkCodes_100 : decode b_Z_checkCodes 100 = .ok (.if_icmp .le 8, 3) := by decide +kernel
theorem d_Z_checkCodes_103 : decode b_Z_checkCodes 103 = .ok (.iconst 1, 1) := by decide +kernel
theorem d_Z_checkCodes_104 : decode b_Z_checkCodes 104 = .ok (.iload 4, 2) := by decide +kernel
theorem d_Z_checkCodes_106 : decode b_Z_checkCodes 106 = .ok (.iadd, 1) := by decide +kernel
theorem d_Z_checkCodes_107 : decode b_Z_checkCodes 107 = .ok (.ireturn, 1) := by decide +kernel
theorem d_Z_checkCodes_108 : decode b_Z_checkCodes 108 = .ok (.iload_n 3, 1) := by decide +kernel
theorem d_Z_checkCodes_109 : decode b_Z_checkCodes 109 = .ok (.iload 5, 2) := by decide +kernel
theorem d_Z_checkCodes_111 : decode b_Z_checkCodes 111 = .ok (.invokestatic 105, 3) := by decide +kernel
theorem d_Z_checkCodes_114 : decode b_Z_checkCodes 114 = .ok (.isub, 1) := by decide +kernel
theorem d_Z_checkCodes_115 : decode b_Z_checkCodes 115 = .ok (.iload 5, 2) := by decide +kernel
theorem d_Z_checkCodes_117 : decode b_Z_checkCodes 117 = .ok (.invokestatic 108, 3) := by decide +kernel
theorem d_Z_checkCodes_120 : decode b_Z_checkCodes 120 = .ok (.iadd, 1) := by decide +kernel
theorem d_Z_checkCodes_121 : decode b_Z_checkCodes 121 = .ok (.istore 6, 2) := by decide +kernel
theorem d_Z_checkCodes_123 : decode b_Z_checkCodes 123 = .ok (.iload_n 3, 1) := by decide +kernel
theorem d_Z_checkCodes_124 : decode b_Z_checkCodes 124 = .ok (.iload 5, 2) := by decide +kernel
theorem d_Z_checkCodes_126 : decode b_Z_checkCodes 126 = .ok (.invokestatic 105, 3) := by decide +kernel
theorem d_Z_checkCodes_129 : decode b_Z_checkCodes 129 = .ok (.if_icmp .lt 20, 3) := by decide +kernel
theorem d_Z_checkCodes_132 : decode b_Z_checkCodes 132 = .ok (.iload 6, 2) := by decide +kernel
theorem d_Z_checkCodes_134 : decode b_Z_checkCodes 134 = .ok (.iconst 4, 1) := by decide +kernel
theorem d_Z_checkCodes_135 : decode b_Z_checkCodes 135 = .ok (.if_icmp .gt 14, 3) := by decide +kernel
theorem d_Z_checkCodes_138 : decode b_Z_checkCodes 138 = .ok (.iload 5, 2) := by decide +kernel
theorem d_Z_checkCodes_140 : decode b_Z_checkCodes 140 = .ok (.bipush 10, 2) := by decide +kernel
theorem d_Z_checkCodes_142 : decode b_Z_checkCodes 142 = .ok (.if_icmp .ne 12, 3) := by decide +kernel
theorem d_Z_checkCodes_145 : decode b_Z_checkCodes 145 = .ok (.iload_n 3, 1) := by decide +kernel
theorem d_Z_checkCodes_146 : decode b_Z_checkCodes 146 = .ok (.ifCond .eq 8, 3) := by decide +kernel
theorem d_Z_checkCodes_149 : decode b_Z_checkCodes 149 = .ok (.iconst 1, 1) := by decide +kernel
theorem d_Z_checkCodes_150 : decode b_Z_checkCodes 150 = .ok (.iload 4, 2) := by decide +kernel
theorem d_Z_checkCodes_152 : decode b_Z_checkCodes 152 = .ok (.iadd, 1) := by decide +kernel
theorem d_Z_checkCodes_153 : decode b_Z_checkCodes 153 = .ok (.ireturn, 1) := by decide +kernel
theorem d_Z_checkCodes_154 : decode b_Z_checkCodes 154 = .ok (.iload 5, 2) := by decide +kernel
theorem d_Z_checkCodes_156 : decode b_Z_checkCodes 156 = .ok (.bipush 10, 2) := by decide +kernel
theorem d_Z_checkCodes_158 : decode b_Z_checkCodes 158 = .ok (.if_icmp .ne 16, 3) := by decide +kernel
theorem d_Z_checkCodes_161 : decode b_Z_checkCodes 161 = .ok (.iload 4, 2) := by decide +kernel
theorem d_Z_checkCodes_163 : decode b_Z_checkCodes 163 = .ok (.iconst 1, 1) := by decide +kernel
theorem d_Z_checkCodes_164 : decode b_Z_checkCodes 164 = .ok (.iadd, 1) := by decide +kernel
theorem d_Z_checkCodes_165 : decode b_Z_checkCodes 165 = .ok (.iload_n 2, 1) := by decide +kernel
theorem d_Z_checkCodes_166 : decode b_Z_checkCodes 166 = .ok (.if_icmp .ge 8, 3) := by decide +kernel
theorem d_Z_checkCodes_169 : decode b_Z_checkCodes 169 = .ok (.iconst 2, 1) := by decide +kernel
theorem d_Z_checkCodes_170 : decode b_Z_checkCodes 170 = .ok (.iload 4, 2) := by decide +kernel
theorem d_Z_checkCodes_172 : decode b_Z_checkCodes 172 = .ok (.iadd, 1) := by decide +kernel
theorem d_Z_checkCodes_173 : decode b_Z_checkCodes 173 = .ok (.ireturn, 1) := by decide +kernel
theorem d_Z_checkCodes_174 : decode b_Z_checkCodes 174 = .ok (.aload_n 0, 1) := by decide +kernel
theorem d_Z_checkCodes_175 : decode b_Z_checkCodes 175 = .ok (.getfield 37, 3) := by decide +kernel
theorem d_Z_checkCodes_178 : decode b_Z_checkCodes 178 = .ok (.iload 4, 2) := by decide +kernel
theorem d_Z_checkCodes_180 : decode b_Z_checkCodes 180 = .ok (.iload_n 3, 1) := by decide +kernel
theorem d_Z_checkCodes_181 : decode b_Z_checkCodes 181 = .ok (.iastore, 1) := by decide +kernel
theorem d_Z_checkCodes_182 : decode b_Z_checkCodes 182 = .ok (.iload 5, 2) := by decide +kernel
theorem d_Z_checkCodes_184 : decode b_Z_checkCodes 184 = .ok (.bipush 10, 2) := by decide +kernel
theorem d_Z_checkCodes_186 : decode b_Z_checkCodes 186 = .ok (.if_icmp .ne 5, 3) := by decide +kernel
theorem d_Z_checkCodes_189 : decode b_Z_checkCodes 189 = .ok (.iconst 0, 1) := by decide +kernel
theorem d_Z_checkCodes_190 : decode b_Z_checkCodes 190 = .ok (.ireturn, 1) := by decide +kernel
theorem d_Z_checkCodes_191 : decode b_Z_checkCodes 191 = .ok (.iload 6, 2) := by decide +kernel
theorem d_Z_checkCodes_193 : decode b_Z_checkCodes 193 = .ok (.istore_n 3, 1) := by decide +kernel
theorem d_Z_checkCodes_194 : decode b_Z_checkCodes 194 = .ok (.iload 4, 2) := by decide +kernel
theorem d_Z_checkCodes_196 : decode b_Z_checkCodes 196 = .ok (.iload 5, 2) := by decide +kernel
theorem d_Z_checkCodes_198 : decode b_Z_checkCodes 198 = .ok (.invokestatic 102, 3) := by decide +kernel
theorem d_Z_checkCodes_201 : decode b_Z_checkCodes 201 = .ok (.iadd, 1) := by decide +kernel
theorem d_Z_checkCodes_202 : decode b_Z_checkCodes 202 = .ok (.istore 4, 2) := by decide +kernel
theorem d_Z_checkCodes_204 : decode b_Z_checkCodes 204 = .ok (.goto (-172), 3) := by decide +kernel
theorem d_Z_checkCodes_207 : decode b_Z_checkCodes 207 = .ok (.iconst 1, 1) := by decide +kernel
theorem d_Z_checkCodes_208 : decode b_Z_checkCodes 208 = .ok (.iload_n 2, 1) := by decide +kernel
theorem d_Z_checkCodes_209 : decode b_Z_checkCodes 209 = .ok (.iadd, 1) := by decide +kernel
theorem d_Z_checkCodes_210 : decode b_Z_checkCodes 210 = .ok (.ireturn, 1) := by decide +kernel
theorem d_Z_isCode_0 : decode b_Z_isCode 0 = .ok (.iload_n 0, 1) := by decide +kernel
theorem d_Z_isCode_1 : decode b_Z_isCode 1 = .ok (.iconst 1, 1) := by decide +kernel
theorem d_Z_isCode_2 : decode b_Z_isCode 2 = .ok (.bipush 10, 2) := by decide +kernel
theorem d_Z_isCode_4 : decode b_Z_isCode 4 = .ok (.invokestatic 63, 3) := by decide +kernel
theorem d_Z_isCode_7 : decode b_Z_isCode 7 = .ok (.ifCond .ne 9, 3) := by decide +kernel
theorem d_Z_isCode_10 : decode b_Z_isCode 10 = .ok (.iload_n 0, 1) := by decide +kernel
theorem d_Z_isCode_11 : decode b_Z_isCode 11 = .ok (.bipush 16, 2) := by decide +kernel
theorem d_Z_isCode_13 : decode b_Z_isCode 13 = .ok (.if_icmp .ne 7, 3) := by decide +kernel
theorem d_Z_isCode_16 : decode b_Z_isCode 16 = .ok (.iconst 1, 1) := by decide +kernel
theorem d_Z_isCode_17 : decode b_Z_isCode 17 = .ok (.goto 4, 3) := by decide +kernel
theorem d_Z_isCode_20 : decode b_Z_isCode 20 = .ok (.iconst 0, 1) := by decide +kernel
theorem d_Z_isCode_21 : decode b_Z_isCode 21 = .ok (.ireturn, 1) := by decide +kernel
theorem d_Z_lengthOf_0 : decode b_Z_lengthOf 0 = .ok (.iload_n 0, 1) := by decide +kernel
theorem d_Z_lengthOf_1 : decode b_Z_lengthOf 1 = .ok (.iconst 3, 1) := by decide +kernel
theorem d_Z_lengthOf_2 : decode b_Z_lengthOf 2 = .ok (.if_icmp .ne 7, 3) := by decide +kernel
theorem d_Z_lengthOf_5 : decode b_Z_lengthOf 5 = .ok (.iconst 5, 1) := by decide +kernel
theorem d_Z_lengthOf_6 : decode b_Z_lengthOf 6 = .ok (.goto 29, 3) := by decide +kernel
theorem d_Z_lengthOf_9 : decode b_Z_lengthOf 9 = .ok (.iload_n 0, 1) := by decide +kernel
theorem d_Z_lengthOf_10 : decode b_Z_lengthOf 10 = .ok (.bipush 9, 2) := by decide +kernel
theorem d_Z_lengthOf_12 : decode b_Z_lengthOf 12 = .ok (.if_icmp .ne 7, 3) := by decide +kernel
theorem d_Z_lengthOf_15 : decode b_Z_lengthOf 15 = .ok (.iconst 3, 1) := by decide +kernel
theorem d_Z_lengthOf_16 : decode b_Z_lengthOf 16 = .ok (.goto 19, 3) := by decide +kernel
theorem d_Z_lengthOf_19 : decode b_Z_lengthOf 19 = .ok (.iload_n 0, 1) := by decide +kernel
theorem d_Z_lengthOf_20 : decode b_Z_lengthOf 20 = .ok (.iconst 3, 1) := by decide +kernel
theorem d_Z_lengthOf_21 : decode b_Z_lengthOf 21 = .ok (.if_icmp .lt 9, 3) := by decide +kernel
theorem d_Z_lengthOf_24 : decode b_Z_lengthOf 24 = .ok (.iload_n 0, 1) := by decide +kernel
theorem d_Z_lengthOf_25 : decode b_Z_lengthOf 25 = .ok (.bipush 16, 2) := by decide +kernel
theorem d_Z_lengthOf_27 : decode b_Z_lengthOf 27 = .ok (.if_icmp .ne 7, 3) := by decide +kernel
theorem d_Z_lengthOf_30 : decode b_Z_lengthOf 30 = .ok (.iconst 2, 1) := by decide +kernel
theorem d_Z_lengthOf_31 : decode b_Z_lengthOf 31 = .ok (.goto 4, 3) := by decide +kernel
theorem d_Z_lengthOf_34 : decode b_Z_lengthOf 34 = .ok (.iconst 1, 1) := by decide +kernel
theorem d_Z_lengthOf_35 : decode b_Z_lengthOf 35 = .ok (.ireturn, 1) := by decide +kernel
theorem d_Z_takes_0 : decode b_Z_takes 0 = .ok (.iload_n 0, 1) := by decide +kernel
theorem d_Z_takes_1 : decode b_Z_takes 1 = .ok (.iconst 2, 1) := by decide +kernel
theorem d_Z_takes_2 : decode b_Z_takes 2 = .ok (.if_icmp .eq 9, 3) := by decide +kernel
theorem d_Z_takes_5 : decode b_Z_takes 5 = .ok (.iload_n 0, 1) := by decide +kernel
theorem d_Z_takes_6 : decode b_Z_takes 6 = .ok (.bipush 9, 2) := by decide +kernel
theorem d_Z_takes_8 : decode b_Z_takes 8 = .ok (.if_icmp .ne 7, 3) := by decide +kernel
theorem d_Z_takes_11 : decode b_Z_takes 11 = .ok (.iconst 1, 1) := by decide +kernel
theorem d_Z_takes_12 : decode b_Z_takes 12 = .ok (.goto 18, 3) := by decide +kernel
theorem d_Z_takes_15 : decode b_Z_takes 15 = .ok (.iload_n 0, 1) := by decide +kernel
theorem d_Z_takes_16 : decode b_Z_takes 16 = .ok (.iconst 4, 1) := by decide +kernel
theorem d_Z_takes_17 : decode b_Z_takes 17 = .ok (.bipush 8, 2) := by decide +kernel
theorem d_Z_takes_19 : decode b_Z_takes 19 = .ok (.invokestatic 63, 3) := by decide +kernel
theorem d_Z_takes_22 : decode b_Z_takes 22 = .ok (.ifCond .eq 7, 3) := by decide +kernel
theorem d_Z_takes_25 : decode b_Z_takes 25 = .ok (.iconst 2, 1) := by decide +kernel
theorem d_Z_takes_26 : decode b_Z_takes 26 = .ok (.goto 4, 3) := by decide +kernel
theorem d_Z_takes_29 : decode b_Z_takes 29 = .ok (.iconst 0, 1) := by decide +kernel
theorem d_Z_takes_30 : decode b_Z_takes 30 = .ok (.ireturn, 1) := by decide +kernel
theorem d_Z_puts_0 : decode b_Z_puts 0 = .ok (.iload_n 0, 1) := by decide +kernel
theorem d_Z_puts_1 : decode b_Z_puts 1 = .ok (.iconst 2, 1) := by decide +kernel
theorem d_Z_puts_2 : decode b_Z_puts 2 = .ok (.if_icmp .eq 15, 3) := by decide +kernel
theorem d_Z_puts_5 : decode b_Z_puts 5 = .ok (.iload_n 0, 1) := by decide +kernel
theorem d_Z_puts_6 : decode b_Z_puts 6 = .ok (.bipush 9, 2) := by decide +kernel
theorem d_Z_puts_8 : decode b_Z_puts 8 = .ok (.if_icmp .eq 9, 3) := by decide +kernel
theorem d_Z_puts_11 : decode b_Z_puts 11 = .ok (.iload_n 0, 1) := by decide +kernel
theorem d_Z_puts_12 : decode b_Z_puts 12 = .ok (.bipush 10, 2) := by decide +kernel
theorem d_Z_puts_14 : decode b_Z_puts 14 = .ok (.if_icmp .ne 7, 3) := by decide +kernel
theorem d_Z_puts_17 : decode b_Z_puts 17 = .ok (.iconst 0, 1) := by decide +kernel
theorem d_Z_puts_18 : decode b_Z_puts 18 = .ok (.goto 4, 3) := by decide +kernel
theorem d_Z_puts_21 : decode b_Z_puts 21 = .ok (.iconst 1, 1) := by decide +kernel
theorem d_Z_puts_22 : decode b_Z_puts 22 = .ok (.ireturn, 1) := by decide +kernel
theorem d_Z_border_0 : decode b_Z_border 0 = .ok (.aload_n 0, 1) := by decide +kernel
theorem d_Z_border_1 : decode b_Z_border 1 = .ok (.iconst 0, 1) := by decide +kernel
theorem d_Z_border_2 : decode b_Z_border 2 = .ok (.putfield 57, 3) := by decide +kernel
theorem d_Z_border_5 : decode b_Z_border 5 = .ok (.iconst 0, 1) := by decide +kernel
theorem d_Z_border_6 : decode b_Z_border 6 = .ok (.istore_n 1, 1) := by decide +kernel
theorem d_Z_border_7 : decode b_Z_border 7 = .ok (.iconst 0, 1) := by decide +kernel
theorem d_Z_border_8 : decode b_Z_border 8 = .ok (.istore_n 2, 1) := by decide +kernel
theorem d_Z_border_9 : decode b_Z_border 9 = .ok (.iload_n 2, 1) := by decide +kernel
theorem d_Z_border_10 : decode b_Z_border 10 = .ok (.aload_n 0, 1) := by decide +kernel
theorem d_Z_border_11 : decode b_Z_border 11 = .ok (.getfield 60, 3) := by decide +kernel
theorem d_Z_border_14 : decode b_Z_border 14 = .ok (.if_icmp .ge 78, 3) := by decide +kernel
theorem d_Z_border_17 : decode b_Z_border 17 = .ok (.aload_n 0, 1) := by decide +kernel
theorem d_Z_border_18 : decode b_Z_border 18 = .ok (.getfield 22, 3) := by decide +kernel
theorem d_Z_border_21 : decode b_Z_border 21 = .ok (.iload_n 2, 1) := by decide +kernel
theorem d_Z_border_22 : decode b_Z_border 22 = .ok (.iaload, 1) := by decide +kernel
theorem d_Z_border_23 : decode b_Z_border 23 = .ok (.iconst 1, 1) := by decide +kernel
theorem d_Z_border_24 : decode b_Z_border 24 = .ok (.if_icmp .ne 62, 3) := by decide +kernel
theorem d_Z_border_27 : decode b_Z_border 27 = .ok (.aload_n 0, 1) := by decide +kernel
end
section
theorem d_Z_border_28 : decode b_Z_border 28 = .ok (.iload_n 2, 1) := by decide +kernel
theorem d_Z_border_29 : decode b_Z_border 29 = .ok (.invokevirtual 114, 3) := by decide +kernel
theorem d_Z_border_32 : decode b_Z_border 32 = .ok (.ifCond .ne 7, 3) := by decide +kernel
theorem d_Z_border_35 : decode b_Z_border 35 = .ok (.iconst 1, 1) := by decide +kernel
theorem d_Z_border_36 : decode b_Z_border 36 = .ok (.goto 4, 3) := by decide +kernel
theorem d_Z_border_39 : decode b_Z_border 39 = .ok (.iconst 0, 1) := by decide +kernel
theorem d_Z_border_40 : decode b_Z_border 40 = .ok (.istore_n 3, 1) := by decide +kernel
theorem d_Z_border_41 : decode b_Z_border 41 = .ok (.aload_n 0, 1) := by decide +kernel
theorem d_Z_border_42 : decode b_Z_border 42 = .ok (.getfield 22, 3) := by decide +kernel
theorem d_Z_border_45 : decode b_Z_border 45 = .ok (.iload_n 2, 1) := by decide +kernel
theorem d_Z_border_46 : decode b_Z_border 46 = .ok (.iload_n 3, 1) := by decide +kernel
theorem d_Z_border_47 : decode b_Z_border 47 = .ok (.ifCond .eq 7, 3) := by decide +kernel
theorem d_Z_border_50 : decode b_Z_border 50 = .ok (.iconst 2, 1) := by decide +kernel
theorem d_Z_border_51 : decode b_Z_border 51 = .ok (.goto 4, 3) := by decide +kernel
theorem d_Z_border_54 : decode b_Z_border 54 = .ok (.iconst 0, 1) := by decide +kernel
theorem d_Z_border_55 : decode b_Z_border 55 = .ok (.iastore, 1) := by decide +kernel
theorem d_Z_border_56 : decode b_Z_border 56 = .ok (.iload_n 1, 1) := by decide +kernel
theorem d_Z_border_57 : decode b_Z_border 57 = .ok (.iload_n 3, 1) := by decide +kernel
theorem d_Z_border_58 : decode b_Z_border 58 = .ok (.ifCond .eq 7, 3) := by decide +kernel
theorem d_Z_border_61 : decode b_Z_border 61 = .ok (.iconst 1, 1) := by decide +kernel
theorem d_Z_border_62 : decode b_Z_border 62 = .ok (.goto 4, 3) := by decide +kernel
theorem d_Z_border_65 : decode b_Z_border 65 = .ok (.iconst 0, 1) := by decide +kernel
theorem d_Z_border_66 : decode b_Z_border 66 = .ok (.iadd, 1) := by decide +kernel
theorem d_Z_border_67 : decode b_Z_border 67 = .ok (.istore_n 1, 1) := by decide +kernel
theorem d_Z_border_68 : decode b_Z_border 68 = .ok (.aload_n 0, 1) := by decide +kernel
theorem d_Z_border_69 : decode b_Z_border 69 = .ok (.dup, 1) := by decide +kernel
theorem d_Z_border_70 : decode b_Z_border 70 = .ok (.getfield 117, 3) := by decide +kernel
theorem d_Z_border_73 : decode b_Z_border 73 = .ok (.iload_n 3, 1) := by decide +kernel
theorem d_Z_border_74 : decode b_Z_border 74 = .ok (.ifCond .eq 7, 3) := by decide +kernel
theorem d_Z_border_77 : decode b_Z_border 77 = .ok (.iconst 0, 1) := by decide +kernel
theorem d_Z_border_78 : decode b_Z_border 78 = .ok (.goto 4, 3) := by decide +kernel
theorem d_Z_border_81 : decode b_Z_border 81 = .ok (.iconst 1, 1) := by decide +kernel
theorem d_Z_border_82 : decode b_Z_border 82 = .ok (.iadd, 1) := by decide +kernel
theorem d_Z_border_83 : decode b_Z_border 83 = .ok (.putfield 117, 3) := by decide +kernel
theorem d_Z_border_86 : decode b_Z_border 86 = .ok (.iinc 2 1, 3) := by decide +kernel
theorem d_Z_border_89 : decode b_Z_border 89 = .ok (.goto (-80), 3) := by decide +kernel
theorem d_Z_border_92 : decode b_Z_border 92 = .ok (.iload_n 1, 1) := by decide +kernel
theorem d_Z_border_93 : decode b_Z_border 93 = .ok (.ireturn, 1) := by decide +kernel
theorem d_Z_what_0 : decode b_Z_what 0 = .ok (.aload_n 0, 1) := by decide +kernel
theorem d_Z_what_1 : decode b_Z_what 1 = .ok (.iload_n 1, 1) := by decide +kernel
theorem d_Z_what_2 : decode b_Z_what 2 = .ok (.invokevirtual 71, 3) := by decide +kernel
theorem d_Z_what_5 : decode b_Z_what 5 = .ok (.ifCond .ne 5, 3) := by decide +kernel
theorem d_Z_what_8 : decode b_Z_what 8 = .ok (.iconst 0, 1) := by decide +kernel
theorem d_Z_what_9 : decode b_Z_what 9 = .ok (.ireturn, 1) := by decide +kernel
theorem d_Z_what_10 : decode b_Z_what 10 = .ok (.iload_n 2, 1) := by decide +kernel
theorem d_Z_what_11 : decode b_Z_what 11 = .ok (.tableswitch 83 0 3 #[29, 36, 56, 63], 29) := by decide +kernel
theorem d_Z_what_40 : decode b_Z_what 40 = .ok (.aload_n 0, 1) := by decide +kernel
theorem d_Z_what_41 : decode b_Z_what 41 = .ok (.getfield 22, 3) := by decide +kernel
theorem d_Z_what_44 : decode b_Z_what 44 = .ok (.iload_n 1, 1) := by decide +kernel
theorem d_Z_what_45 : decode b_Z_what 45 = .ok (.iaload, 1) := by decide +kernel
theorem d_Z_what_46 : decode b_Z_what 46 = .ok (.ireturn, 1) := by decide +kernel
theorem d_Z_what_47 : decode b_Z_what 47 = .ok (.aload_n 0, 1) := by decide +kernel
theorem d_Z_what_48 : decode b_Z_what 48 = .ok (.getfield 22, 3) := by decide +kernel
theorem d_Z_what_51 : decode b_Z_what 51 = .ok (.iload_n 1, 1) := by decide +kernel
theorem d_Z_what_52 : decode b_Z_what 52 = .ok (.iaload, 1) := by decide +kernel
theorem d_Z_what_53 : decode b_Z_what 53 = .ok (.ifCond .ne 7, 3) := by decide +kernel
theorem d_Z_what_56 : decode b_Z_what 56 = .ok (.iconst (-1), 1) := by decide +kernel
theorem d_Z_what_57 : decode b_Z_what 57 = .ok (.goto 9, 3) := by decide +kernel
theorem d_Z_what_60 : decode b_Z_what 60 = .ok (.aload_n 0, 1) := by decide +kernel
theorem d_Z_what_61 : decode b_Z_what 61 = .ok (.getfield 25, 3) := by decide +kernel
theorem d_Z_what_64 : decode b_Z_what 64 = .ok (.iload_n 1, 1) := by decide +kernel
theorem d_Z_what_65 : decode b_Z_what 65 = .ok (.iaload, 1) := by decide +kernel
theorem d_Z_what_66 : decode b_Z_what 66 = .ok (.ireturn, 1) := by decide +kernel
theorem d_Z_what_67 : decode b_Z_what 67 = .ok (.aload_n 0, 1) := by decide +kernel
theorem d_Z_what_68 : decode b_Z_what 68 = .ok (.getfield 7, 3) := by decide +kernel
theorem d_Z_what_71 : decode b_Z_what 71 = .ok (.iload_n 1, 1) := by decide +kernel
theorem d_Z_what_72 : decode b_Z_what 72 = .ok (.iaload, 1) := by decide +kernel
theorem d_Z_what_73 : decode b_Z_what 73 = .ok (.ireturn, 1) := by decide +kernel
theorem d_Z_what_74 : decode b_Z_what 74 = .ok (.aload_n 0, 1) := by decide +kernel
theorem d_Z_what_75 : decode b_Z_what 75 = .ok (.getfield 22, 3) := by decide +kernel
theorem d_Z_what_78 : decode b_Z_what 78 = .ok (.iload_n 1, 1) := by decide +kernel
theorem d_Z_what_79 : decode b_Z_what 79 = .ok (.iaload, 1) := by decide +kernel
theorem d_Z_what_80 : decode b_Z_what 80 = .ok (.ifCond .ne 7, 3) := by decide +kernel
theorem d_Z_what_83 : decode b_Z_what 83 = .ok (.iconst 0, 1) := by decide +kernel
theorem d_Z_what_84 : decode b_Z_what 84 = .ok (.goto 9, 3) := by decide +kernel
theorem d_Z_what_87 : decode b_Z_what 87 = .ok (.aload_n 0, 1) := by decide +kernel
theorem d_Z_what_88 : decode b_Z_what 88 = .ok (.getfield 28, 3) := by decide +kernel
theorem d_Z_what_91 : decode b_Z_what 91 = .ok (.iload_n 1, 1) := by decide +kernel
theorem d_Z_what_92 : decode b_Z_what 92 = .ok (.iaload, 1) := by decide +kernel
theorem d_Z_what_93 : decode b_Z_what 93 = .ok (.ireturn, 1) := by decide +kernel
theorem d_Z_what_94 : decode b_Z_what 94 = .ok (.aload_n 0, 1) := by decide +kernel
theorem d_Z_what_95 : decode b_Z_what 95 = .ok (.iconst 2, 1) := by decide +kernel
theorem d_Z_what_96 : decode b_Z_what 96 = .ok (.invokevirtual 67, 3) := by decide +kernel
theorem d_Z_what_99 : decode b_Z_what 99 = .ok (.ireturn, 1) := by decide +kernel
theorem d_Z_next_0 : decode b_Z_next 0 = .ok (.aload_n 0, 1) := by decide +kernel
theorem d_Z_next_1 : decode b_Z_next 1 = .ok (.iconst 0, 1) := by decide +kernel
theorem d_Z_next_2 : decode b_Z_next 2 = .ok (.putfield 57, 3) := by decide +kernel
theorem d_Z_next_5 : decode b_Z_next 5 = .ok (.aload_n 0, 1) := by decide +kernel
theorem d_Z_next_6 : decode b_Z_next 6 = .ok (.dup, 1) := by decide +kernel
theorem d_Z_next_7 : decode b_Z_next 7 = .ok (.getfield 96, 3) := by decide +kernel
theorem d_Z_next_10 : decode b_Z_next 10 = .ok (.iconst 1, 1) := by decide +kernel
theorem d_Z_next_11 : decode b_Z_next 11 = .ok (.iadd, 1) := by decide +kernel
theorem d_Z_next_12 : decode b_Z_next 12 = .ok (.putfield 96, 3) := by decide +kernel
theorem d_Z_next_15 : decode b_Z_next 15 = .ok (.iconst 0, 1) := by decide +kernel
theorem d_Z_next_16 : decode b_Z_next 16 = .ok (.istore_n 1, 1) := by decide +kernel
theorem d_Z_next_17 : decode b_Z_next 17 = .ok (.iconst 0, 1) := by decide +kernel
theorem d_Z_next_18 : decode b_Z_next 18 = .ok (.istore_n 2, 1) := by decide +kernel
theorem d_Z_next_19 : decode b_Z_next 19 = .ok (.iload_n 2, 1) := by decide +kernel
theorem d_Z_next_20 : decode b_Z_next 20 = .ok (.aload_n 0, 1) := by decide +kernel
theorem d_Z_next_21 : decode b_Z_next 21 = .ok (.getfield 60, 3) := by decide +kernel
theorem d_Z_next_24 : decode b_Z_next 24 = .ok (.if_icmp .ge 41, 3) := by decide +kernel
theorem d_Z_next_27 : decode b_Z_next 27 = .ok (.aload_n 0, 1) := by decide +kernel
theorem d_Z_next_28 : decode b_Z_next 28 = .ok (.getfield 22, 3) := by decide +kernel
theorem d_Z_next_31 : decode b_Z_next 31 = .ok (.iload_n 2, 1) := by decide +kernel
theorem d_Z_next_32 : decode b_Z_next 32 = .ok (.iaload, 1) := by decide +kernel
theorem d_Z_next_33 : decode b_Z_next 33 = .ok (.ifCond .le 26, 3) := by decide +kernel
theorem d_Z_next_36 : decode b_Z_next 36 = .ok (.aload_n 0, 1) := by decide +kernel
theorem d_Z_next_37 : decode b_Z_next 37 = .ok (.getfield 25, 3) := by decide +kernel
theorem d_Z_next_40 : decode b_Z_next 40 = .ok (.iload_n 2, 1) := by decide +kernel
theorem d_Z_next_41 : decode b_Z_next 41 = .ok (.iaload, 1) := by decide +kernel
theorem d_Z_next_42 : decode b_Z_next 42 = .ok (.aload_n 0, 1) := by decide +kernel
theorem d_Z_next_43 : decode b_Z_next 43 = .ok (.invokevirtual 120, 3) := by decide +kernel
theorem d_Z_next_46 : decode b_Z_next 46 = .ok (.if_icmp .ge 13, 3) := by decide +kernel
theorem d_Z_next_49 : decode b_Z_next 49 = .ok (.aload_n 0, 1) := by decide +kernel
theorem d_Z_next_50 : decode b_Z_next 50 = .ok (.getfield 22, 3) := by decide +kernel
theorem d_Z_next_53 : decode b_Z_next 53 = .ok (.iload_n 2, 1) := by decide +kernel
theorem d_Z_next_54 : decode b_Z_next 54 = .ok (.iconst 0, 1) := by decide +kernel
theorem d_Z_next_55 : decode b_Z_next 55 = .ok (.iastore, 1) := by decide +kernel
theorem d_Z_next_56 : decode b_Z_next 56 = .ok (.iinc 1 1, 3) := by decide +kernel
theorem d_Z_next_59 : decode b_Z_next 59 = .ok (.iinc 2 1, 3) := by decide +kernel
theorem d_Z_next_62 : decode b_Z_next 62 = .ok (.goto (-43), 3) := by decide +kernel
theorem d_Z_next_65 : decode b_Z_next 65 = .ok (.iload_n 1, 1) := by decide +kernel
theorem d_Z_next_66 : decode b_Z_next 66 = .ok (.ireturn, 1) := by decide +kernel
theorem d_Z_oldest_0 : decode b_Z_oldest 0 = .ok (.aload_n 0, 1) := by decide +kernel
theorem d_Z_oldest_1 : decode b_Z_oldest 1 = .ok (.getfield 96, 3) := by decide +kernel
theorem d_Z_oldest_4 : decode b_Z_oldest 4 = .ok (.aload_n 0, 1) := by decide +kernel
theorem d_Z_oldest_5 : decode b_Z_oldest 5 = .ok (.getfield 53, 3) := by decide +kernel
theorem d_Z_oldest_8 : decode b_Z_oldest 8 = .ok (.isub, 1) := by decide +kernel
theorem d_Z_oldest_9 : decode b_Z_oldest 9 = .ok (.iconst 1, 1) := by decide +kernel
theorem d_Z_oldest_10 : decode b_Z_oldest 10 = .ok (.iadd, 1) := by decide +kernel
theorem d_Z_oldest_11 : decode b_Z_oldest 11 = .ok (.ifCond .le 17, 3) := by decide +kernel
theorem d_Z_oldest_14 : decode b_Z_oldest 14 = .ok (.aload_n 0, 1) := by decide +kernel
theorem d_Z_oldest_15 : decode b_Z_oldest 15 = .ok (.getfield 96, 3) := by decide +kernel
theorem d_Z_oldest_18 : decode b_Z_oldest 18 = .ok (.aload_n 0, 1) := by decide +kernel
theorem d_Z_oldest_19 : decode b_Z_oldest 19 = .ok (.getfield 53, 3) := by decide +kernel
theorem d_Z_oldest_22 : decode b_Z_oldest 22 = .ok (.isub, 1) := by decide +kernel
theorem d_Z_oldest_23 : decode b_Z_oldest 23 = .ok (.iconst 1, 1) := by decide +kernel
theorem d_Z_oldest_24 : decode b_Z_oldest 24 = .ok (.iadd, 1) := by decide +kernel
theorem d_Z_oldest_25 : decode b_Z_oldest 25 = .ok (.goto 4, 3) := by decide +kernel
theorem d_Z_oldest_28 : decode b_Z_oldest 28 = .ok (.iconst 0, 1) := by decide +kernel
theorem d_Z_oldest_29 : decode b_Z_oldest 29 = .ok (.ireturn, 1) := by decide +kernel
theorem d_Z_run_0 : decode b_Z_run 0 = .ok (.aload_n 0, 1) := by decide +kernel
theorem d_Z_run_1 : decode b_Z_run 1 = .ok (.iload_n 1, 1) := by decide +kernel
theorem d_Z_run_2 : decode b_Z_run 2 = .ok (.invokevirtual 71, 3) := by decide +kernel
theorem d_Z_run_5 : decode b_Z_run 5 = .ok (.ifCond .ne 5, 3) := by decide +kernel
theorem d_Z_run_8 : decode b_Z_run 8 = .ok (.iconst 0, 1) := by decide +kernel
theorem d_Z_run_9 : decode b_Z_run 9 = .ok (.ireturn, 1) := by decide +kernel
theorem d_Z_run_10 : decode b_Z_run 10 = .ok (.aload_n 0, 1) := by decide +kernel
theorem d_Z_run_11 : decode b_Z_run 11 = .ok (.lload_n 2, 1) := by decide +kernel
theorem d_Z_run_12 : decode b_Z_run 12 = .ok (.lload 4, 2) := by decide +kernel
theorem d_Z_run_14 : decode b_Z_run 14 = .ok (.invokevirtual 137, 3) := by decide +kernel
theorem d_Z_run_17 : decode b_Z_run 17 = .ok (.aload_n 0, 1) := by decide +kernel
theorem d_Z_run_18 : decode b_Z_run 18 = .ok (.aload_n 0, 1) := by decide +kernel
theorem d_Z_run_19 : decode b_Z_run 19 = .ok (.getfield 22, 3) := by decide +kernel
theorem d_Z_run_22 : decode b_Z_run 22 = .ok (.iload_n 1, 1) := by decide +kernel
theorem d_Z_run_23 : decode b_Z_run 23 = .ok (.iaload, 1) := by decide +kernel
theorem d_Z_run_24 : decode b_Z_run 24 = .ok (.iconst 2, 1) := by decide +kernel
theorem d_Z_run_25 : decode b_Z_run 25 = .ok (.if_icmp .ne 7, 3) := by decide +kernel
theorem d_Z_run_28 : decode b_Z_run 28 = .ok (.iconst 1, 1) := by decide +kernel
theorem d_Z_run_29 : decode b_Z_run 29 = .ok (.goto 4, 3) := by decide +kernel
theorem d_Z_run_32 : decode b_Z_run 32 = .ok (.iconst 0, 1) := by decide +kernel
theorem d_Z_run_33 : decode b_Z_run 33 = .ok (.putfield 141, 3) := by decide +kernel
theorem d_Z_run_36 : decode b_Z_run 36 = .ok (.aload_n 0, 1) := by decide +kernel
theorem d_Z_run_37 : decode b_Z_run 37 = .ok (.getfield 141, 3) := by decide +kernel
theorem d_Z_run_40 : decode b_Z_run 40 = .ok (.ifCond .eq 11, 3) := by decide +kernel
theorem d_Z_run_43 : decode b_Z_run 43 = .ok (.aload_n 0, 1) := by decide +kernel
theorem d_Z_run_44 : decode b_Z_run 44 = .ok (.iload_n 1, 1) := by decide +kernel
theorem d_Z_run_45 : decode b_Z_run 45 = .ok (.invokevirtual 145, 3) := by decide +kernel
theorem d_Z_run_48 : decode b_Z_run 48 = .ok (.goto 8, 3) := by decide +kernel
theorem d_Z_run_51 : decode b_Z_run 51 = .ok (.aload_n 0, 1) := by decide +kernel
theorem d_Z_run_52 : decode b_Z_run 52 = .ok (.iload_n 1, 1) := by decide +kernel
theorem d_Z_run_53 : decode b_Z_run 53 = .ok (.invokevirtual 149, 3) := by decide +kernel
theorem d_Z_run_56 : decode b_Z_run 56 = .ok (.iconst 0, 1) := by decide +kernel
theorem d_Z_run_57 : decode b_Z_run 57 = .ok (.istore 6, 2) := by decide +kernel
theorem d_Z_run_59 : decode b_Z_run 59 = .ok (.iload 6, 2) := by decide +kernel
theorem d_Z_run_61 : decode b_Z_run 61 = .ok (.iconst 4, 1) := by decide +kernel
theorem d_Z_run_62 : decode b_Z_run 62 = .ok (.if_icmp .ge 23, 3) := by decide +kernel
theorem d_Z_run_65 : decode b_Z_run 65 = .ok (.aload_n 0, 1) := by decide +kernel
theorem d_Z_run_66 : decode b_Z_run 66 = .ok (.getfield 47, 3) := by decide +kernel
theorem d_Z_run_69 : decode b_Z_run 69 = .ok (.iload 6, 2) := by decide +kernel
theorem d_Z_run_71 : decode b_Z_run 71 = .ok (.aload_n 0, 1) := by decide +kernel
theorem d_Z_run_72 : decode b_Z_run 72 = .ok (.getfield 40, 3) := by decide +kernel
theorem d_Z_run_75 : decode b_Z_run 75 = .ok (.iload 6, 2) := by decide +kernel
theorem d_Z_run_77 : decode b_Z_run 77 = .ok (.laload, 1) := by decide +kernel
theorem d_Z_run_78 : decode b_Z_run 78 = .ok (.lastore, 1) := by decide +kernel
theorem d_Z_run_79 : decode b_Z_run 79 = .ok (.iinc 6 1, 3) := by decide +kernel
theorem d_Z_run_82 : decode b_Z_run 82 = .ok (.goto (-23), 3) := by decide +kernel
theorem d_Z_run_85 : decode b_Z_run 85 = .ok (.aload_n 0, 1) := by decide +kernel
theorem d_Z_run_86 : decode b_Z_run 86 = .ok (.aload_n 0, 1) := by decide +kernel
theorem d_Z_run_87 : decode b_Z_run 87 = .ok (.getfield 127, 3) := by decide +kernel
theorem d_Z_run_90 : decode b_Z_run 90 = .ok (.putfield 152, 3) := by decide +kernel
theorem d_Z_run_93 : decode b_Z_run 93 = .ok (.aload_n 0, 1) := by decide +kernel
theorem d_Z_run_94 : decode b_Z_run 94 = .ok (.dup, 1) := by decide +kernel
theorem d_Z_run_95 : decode b_Z_run 95 = .ok (.getfield 155, 3) := by decide +kernel
theorem d_Z_run_98 : decode b_Z_run 98 = .ok (.iconst 1, 1) := by decide +kernel
theorem d_Z_run_99 : decode b_Z_run 99 = .ok (.iadd, 1) := by decide +kernel
theorem d_Z_run_100 : decode b_Z_run 100 = .ok (.putfield 155, 3) := by decide +kernel
theorem d_Z_run_103 : decode b_Z_run 103 = .ok (.aload_n 0, 1) := by decide +kernel
theorem d_Z_run_104 : decode b_Z_run 104 = .ok (.dup, 1) := by decide +kernel
theorem d_Z_run_105 : decode b_Z_run 105 = .ok (.getfield 158, 3) := by decide +kernel
theorem d_Z_run_108 : decode b_Z_run 108 = .ok (.aload_n 0, 1) := by decide +kernel
theorem d_Z_run_109 : decode b_Z_run 109 = .ok (.getfield 124, 3) := by decide +kernel
theorem d_Z_run_112 : decode b_Z_run 112 = .ok (.iadd, 1) := by decide +kernel
theorem d_Z_run_113 : decode b_Z_run 113 = .ok (.putfield 158, 3) := by decide +kernel
theorem d_Z_run_116 : decode b_Z_run 116 = .ok (.aload_n 0, 1) := by decide +kernel
theorem d_Z_run_117 : decode b_Z_run 117 = .ok (.getfield 124, 3) := by decide +kernel
theorem d_Z_run_120 : decode b_Z_run 120 = .ok (.ireturn, 1) := by decide +kernel
theorem d_Z_begin_0 : decode b_Z_begin 0 = .ok (.aload_n 0, 1) := by decide +kernel
theorem d_Z_begin_1 : decode b_Z_begin 1 = .ok (.getfield 40, 3) := by decide +kernel
theorem d_Z_begin_4 : decode b_Z_begin 4 = .ok (.iconst 0, 1) := by decide +kernel
theorem d_Z_begin_5 : decode b_Z_begin 5 = .ok (.lload_n 1, 1) := by decide +kernel
theorem d_Z_begin_6 : decode b_Z_begin 6 = .ok (.lastore, 1) := by decide +kernel
theorem d_Z_begin_7 : decode b_Z_begin 7 = .ok (.aload_n 0, 1) := by decide +kernel
theorem d_Z_begin_8 : decode b_Z_begin 8 = .ok (.getfield 40, 3) := by decide +kernel
theorem d_Z_begin_11 : decode b_Z_begin 11 = .ok (.iconst 1, 1) := by decide +kernel
theorem d_Z_begin_12 : decode b_Z_begin 12 = .ok (.lload_n 3, 1) := by decide +kernel
theorem d_Z_begin_13 : decode b_Z_begin 13 = .ok (.lastore, 1) := by decide +kernel
theorem d_Z_begin_14 : decode b_Z_begin 14 = .ok (.aload_n 0, 1) := by decide +kernel
theorem d_Z_begin_15 : decode b_Z_begin 15 = .ok (.getfield 40, 3) := by decide +kernel
theorem d_Z_begin_18 : decode b_Z_begin 18 = .ok (.iconst 2, 1) := by decide +kernel
theorem d_Z_begin_19 : decode b_Z_begin 19 = .ok (.lconst 0, 1) := by decide +kernel
theorem d_Z_begin_20 : decode b_Z_begin 20 = .ok (.lastore, 1) := by decide +kernel
theorem d_Z_begin_21 : decode b_Z_begin 21 = .ok (.aload_n 0, 1) := by decide +kernel
theorem d_Z_begin_22 : decode b_Z_begin 22 = .ok (.getfield 40, 3) := by decide +kernel
theorem d_Z_begin_25 : decode b_Z_begin 25 = .ok (.iconst 3, 1) := by decide +kernel
theorem d_Z_begin_26 : decode b_Z_begin 26 = .ok (.lconst 0, 1) := by decide +kernel
theorem d_Z_begin_27 : decode b_Z_begin 27 = .ok (.lastore, 1) := by decide +kernel
theorem d_Z_begin_28 : decode b_Z_begin 28 = .ok (.aload_n 0, 1) := by decide +kernel
theorem d_Z_begin_29 : decode b_Z_begin 29 = .ok (.iconst 0, 1) := by decide +kernel
theorem d_Z_begin_30 : decode b_Z_begin 30 = .ok (.putfield 124, 3) := by decide +kernel
theorem d_Z_begin_33 : decode b_Z_begin 33 = .ok (.aload_n 0, 1) := by decide +kernel
theorem d_Z_begin_34 : decode b_Z_begin 34 = .ok (.iconst 0, 1) := by decide +kernel
theorem d_Z_begin_35 : decode b_Z_begin 35 = .ok (.putfield 127, 3) := by decide +kernel
theorem d_Z_begin_38 : decode b_Z_begin 38 = .ok (.return_, 1) := by decide +kernel
theorem d_Z_runBytes_0 : decode b_Z_runBytes 0 = .ok (.sipush 300, 3) := by decide +kernel
theorem d_Z_runBytes_3 : decode b_Z_runBytes 3 = .ok (.iload_n 1, 1) := by decide +kernel
theorem d_Z_runBytes_4 : decode b_Z_runBytes 4 = .ok (.imul, 1) := by decide +kernel
theorem d_Z_runBytes_5 : decode b_Z_runBytes 5 = .ok (.istore_n 2, 1) := by decide +kernel
theorem d_Z_runBytes_6 : decode b_Z_runBytes 6 = .ok (.iload_n 2, 1) := by decide +kernel
theorem d_Z_runBytes_7 : decode b_Z_runBytes 7 = .ok (.istore_n 3, 1) := by decide +kernel
theorem d_Z_runBytes_8 : decode b_Z_runBytes 8 = .ok (.iconst 0, 1) := by decide +kernel
theorem d_Z_runBytes_9 : decode b_Z_runBytes 9 = .ok (.istore 4, 2) := by decide +kernel
theorem d_Z_runBytes_11 : decode b_Z_runBytes 11 = .ok (.iconst 0, 1) := by decide +kernel
theorem d_Z_runBytes_12 : decode b_Z_runBytes 12 = .ok (.istore 5, 2) := by decide +kernel
theorem d_Z_runBytes_14 : decode b_Z_runBytes 14 = .ok (.aload_n 0, 1) := by decide +kernel
theorem d_Z_runBytes_15 : decode b_Z_runBytes 15 = .ok (.getfield 127, 3) := by decide +kernel
theorem d_Z_runBytes_18 : decode b_Z_runBytes 18 = .ok (.ifCond .ne 294, 3) := by decide +kernel
theorem d_Z_runBytes_21 : decode b_Z_runBytes 21 = .ok (.aload_n 0, 1) := by decide +kernel
theorem d_Z_runBytes_22 : decode b_Z_runBytes 22 = .ok (.getfield 31, 3) := by decide +kernel
theorem d_Z_runBytes_25 : decode b_Z_runBytes 25 = .ok (.iload_n 3, 1) := by decide +kernel
theorem d_Z_runBytes_26 : decode b_Z_runBytes 26 = .ok (.iaload, 1) := by decide +kernel
theorem d_Z_runBytes_27 : decode b_Z_runBytes 27 = .ok (.bipush 10, 2) := by decide +kernel
theorem d_Z_runBytes_29 : decode b_Z_runBytes 29 = .ok (.if_icmp .eq 283, 3) := by decide +kernel
theorem d_Z_runBytes_32 : decode b_Z_runBytes 32 = .ok (.aload_n 0, 1) := by decide +kernel
theorem d_Z_runBytes_33 : decode b_Z_runBytes 33 = .ok (.getfield 31, 3) := by decide +kernel
theorem d_Z_runBytes_36 : decode b_Z_runBytes 36 = .ok (.iload_n 3, 1) := by decide +kernel
theorem d_Z_runBytes_37 : decode b_Z_runBytes 37 = .ok (.iaload, 1) := by decide +kernel
theorem d_Z_runBytes_38 : decode b_Z_runBytes 38 = .ok (.istore 6, 2) := by decide +kernel
theorem d_Z_runBytes_40 : decode b_Z_runBytes 40 = .ok (.iload 5, 2) := by decide +kernel
theorem d_Z_runBytes_42 : decode b_Z_runBytes 42 = .ok (.ifCond .eq 19, 3) := by decide +kernel
theorem d_Z_runBytes_45 : decode b_Z_runBytes 45 = .ok (.aload_n 0, 1) := by decide +kernel
theorem d_Z_runBytes_46 : decode b_Z_runBytes 46 = .ok (.getfield 124, 3) := by decide +kernel
theorem d_Z_runBytes_49 : decode b_Z_runBytes 49 = .ok (.sipush 2000, 3) := by decide +kernel
theorem d_Z_runBytes_52 : decode b_Z_runBytes 52 = .ok (.if_icmp .ne 9, 3) := by decide +kernel
theorem d_Z_runBytes_55 : decode b_Z_runBytes 55 = .ok (.aload_n 0, 1) := by decide +kernel
theorem d_Z_runBytes_56 : decode b_Z_runBytes 56 = .ok (.iconst 2, 1) := by decide +kernel
theorem d_Z_runBytes_57 : decode b_Z_runBytes 57 = .ok (.putfield 127, 3) := by decide +kernel
theorem d_Z_runBytes_60 : decode b_Z_runBytes 60 = .ok (.return_, 1) := by decide +kernel
theorem d_Z_runBytes_61 : decode b_Z_runBytes 61 = .ok (.iload 6, 2) := by decide +kernel
theorem d_Z_runBytes_63 : decode b_Z_runBytes 63 = .ok (.iconst 2, 1) := by decide +kernel
theorem d_Z_runBytes_64 : decode b_Z_runBytes 64 = .ok (.if_icmp .eq 10, 3) := by decide +kernel
theorem d_Z_runBytes_67 : decode b_Z_runBytes 67 = .ok (.iload 6, 2) := by decide +kernel
theorem d_Z_runBytes_69 : decode b_Z_runBytes 69 = .ok (.bipush 9, 2) := by decide +kernel
theorem d_Z_runBytes_71 : decode b_Z_runBytes 71 = .ok (.if_icmp .ne 7, 3) := by decide +kernel
theorem d_Z_runBytes_74 : decode b_Z_runBytes 74 = .ok (.iconst 1, 1) := by decide +kernel
theorem d_Z_runBytes_75 : decode b_Z_runBytes 75 = .ok (.goto 4, 3) := by decide +kernel
theorem d_Z_runBytes_78 : decode b_Z_runBytes 78 = .ok (.iconst 0, 1) := by decide +kernel
theorem d_Z_runBytes_79 : decode b_Z_runBytes 79 = .ok (.istore 5, 2) := by decide +kernel
theorem d_Z_runBytes_81 : decode b_Z_runBytes 81 = .ok (.iload_n 3, 1) := by decide +kernel
theorem d_Z_runBytes_82 : decode b_Z_runBytes 82 = .ok (.iload 6, 2) := by decide +kernel
theorem d_Z_runBytes_84 : decode b_Z_runBytes 84 = .ok (.invokestatic 102, 3) := by decide +kernel
theorem d_Z_runBytes_87 : decode b_Z_runBytes 87 = .ok (.iadd, 1) := by decide +kernel
theorem d_Z_runBytes_88 : decode b_Z_runBytes 88 = .ok (.istore 7, 2) := by decide +kernel
theorem d_Z_runBytes_90 : decode b_Z_runBytes 90 = .ok (.iload 6, 2) := by decide +kernel
theorem d_Z_runBytes_92 : decode b_Z_runBytes 92 = .ok (.iconst 1, 1) := by decide +kernel
theorem d_Z_runBytes_93 : decode b_Z_runBytes 93 = .ok (.if_icmp .eq 16, 3) := by decide +kernel
theorem d_Z_runBytes_96 : decode b_Z_runBytes 96 = .ok (.iload 6, 2) := by decide +kernel
theorem d_Z_runBytes_98 : decode b_Z_runBytes 98 = .ok (.iconst 3, 1) := by decide +kernel
theorem d_Z_runBytes_99 : decode b_Z_runBytes 99 = .ok (.if_icmp .eq 10, 3) := by decide +kernel
theorem d_Z_runBytes_102 : decode b_Z_runBytes 102 = .ok (.iload 6, 2) := by decide +kernel
theorem d_Z_runBytes_104 : decode b_Z_runBytes 104 = .ok (.bipush 16, 2) := by decide +kernel
theorem d_Z_runBytes_106 : decode b_Z_runBytes 106 = .ok (.if_icmp .ne 44, 3) := by decide +kernel
theorem d_Z_runBytes_109 : decode b_Z_runBytes 109 = .ok (.aload_n 0, 1) := by decide +kernel
theorem d_Z_runBytes_110 : decode b_Z_runBytes 110 = .ok (.getfield 44, 3) := by decide +kernel
theorem d_Z_runBytes_113 : decode b_Z_runBytes 113 = .ok (.iload 4, 2) := by decide +kernel
theorem d_Z_runBytes_115 : decode b_Z_runBytes 115 = .ok (.iload 6, 2) := by decide +kernel
theorem d_Z_runBytes_117 : decode b_Z_runBytes 117 = .ok (.iconst 1, 1) := by decide +kernel
theorem d_Z_runBytes_118 : decode b_Z_runBytes 118 = .ok (.if_icmp .ne 19, 3) := by decide +kernel
theorem d_Z_runBytes_121 : decode b_Z_runBytes 121 = .ok (.aload_n 0, 1) := by decide +kernel
theorem d_Z_runBytes_122 : decode b_Z_runBytes 122 = .ok (.getfield 40, 3) := by decide +kernel
theorem d_Z_runBytes_125 : decode b_Z_runBytes 125 = .ok (.aload_n 0, 1) := by decide +kernel
theorem d_Z_runBytes_126 : decode b_Z_runBytes 126 = .ok (.getfield 31, 3) := by decide +kernel
theorem d_Z_runBytes_129 : decode b_Z_runBytes 129 = .ok (.iload_n 3, 1) := by decide +kernel
theorem d_Z_runBytes_130 : decode b_Z_runBytes 130 = .ok (.iconst 1, 1) := by decide +kernel
theorem d_Z_runBytes_131 : decode b_Z_runBytes 131 = .ok (.iadd, 1) := by decide +kernel
theorem d_Z_runBytes_132 : decode b_Z_runBytes 132 = .ok (.iaload, 1) := by decide +kernel
theorem d_Z_runBytes_133 : decode b_Z_runBytes 133 = .ok (.laload, 1) := by decide +kernel
theorem d_Z_runBytes_134 : decode b_Z_runBytes 134 = .ok (.goto 9, 3) := by decide +kernel
theorem d_Z_runBytes_137 : decode b_Z_runBytes 137 = .ok (.aload_n 0, 1) := by decide +kernel
theorem d_Z_runBytes_138 : decode b_Z_runBytes 138 = .ok (.iload_n 3, 1) := by decide +kernel
theorem d_Z_runBytes_139 : decode b_Z_runBytes 139 = .ok (.invokevirtual 134, 3) := by decide +kernel
theorem d_Z_runBytes_142 : decode b_Z_runBytes 142 = .ok (.i2l, 1) := by decide +kernel
theorem d_Z_runBytes_143 : decode b_Z_runBytes 143 = .ok (.lastore, 1) := by decide +kernel
theorem d_Z_runBytes_144 : decode b_Z_runBytes 144 = .ok (.iinc 4 1, 3) := by decide +kernel
theorem d_Z_runBytes_147 : decode b_Z_runBytes 147 = .ok (.goto 159, 3) := by decide +kernel
theorem d_Z_runBytes_150 : decode b_Z_runBytes 150 = .ok (.iload 5, 2) := by decide +kernel
theorem d_Z_runBytes_152 : decode b_Z_runBytes 152 = .ok (.ifCond .eq 90, 3) := by decide +kernel
theorem d_Z_runBytes_155 : decode b_Z_runBytes 155 = .ok (.iinc 4 (-1), 3) := by decide +kernel
theorem d_Z_runBytes_158 : decode b_Z_runBytes 158 = .ok (.aload_n 0, 1) := by decide +kernel
theorem d_Z_runBytes_159 : decode b_Z_runBytes 159 = .ok (.dup, 1) := by decide +kernel
theorem d_Z_runBytes_160 : decode b_Z_runBytes 160 = .ok (.getfield 124, 3) := by decide +kernel
theorem d_Z_runBytes_163 : decode b_Z_runBytes 163 = .ok (.iconst 1, 1) := by decide +kernel
theorem d_Z_runBytes_164 : decode b_Z_runBytes 164 = .ok (.iadd, 1) := by decide +kernel
theorem d_Z_runBytes_165 : decode b_Z_runBytes 165 = .ok (.putfield 124, 3) := by decide +kernel
theorem d_Z_runBytes_168 : decode b_Z_runBytes 168 = .ok (.iload 6, 2) := by decide +kernel
theorem d_Z_runBytes_170 : decode b_Z_runBytes 170 = .ok (.iconst 2, 1) := by decide +kernel
theorem d_Z_runBytes_171 : decode b_Z_runBytes 171 = .ok (.if_icmp .ne 26, 3) := by decide +kernel
theorem d_Z_runBytes_174 : decode b_Z_runBytes 174 = .ok (.aload_n 0, 1) := by decide +kernel
theorem d_Z_runBytes_175 : decode b_Z_runBytes 175 = .ok (.getfield 40, 3) := by decide +kernel
theorem d_Z_runBytes_178 : decode b_Z_runBytes 178 = .ok (.aload_n 0, 1) := by decide +kernel
theorem d_Z_runBytes_179 : decode b_Z_runBytes 179 = .ok (.getfield 31, 3) := by decide +kernel
theorem d_Z_runBytes_182 : decode b_Z_runBytes 182 = .ok (.iload_n 3, 1) := by decide +kernel
theorem d_Z_runBytes_183 : decode b_Z_runBytes 183 = .ok (.iconst 1, 1) := by decide +kernel
theorem d_Z_runBytes_184 : decode b_Z_runBytes 184 = .ok (.iadd, 1) := by decide +kernel
theorem d_Z_runBytes_185 : decode b_Z_runBytes 185 = .ok (.iaload, 1) := by decide +kernel
theorem d_Z_runBytes_186 : decode b_Z_runBytes 186 = .ok (.aload_n 0, 1) := by decide +kernel
theorem d_Z_runBytes_187 : decode b_Z_runBytes 187 = .ok (.getfield 44, 3) := by decide +kernel
theorem d_Z_runBytes_190 : decode b_Z_runBytes 190 = .ok (.iload 4, 2) := by decide +kernel
theorem d_Z_runBytes_192 : decode b_Z_runBytes 192 = .ok (.laload, 1) := by decide +kernel
theorem d_Z_runBytes_193 : decode b_Z_runBytes 193 = .ok (.lastore, 1) := by decide +kernel
theorem d_Z_runBytes_194 : decode b_Z_runBytes 194 = .ok (.goto 112, 3) := by decide +kernel
theorem d_Z_runBytes_197 : decode b_Z_runBytes 197 = .ok (.aload_n 0, 1) := by decide +kernel
theorem d_Z_runBytes_198 : decode b_Z_runBytes 198 = .ok (.getfield 44, 3) := by decide +kernel
theorem d_Z_runBytes_201 : decode b_Z_runBytes 201 = .ok (.iload 4, 2) := by decide +kernel
theorem d_Z_runBytes_203 : decode b_Z_runBytes 203 = .ok (.laload, 1) := by decide +kernel
theorem d_Z_runBytes_204 : decode b_Z_runBytes 204 = .ok (.lconst 0, 1) := by decide +kernel
theorem d_Z_runBytes_205 : decode b_Z_runBytes 205 = .ok (.lcmp, 1) := by decide +kernel
theorem d_Z_runBytes_206 : decode b_Z_runBytes 206 = .ok (.ifCond .eq 29, 3) := by decide +kernel
theorem d_Z_runBytes_209 : decode b_Z_runBytes 209 = .ok (.iload_n 2, 1) := by decide +kernel
theorem d_Z_runBytes_210 : decode b_Z_runBytes 210 = .ok (.sipush 256, 3) := by decide +kernel
theorem d_Z_runBytes_213 : decode b_Z_runBytes 213 = .ok (.aload_n 0, 1) := by decide +kernel
theorem d_Z_runBytes_214 : decode b_Z_runBytes 214 = .ok (.getfield 31, 3) := by decide +kernel
theorem d_Z_runBytes_217 : decode b_Z_runBytes 217 = .ok (.iload_n 3, 1) := by decide +kernel
theorem d_Z_runBytes_218 : decode b_Z_runBytes 218 = .ok (.iconst 1, 1) := by decide +kernel
theorem d_Z_runBytes_219 : decode b_Z_runBytes 219 = .ok (.iadd, 1) := by decide +kernel
theorem d_Z_runBytes_220 : decode b_Z_runBytes 220 = .ok (.iaload, 1) := by decide +kernel
theorem d_Z_runBytes_221 : decode b_Z_runBytes 221 = .ok (.imul, 1) := by decide +kernel
theorem d_Z_runBytes_222 : decode b_Z_runBytes 222 = .ok (.iadd, 1) := by decide +kernel
theorem d_Z_runBytes_223 : decode b_Z_runBytes 223 = .ok (.aload_n 0, 1) := by decide +kernel
theorem d_Z_runBytes_224 : decode b_Z_runBytes 224 = .ok (.getfield 31, 3) := by decide +kernel
theorem d_Z_runBytes_227 : decode b_Z_runBytes 227 = .ok (.iload_n 3, 1) := by decide +kernel
theorem d_Z_runBytes_228 : decode b_Z_runBytes 228 = .ok (.iconst 2, 1) := by decide +kernel
theorem d_Z_runBytes_229 : decode b_Z_runBytes 229 = .ok (.iadd, 1) := by decide +kernel
theorem d_Z_runBytes_230 : decode b_Z_runBytes 230 = .ok (.iaload, 1) := by decide +kernel
theorem d_Z_runBytes_231 : decode b_Z_runBytes 231 = .ok (.iadd, 1) := by decide +kernel
theorem d_Z_runBytes_232 : decode b_Z_runBytes 232 = .ok (.goto 5, 3) := by decide +kernel
theorem d_Z_runBytes_235 : decode b_Z_runBytes 235 = .ok (.iload 7, 2) := by decide +kernel
theorem d_Z_runBytes_237 : decode b_Z_runBytes 237 = .ok (.istore 7, 2) := by decide +kernel
theorem d_Z_runBytes_239 : decode b_Z_runBytes 239 = .ok (.goto 67, 3) := by decide +kernel
theorem d_Z_runBytes_242 : decode b_Z_runBytes 242 = .ok (.iload 6, 2) := by decide +kernel
theorem d_Z_runBytes_244 : decode b_Z_runBytes 244 = .ok (.bipush 7, 2) := by decide +kernel
theorem d_Z_runBytes_246 : decode b_Z_runBytes 246 = .ok (.if_icmp .ne 25, 3) := by decide +kernel
theorem d_Z_runBytes_249 : decode b_Z_runBytes 249 = .ok (.aload_n 0, 1) := by decide +kernel
theorem d_Z_runBytes_250 : decode b_Z_runBytes 250 = .ok (.getfield 44, 3) := by decide +kernel
theorem d_Z_runBytes_253 : decode b_Z_runBytes 253 = .ok (.iload 4, 2) := by decide +kernel
theorem d_Z_runBytes_255 : decode b_Z_runBytes 255 = .ok (.iconst 1, 1) := by decide +kernel
theorem d_Z_runBytes_256 : decode b_Z_runBytes 256 = .ok (.isub, 1) := by decide +kernel
theorem d_Z_runBytes_257 : decode b_Z_runBytes 257 = .ok (.laload, 1) := by decide +kernel
theorem d_Z_runBytes_258 : decode b_Z_runBytes 258 = .ok (.lconst 0, 1) := by decide +kernel
theorem d_Z_runBytes_259 : decode b_Z_runBytes 259 = .ok (.lcmp, 1) := by decide +kernel
theorem d_Z_runBytes_260 : decode b_Z_runBytes 260 = .ok (.ifCond .ne 11, 3) := by decide +kernel
theorem d_Z_runBytes_263 : decode b_Z_runBytes 263 = .ok (.aload_n 0, 1) := by decide +kernel
theorem d_Z_runBytes_264 : decode b_Z_runBytes 264 = .ok (.iconst 1, 1) := by decide +kernel
theorem d_Z_runBytes_265 : decode b_Z_runBytes 265 = .ok (.putfield 127, 3) := by decide +kernel
theorem d_Z_runBytes_268 : decode b_Z_runBytes 268 = .ok (.goto 38, 3) := by decide +kernel
theorem d_Z_runBytes_271 : decode b_Z_runBytes 271 = .ok (.iinc 4 (-1), 3) := by decide +kernel
theorem d_Z_runBytes_274 : decode b_Z_runBytes 274 = .ok (.aload_n 0, 1) := by decide +kernel
theorem d_Z_runBytes_275 : decode b_Z_runBytes 275 = .ok (.getfield 44, 3) := by decide +kernel
theorem d_Z_runBytes_278 : decode b_Z_runBytes 278 = .ok (.iload 4, 2) := by decide +kernel
theorem d_Z_runBytes_280 : decode b_Z_runBytes 280 = .ok (.iconst 1, 1) := by decide +kernel
theorem d_Z_runBytes_281 : decode b_Z_runBytes 281 = .ok (.isub, 1) := by decide +kernel
theorem d_Z_runBytes_282 : decode b_Z_runBytes 282 = .ok (.iload 6, 2) := by decide +kernel
theorem d_Z_runBytes_284 : decode b_Z_runBytes 284 = .ok (.iconst 3, 1) := by decide +kernel
theorem d_Z_runBytes_285 : decode b_Z_runBytes 285 = .ok (.isub, 1) := by decide +kernel
theorem d_Z_runBytes_286 : decode b_Z_runBytes 286 = .ok (.aload_n 0, 1) := by decide +kernel
theorem d_Z_runBytes_287 : decode b_Z_runBytes 287 = .ok (.getfield 44, 3) := by decide +kernel
theorem d_Z_runBytes_290 : decode b_Z_runBytes 290 = .ok (.iload 4, 2) := by decide +kernel
theorem d_Z_runBytes_292 : decode b_Z_runBytes 292 = .ok (.iconst 1, 1) := by decide +kernel
theorem d_Z_runBytes_293 : decode b_Z_runBytes 293 = .ok (.isub, 1) := by decide +kernel
theorem d_Z_runBytes_294 : decode b_Z_runBytes 294 = .ok (.laload, 1) := by decide +kernel
theorem d_Z_runBytes_295 : decode b_Z_runBytes 295 = .ok (.aload_n 0, 1) := by decide +kernel
theorem d_Z_runBytes_296 : decode b_Z_runBytes 296 = .ok (.getfield 44, 3) := by decide +kernel
theorem d_Z_runBytes_299 : decode b_Z_runBytes 299 = .ok (.iload 4, 2) := by decide +kernel
theorem d_Z_runBytes_301 : decode b_Z_runBytes 301 = .ok (.laload, 1) := by decide +kernel
theorem d_Z_runBytes_302 : decode b_Z_runBytes 302 = .ok (.invokestatic 130, 3) := by decide +kernel
theorem d_Z_runBytes_305 : decode b_Z_runBytes 305 = .ok (.lastore, 1) := by decide +kernel
theorem d_Z_runBytes_306 : decode b_Z_runBytes 306 = .ok (.iload 7, 2) := by decide +kernel
theorem d_Z_runBytes_308 : decode b_Z_runBytes 308 = .ok (.istore_n 3, 1) := by decide +kernel
theorem d_Z_runBytes_309 : decode b_Z_runBytes 309 = .ok (.goto (-295), 3) := by decide +kernel
theorem d_Z_runBytes_312 : decode b_Z_runBytes 312 = .ok (.return_, 1) := by decide +kernel
theorem d_Z_pushed_0 : decode b_Z_pushed 0 = .ok (.aload_n 0, 1) := by decide +kernel
theorem d_Z_pushed_1 : decode b_Z_pushed 1 = .ok (.getfield 31, 3) := by decide +kernel
theorem d_Z_pushed_4 : decode b_Z_pushed 4 = .ok (.iload_n 1, 1) := by decide +kernel
theorem d_Z_pushed_5 : decode b_Z_pushed 5 = .ok (.iaload, 1) := by decide +kernel
theorem d_Z_pushed_6 : decode b_Z_pushed 6 = .ok (.bipush 16, 2) := by decide +kernel
theorem d_Z_pushed_8 : decode b_Z_pushed 8 = .ok (.if_icmp .ne 22, 3) := by decide +kernel
theorem d_Z_pushed_11 : decode b_Z_pushed 11 = .ok (.aload_n 0, 1) := by decide +kernel
theorem d_Z_pushed_12 : decode b_Z_pushed 12 = .ok (.getfield 31, 3) := by decide +kernel
theorem d_Z_pushed_15 : decode b_Z_pushed 15 = .ok (.iload_n 1, 1) := by decide +kernel
theorem d_Z_pushed_16 : decode b_Z_pushed 16 = .ok (.iconst 1, 1) := by decide +kernel
theorem d_Z_pushed_17 : decode b_Z_pushed 17 = .ok (.iadd, 1) := by decide +kernel
theorem d_Z_pushed_18 : decode b_Z_pushed 18 = .ok (.iaload, 1) := by decide +kernel
theorem d_Z_pushed_19 : decode b_Z_pushed 19 = .ok (.sipush 128, 3) := by decide +kernel
theorem d_Z_pushed_22 : decode b_Z_pushed 22 = .ok (.ixor, 1) := by decide +kernel
theorem d_Z_pushed_23 : decode b_Z_pushed 23 = .ok (.sipush 128, 3) := by decide +kernel
theorem d_Z_pushed_26 : decode b_Z_pushed 26 = .ok (.isub, 1) := by decide +kernel
theorem d_Z_pushed_27 : decode b_Z_pushed 27 = .ok (.goto 47, 3) := by decide +kernel
theorem d_Z_pushed_30 : decode b_Z_pushed 30 = .ok (.aload_n 0, 1) := by decide +kernel
theorem d_Z_pushed_31 : decode b_Z_pushed 31 = .ok (.getfield 31, 3) := by decide +kernel
theorem d_Z_pushed_34 : decode b_Z_pushed 34 = .ok (.iload_n 1, 1) := by decide +kernel
theorem d_Z_pushed_35 : decode b_Z_pushed 35 = .ok (.iconst 1, 1) := by decide +kernel
theorem d_Z_pushed_36 : decode b_Z_pushed 36 = .ok (.iadd, 1) := by decide +kernel
theorem d_Z_pushed_37 : decode b_Z_pushed 37 = .ok (.iaload, 1) := by decide +kernel
theorem d_Z_pushed_38 : decode b_Z_pushed 38 = .ok (.bipush 24, 2) := by decide +kernel
theorem d_Z_pushed_40 : decode b_Z_pushed 40 = .ok (.ishl, 1) := by decide +kernel
theorem d_Z_pushed_41 : decode b_Z_pushed 41 = .ok (.aload_n 0, 1) := by decide +kernel
theorem d_Z_pushed_42 : decode b_Z_pushed 42 = .ok (.getfield 31, 3) := by decide +kernel
theorem d_Z_pushed_45 : decode b_Z_pushed 45 = .ok (.iload_n 1, 1) := by decide +kernel
theorem d_Z_pushed_46 : decode b_Z_pushed 46 = .ok (.iconst 2, 1) := by decide +kernel
theorem d_Z_pushed_47 : decode b_Z_pushed 47 = .ok (.iadd, 1) := by decide +kernel
theorem d_Z_pushed_48 : decode b_Z_pushed 48 = .ok (.iaload, 1) := by decide +kernel
theorem d_Z_pushed_49 : decode b_Z_pushed 49 = .ok (.bipush 16, 2) := by decide +kernel
theorem d_Z_pushed_51 : decode b_Z_pushed 51 = .ok (.ishl, 1) := by decide +kernel
theorem d_Z_pushed_52 : decode b_Z_pushed 52 = .ok (.ior, 1) := by decide +kernel
theorem d_Z_pushed_53 : decode b_Z_pushed 53 = .ok (.aload_n 0, 1) := by decide +kernel
theorem d_Z_pushed_54 : decode b_Z_pushed 54 = .ok (.getfield 31, 3) := by decide +kernel
theorem d_Z_pushed_57 : decode b_Z_pushed 57 = .ok (.iload_n 1, 1) := by decide +kernel
theorem d_Z_pushed_58 : decode b_Z_pushed 58 = .ok (.iconst 3, 1) := by decide +kernel
theorem d_Z_pushed_59 : decode b_Z_pushed 59 = .ok (.iadd, 1) := by decide +kernel
theorem d_Z_pushed_60 : decode b_Z_pushed 60 = .ok (.iaload, 1) := by decide +kernel
theorem d_Z_pushed_61 : decode b_Z_pushed 61 = .ok (.bipush 8, 2) := by decide +kernel
theorem d_Z_pushed_63 : decode b_Z_pushed 63 = .ok (.ishl, 1) := by decide +kernel
theorem d_Z_pushed_64 : decode b_Z_pushed 64 = .ok (.ior, 1) := by decide +kernel
theorem d_Z_pushed_65 : decode b_Z_pushed 65 = .ok (.aload_n 0, 1) := by decide +kernel
theorem d_Z_pushed_66 : decode b_Z_pushed 66 = .ok (.getfield 31, 3) := by decide +kernel
theorem d_Z_pushed_69 : decode b_Z_pushed 69 = .ok (.iload_n 1, 1) := by decide +kernel
theorem d_Z_pushed_70 : decode b_Z_pushed 70 = .ok (.iconst 4, 1) := by decide +kernel
theorem d_Z_pushed_71 : decode b_Z_pushed 71 = .ok (.iadd, 1) := by decide +kernel
theorem d_Z_pushed_72 : decode b_Z_pushed 72 = .ok (.iaload, 1) := by decide +kernel
theorem d_Z_pushed_73 : decode b_Z_pushed 73 = .ok (.ior, 1) := by decide +kernel
theorem d_Z_pushed_74 : decode b_Z_pushed 74 = .ok (.ireturn, 1) := by decide +kernel
theorem d_Z_result_0 : decode b_Z_result 0 = .ok (.iload_n 0, 1) := by decide +kernel
theorem d_Z_result_1 : decode b_Z_result 1 = .ok (.tableswitch 47 1 4 #[31, 35, 39, 43], 31) := by decide +kernel
theorem d_Z_result_32 : decode b_Z_result 32 = .ok (.lload_n 1, 1) := by decide +kernel
theorem d_Z_result_33 : decode b_Z_result 33 = .ok (.lload_n 3, 1) := by decide +kernel
theorem d_Z_result_34 : decode b_Z_result 34 = .ok (.ladd, 1) := by decide +kernel
theorem d_Z_result_35 : decode b_Z_result 35 = .ok (.lreturn, 1) := by decide +kernel
theorem d_Z_result_36 : decode b_Z_result 36 = .ok (.lload_n 1, 1) := by decide +kernel
theorem d_Z_result_37 : decode b_Z_result 37 = .ok (.lload_n 3, 1) := by decide +kernel
theorem d_Z_result_38 : decode b_Z_result 38 = .ok (.lsub, 1) := by decide +kernel
theorem d_Z_result_39 : decode b_Z_result 39 = .ok (.lreturn, 1) := by decide +kernel
theorem d_Z_result_40 : decode b_Z_result 40 = .ok (.lload_n 1, 1) := by decide +kernel
theorem d_Z_result_41 : decode b_Z_result 41 = .ok (.lload_n 3, 1) := by decide +kernel
theorem d_Z_result_42 : decode b_Z_result 42 = .ok (.lmul, 1) := by decide +kernel
theorem d_Z_result_43 : decode b_Z_result 43 = .ok (.lreturn, 1) := by decide +kernel
theorem d_Z_result_44 : decode b_Z_result 44 = .ok (.lload_n 1, 1) := by decide +kernel
theorem d_Z_result_45 : decode b_Z_result 45 = .ok (.lload_n 3, 1) := by decide +kernel
theorem d_Z_result_46 : decode b_Z_result 46 = .ok (.ldiv, 1) := by decide +kernel
theorem d_Z_result_47 : decode b_Z_result 47 = .ok (.lreturn, 1) := by decide +kernel
theorem d_Z_result_48 : decode b_Z_result 48 = .ok (.lload_n 1, 1) := by decide +kernel
theorem d_Z_result_49 : decode b_Z_result 49 = .ok (.lload_n 3, 1) := by decide +kernel
theorem d_Z_result_50 : decode b_Z_result 50 = .ok (.lcmp, 1) := by decide +kernel
theorem d_Z_result_51 : decode b_Z_result 51 = .ok (.ifCond .ge 7, 3) := by decide +kernel
theorem d_Z_result_54 : decode b_Z_result 54 = .ok (.lconst 1, 1) := by decide +kernel
theorem d_Z_result_55 : decode b_Z_result 55 = .ok (.goto 4, 3) := by decide +kernel
theorem d_Z_result_58 : decode b_Z_result 58 = .ok (.lconst 0, 1) := by decide +kernel
theorem d_Z_result_59 : decode b_Z_result 59 = .ok (.lreturn, 1) := by decide +kernel
theorem d_Z_runRows_0 : decode b_Z_runRows 0 = .ok (.iconst 0, 1) := by decide +kernel
theorem d_Z_runRows_1 : decode b_Z_runRows 1 = .ok (.istore_n 2, 1) := by decide +kernel
theorem d_Z_runRows_2 : decode b_Z_runRows 2 = .ok (.iload_n 2, 1) := by decide +kernel
theorem d_Z_runRows_3 : decode b_Z_runRows 3 = .ok (.aload_n 0, 1) := by decide +kernel
theorem d_Z_runRows_4 : decode b_Z_runRows 4 = .ok (.getfield 7, 3) := by decide +kernel
theorem d_Z_runRows_7 : decode b_Z_runRows 7 = .ok (.iload_n 1, 1) := by decide +kernel
theorem d_Z_runRows_8 : decode b_Z_runRows 8 = .ok (.iaload, 1) := by decide +kernel
theorem d_Z_runRows_9 : decode b_Z_runRows 9 = .ok (.if_icmp .ge 211, 3) := by decide +kernel
theorem d_Z_runRows_12 : decode b_Z_runRows 12 = .ok (.aload_n 0, 1) := by decide +kernel
theorem d_Z_runRows_13 : decode b_Z_runRows 13 = .ok (.getfield 127, 3) := by decide +kernel
theorem d_Z_runRows_16 : decode b_Z_runRows 16 = .ok (.ifCond .ne 204, 3) := by decide +kernel
theorem d_Z_runRows_19 : decode b_Z_runRows 19 = .ok (.bipush 60, 2) := by decide +kernel
theorem d_Z_runRows_21 : decode b_Z_runRows 21 = .ok (.iload_n 1, 1) := by decide +kernel
theorem d_Z_runRows_22 : decode b_Z_runRows 22 = .ok (.imul, 1) := by decide +kernel
theorem d_Z_runRows_23 : decode b_Z_runRows 23 = .ok (.iload_n 2, 1) := by decide +kernel
theorem d_Z_runRows_24 : decode b_Z_runRows 24 = .ok (.iadd, 1) := by decide +kernel
theorem d_Z_runRows_25 : decode b_Z_runRows 25 = .ok (.istore_n 3, 1) := by decide +kernel
theorem d_Z_runRows_26 : decode b_Z_runRows 26 = .ok (.aload_n 0, 1) := by decide +kernel
theorem d_Z_runRows_27 : decode b_Z_runRows 27 = .ok (.getfield 13, 3) := by decide +kernel
theorem d_Z_runRows_30 : decode b_Z_runRows 30 = .ok (.iload_n 3, 1) := by decide +kernel
theorem d_Z_runRows_31 : decode b_Z_runRows 31 = .ok (.iaload, 1) := by decide +kernel
theorem d_Z_runRows_32 : decode b_Z_runRows 32 = .ok (.istore 4, 2) := by decide +kernel
theorem d_Z_runRows_34 : decode b_Z_runRows 34 = .ok (.aload_n 0, 1) := by decide +kernel
theorem d_Z_runRows_35 : decode b_Z_runRows 35 = .ok (.getfield 124, 3) := by decide +kernel
theorem d_Z_runRows_38 : decode b_Z_runRows 38 = .ok (.sipush 2000, 3) := by decide +kernel
theorem d_Z_runRows_41 : decode b_Z_runRows 41 = .ok (.if_icmp .ne 11, 3) := by decide +kernel
theorem d_Z_runRows_44 : decode b_Z_runRows 44 = .ok (.aload_n 0, 1) := by decide +kernel
theorem d_Z_runRows_45 : decode b_Z_runRows 45 = .ok (.iconst 2, 1) := by decide +kernel
theorem d_Z_runRows_46 : decode b_Z_runRows 46 = .ok (.putfield 127, 3) := by decide +kernel
theorem d_Z_runRows_49 : decode b_Z_runRows 49 = .ok (.goto 168, 3) := by decide +kernel
theorem d_Z_runRows_52 : decode b_Z_runRows 52 = .ok (.iload 4, 2) := by decide +kernel
theorem d_Z_runRows_54 : decode b_Z_runRows 54 = .ok (.iconst 4, 1) := by decide +kernel
theorem d_Z_runRows_55 : decode b_Z_runRows 55 = .ok (.if_icmp .ne 27, 3) := by decide +kernel
theorem d_Z_runRows_58 : decode b_Z_runRows 58 = .ok (.aload_n 0, 1) := by decide +kernel
theorem d_Z_runRows_59 : decode b_Z_runRows 59 = .ok (.getfield 40, 3) := by decide +kernel
theorem d_Z_runRows_62 : decode b_Z_runRows 62 = .ok (.aload_n 0, 1) := by decide +kernel
theorem d_Z_runRows_63 : decode b_Z_runRows 63 = .ok (.getfield 19, 3) := by decide +kernel
theorem d_Z_runRows_66 : decode b_Z_runRows 66 = .ok (.iload_n 3, 1) := by decide +kernel
theorem d_Z_runRows_67 : decode b_Z_runRows 67 = .ok (.iaload, 1) := by decide +kernel
theorem d_Z_runRows_68 : decode b_Z_runRows 68 = .ok (.laload, 1) := by decide +kernel
theorem d_Z_runRows_69 : decode b_Z_runRows 69 = .ok (.lconst 0, 1) := by decide +kernel
theorem d_Z_runRows_70 : decode b_Z_runRows 70 = .ok (.lcmp, 1) := by decide +kernel
theorem d_Z_runRows_71 : decode b_Z_runRows 71 = .ok (.ifCond .ne 11, 3) := by decide +kernel
theorem d_Z_runRows_74 : decode b_Z_runRows 74 = .ok (.aload_n 0, 1) := by decide +kernel
theorem d_Z_runRows_75 : decode b_Z_runRows 75 = .ok (.iconst 1, 1) := by decide +kernel
theorem d_Z_runRows_76 : decode b_Z_runRows 76 = .ok (.putfield 127, 3) := by decide +kernel
theorem d_Z_runRows_79 : decode b_Z_runRows 79 = .ok (.goto 138, 3) := by decide +kernel
theorem d_Z_runRows_82 : decode b_Z_runRows 82 = .ok (.aload_n 0, 1) := by decide +kernel
theorem d_Z_runRows_83 : decode b_Z_runRows 83 = .ok (.dup, 1) := by decide +kernel
theorem d_Z_runRows_84 : decode b_Z_runRows 84 = .ok (.getfield 124, 3) := by decide +kernel
theorem d_Z_runRows_87 : decode b_Z_runRows 87 = .ok (.iconst 1, 1) := by decide +kernel
theorem d_Z_runRows_88 : decode b_Z_runRows 88 = .ok (.iadd, 1) := by decide +kernel
theorem d_Z_runRows_89 : decode b_Z_runRows 89 = .ok (.putfield 124, 3) := by decide +kernel
theorem d_Z_runRows_92 : decode b_Z_runRows 92 = .ok (.iinc 2 1, 3) := by decide +kernel
theorem d_Z_runRows_95 : decode b_Z_runRows 95 = .ok (.iload 4, 2) := by decide +kernel
theorem d_Z_runRows_97 : decode b_Z_runRows 97 = .ok (.ifCond .ne 24, 3) := by decide +kernel
theorem d_Z_runRows_100 : decode b_Z_runRows 100 = .ok (.aload_n 0, 1) := by decide +kernel
theorem d_Z_runRows_101 : decode b_Z_runRows 101 = .ok (.getfield 40, 3) := by decide +kernel
theorem d_Z_runRows_104 : decode b_Z_runRows 104 = .ok (.aload_n 0, 1) := by decide +kernel
theorem d_Z_runRows_105 : decode b_Z_runRows 105 = .ok (.getfield 16, 3) := by decide +kernel
theorem d_Z_runRows_108 : decode b_Z_runRows 108 = .ok (.iload_n 3, 1) := by decide +kernel
theorem d_Z_runRows_109 : decode b_Z_runRows 109 = .ok (.iaload, 1) := by decide +kernel
theorem d_Z_runRows_110 : decode b_Z_runRows 110 = .ok (.aload_n 0, 1) := by decide +kernel
theorem d_Z_runRows_111 : decode b_Z_runRows 111 = .ok (.getfield 19, 3) := by decide +kernel
theorem d_Z_runRows_114 : decode b_Z_runRows 114 = .ok (.iload_n 3, 1) := by decide +kernel
theorem d_Z_runRows_115 : decode b_Z_runRows 115 = .ok (.iaload, 1) := by decide +kernel
theorem d_Z_runRows_116 : decode b_Z_runRows 116 = .ok (.i2l, 1) := by decide +kernel
theorem d_Z_runRows_117 : decode b_Z_runRows 117 = .ok (.lastore, 1) := by decide +kernel
theorem d_Z_runRows_118 : decode b_Z_runRows 118 = .ok (.goto 99, 3) := by decide +kernel
theorem d_Z_runRows_121 : decode b_Z_runRows 121 = .ok (.iload 4, 2) := by decide +kernel
theorem d_Z_runRows_123 : decode b_Z_runRows 123 = .ok (.bipush 6, 2) := by decide +kernel
theorem d_Z_runRows_125 : decode b_Z_runRows 125 = .ok (.if_icmp .ne 33, 3) := by decide +kernel
theorem d_Z_runRows_128 : decode b_Z_runRows 128 = .ok (.aload_n 0, 1) := by decide +kernel
theorem d_Z_runRows_129 : decode b_Z_runRows 129 = .ok (.getfield 40, 3) := by decide +kernel
theorem d_Z_runRows_132 : decode b_Z_runRows 132 = .ok (.aload_n 0, 1) := by decide +kernel
theorem d_Z_runRows_133 : decode b_Z_runRows 133 = .ok (.getfield 16, 3) := by decide +kernel
theorem d_Z_runRows_136 : decode b_Z_runRows 136 = .ok (.iload_n 3, 1) := by decide +kernel
theorem d_Z_runRows_137 : decode b_Z_runRows 137 = .ok (.iaload, 1) := by decide +kernel
theorem d_Z_runRows_138 : decode b_Z_runRows 138 = .ok (.laload, 1) := by decide +kernel
theorem d_Z_runRows_139 : decode b_Z_runRows 139 = .ok (.lconst 0, 1) := by decide +kernel
theorem d_Z_runRows_140 : decode b_Z_runRows 140 = .ok (.lcmp, 1) := by decide +kernel
theorem d_Z_runRows_141 : decode b_Z_runRows 141 = .ok (.ifCond .eq 12, 3) := by decide +kernel
theorem d_Z_runRows_144 : decode b_Z_runRows 144 = .ok (.aload_n 0, 1) := by decide +kernel
theorem d_Z_runRows_145 : decode b_Z_runRows 145 = .ok (.getfield 19, 3) := by decide +kernel
theorem d_Z_runRows_148 : decode b_Z_runRows 148 = .ok (.iload_n 3, 1) := by decide +kernel
theorem d_Z_runRows_149 : decode b_Z_runRows 149 = .ok (.iaload, 1) := by decide +kernel
theorem d_Z_runRows_150 : decode b_Z_runRows 150 = .ok (.goto 4, 3) := by decide +kernel
theorem d_Z_runRows_153 : decode b_Z_runRows 153 = .ok (.iload_n 2, 1) := by decide +kernel
theorem d_Z_runRows_154 : decode b_Z_runRows 154 = .ok (.istore_n 2, 1) := by decide +kernel
theorem d_Z_runRows_155 : decode b_Z_runRows 155 = .ok (.goto 62, 3) := by decide +kernel
theorem d_Z_runRows_158 : decode b_Z_runRows 158 = .ok (.aload_n 0, 1) := by decide +kernel
theorem d_Z_runRows_159 : decode b_Z_runRows 159 = .ok (.getfield 40, 3) := by decide +kernel
theorem d_Z_runRows_162 : decode b_Z_runRows 162 = .ok (.aload_n 0, 1) := by decide +kernel
theorem d_Z_runRows_163 : decode b_Z_runRows 163 = .ok (.getfield 16, 3) := by decide +kernel
theorem d_Z_runRows_166 : decode b_Z_runRows 166 = .ok (.iload_n 3, 1) := by decide +kernel
theorem d_Z_runRows_167 : decode b_Z_runRows 167 = .ok (.iaload, 1) := by decide +kernel
theorem d_Z_runRows_168 : decode b_Z_runRows 168 = .ok (.iload 4, 2) := by decide +kernel
theorem d_Z_runRows_170 : decode b_Z_runRows 170 = .ok (.bipush 6, 2) := by decide +kernel
theorem d_Z_runRows_172 : decode b_Z_runRows 172 = .ok (.if_icmp .le 17, 3) := by decide +kernel
theorem d_Z_runRows_175 : decode b_Z_runRows 175 = .ok (.aload_n 0, 1) := by decide +kernel
theorem d_Z_runRows_176 : decode b_Z_runRows 176 = .ok (.getfield 40, 3) := by decide +kernel
theorem d_Z_runRows_179 : decode b_Z_runRows 179 = .ok (.aload_n 0, 1) := by decide +kernel
theorem d_Z_runRows_180 : decode b_Z_runRows 180 = .ok (.getfield 19, 3) := by decide +kernel
theorem d_Z_runRows_183 : decode b_Z_runRows 183 = .ok (.iload_n 3, 1) := by decide +kernel
theorem d_Z_runRows_184 : decode b_Z_runRows 184 = .ok (.iaload, 1) := by decide +kernel
theorem d_Z_runRows_185 : decode b_Z_runRows 185 = .ok (.laload, 1) := by decide +kernel
theorem d_Z_runRows_186 : decode b_Z_runRows 186 = .ok (.goto 30, 3) := by decide +kernel
theorem d_Z_runRows_189 : decode b_Z_runRows 189 = .ok (.iload 4, 2) := by decide +kernel
theorem d_Z_runRows_191 : decode b_Z_runRows 191 = .ok (.aload_n 0, 1) := by decide +kernel
theorem d_Z_runRows_192 : decode b_Z_runRows 192 = .ok (.getfield 40, 3) := by decide +kernel
theorem d_Z_runRows_195 : decode b_Z_runRows 195 = .ok (.aload_n 0, 1) := by decide +kernel
theorem d_Z_runRows_196 : decode b_Z_runRows 196 = .ok (.getfield 16, 3) := by decide +kernel
theorem d_Z_runRows_199 : decode b_Z_runRows 199 = .ok (.iload_n 3, 1) := by decide +kernel
theorem d_Z_runRows_200 : decode b_Z_runRows 200 = .ok (.iaload, 1) := by decide +kernel
theorem d_Z_runRows_201 : decode b_Z_runRows 201 = .ok (.laload, 1) := by decide +kernel
theorem d_Z_runRows_202 : decode b_Z_runRows 202 = .ok (.aload_n 0, 1) := by decide +kernel
theorem d_Z_runRows_203 : decode b_Z_runRows 203 = .ok (.getfield 40, 3) := by decide +kernel
theorem d_Z_runRows_206 : decode b_Z_runRows 206 = .ok (.aload_n 0, 1) := by decide +kernel
theorem d_Z_runRows_207 : decode b_Z_runRows 207 = .ok (.getfield 19, 3) := by decide +kernel
theorem d_Z_runRows_210 : decode b_Z_runRows 210 = .ok (.iload_n 3, 1) := by decide +kernel
theorem d_Z_runRows_211 : decode b_Z_runRows 211 = .ok (.iaload, 1) := by decide +kernel
theorem d_Z_runRows_212 : decode b_Z_runRows 212 = .ok (.laload, 1) := by decide +kernel
theorem d_Z_runRows_213 : decode b_Z_runRows 213 = .ok (.invokestatic 130, 3) := by decide +kernel
theorem d_Z_runRows_216 : decode b_Z_runRows 216 = .ok (.lastore, 1) := by decide +kernel
theorem d_Z_runRows_217 : decode b_Z_runRows 217 = .ok (.goto (-215), 3) := by decide +kernel
theorem d_Z_runRows_220 : decode b_Z_runRows 220 = .ok (.return_, 1) := by decide +kernel
theorem d_Z_register_0 : decode b_Z_register 0 = .ok (.aload_n 0, 1) := by decide +kernel
theorem d_Z_register_1 : decode b_Z_register 1 = .ok (.iload_n 1, 1) := by decide +kernel
theorem d_Z_register_2 : decode b_Z_register 2 = .ok (.iconst 0, 1) := by decide +kernel
theorem d_Z_register_3 : decode b_Z_register 3 = .ok (.iconst 3, 1) := by decide +kernel
theorem d_Z_register_4 : decode b_Z_register 4 = .ok (.invokestatic 63, 3) := by decide +kernel
theorem d_Z_register_7 : decode b_Z_register 7 = .ok (.ifCond .eq 7, 3) := by decide +kernel
theorem d_Z_register_10 : decode b_Z_register 10 = .ok (.iconst 0, 1) := by decide +kernel
theorem d_Z_register_11 : decode b_Z_register 11 = .ok (.goto 4, 3) := by decide +kernel
theorem d_Z_register_14 : decode b_Z_register 14 = .ok (.iconst 1, 1) := by decide +kernel
theorem d_Z_register_15 : decode b_Z_register 15 = .ok (.putfield 57, 3) := by decide +kernel
theorem d_Z_register_18 : decode b_Z_register 18 = .ok (.aload_n 0, 1) := by decide +kernel
theorem d_Z_register_19 : decode b_Z_register 19 = .ok (.getfield 57, 3) := by decide +kernel
theorem d_Z_register_22 : decode b_Z_register 22 = .ok (.ifCond .ne 12, 3) := by decide +kernel
theorem d_Z_register_25 : decode b_Z_register 25 = .ok (.aload_n 0, 1) := by decide +kernel
theorem d_Z_register_26 : decode b_Z_register 26 = .ok (.getfield 47, 3) := by decide +kernel
theorem d_Z_register_29 : decode b_Z_register 29 = .ok (.iload_n 1, 1) := by decide +kernel
theorem d_Z_register_30 : decode b_Z_register 30 = .ok (.laload, 1) := by decide +kernel
theorem d_Z_register_31 : decode b_Z_register 31 = .ok (.goto 4, 3) := by decide +kernel
theorem d_Z_register_34 : decode b_Z_register 34 = .ok (.lconst 0, 1) := by decide +kernel
theorem d_Z_register_35 : decode b_Z_register 35 = .ok (.lreturn, 1) := by decide +kernel
theorem d_Z_ended_0 : decode b_Z_ended 0 = .ok (.aload_n 0, 1) := by decide +kernel
theorem d_Z_ended_1 : decode b_Z_ended 1 = .ok (.iconst 0, 1) := by decide +kernel
theorem d_Z_ended_2 : decode b_Z_ended 2 = .ok (.putfield 57, 3) := by decide +kernel
theorem d_Z_ended_5 : decode b_Z_ended 5 = .ok (.iload_n 1, 1) := by decide +kernel
theorem d_Z_ended_6 : decode b_Z_ended 6 = .ok (.ifCond .ne 10, 3) := by decide +kernel
theorem d_Z_ended_9 : decode b_Z_ended 9 = .ok (.aload_n 0, 1) := by decide +kernel
theorem d_Z_ended_10 : decode b_Z_ended 10 = .ok (.getfield 152, 3) := by decide +kernel
theorem d_Z_ended_13 : decode b_Z_ended 13 = .ok (.goto 28, 3) := by decide +kernel
theorem d_Z_ended_16 : decode b_Z_ended 16 = .ok (.iload_n 1, 1) := by decide +kernel
theorem d_Z_ended_17 : decode b_Z_ended 17 = .ok (.iconst 1, 1) := by decide +kernel
theorem d_Z_ended_18 : decode b_Z_ended 18 = .ok (.if_icmp .ne 18, 3) := by decide +kernel
theorem d_Z_ended_21 : decode b_Z_ended 21 = .ok (.aload_n 0, 1) := by decide +kernel
theorem d_Z_ended_22 : decode b_Z_ended 22 = .ok (.getfield 141, 3) := by decide +kernel
theorem d_Z_ended_25 : decode b_Z_ended 25 = .ok (.ifCond .eq 7, 3) := by decide +kernel
theorem d_Z_ended_28 : decode b_Z_ended 28 = .ok (.iconst 1, 1) := by decide +kernel
theorem d_Z_ended_29 : decode b_Z_ended 29 = .ok (.goto 12, 3) := by decide +kernel
theorem d_Z_ended_32 : decode b_Z_ended 32 = .ok (.iconst 0, 1) := by decide +kernel
theorem d_Z_ended_33 : decode b_Z_ended 33 = .ok (.goto 8, 3) := by decide +kernel
theorem d_Z_ended_36 : decode b_Z_ended 36 = .ok (.aload_n 0, 1) := by decide +kernel
theorem d_Z_ended_37 : decode b_Z_ended 37 = .ok (.iconst 1, 1) := by decide +kernel
theorem d_Z_ended_38 : decode b_Z_ended 38 = .ok (.invokevirtual 67, 3) := by decide +kernel
theorem d_Z_ended_41 : decode b_Z_ended 41 = .ok (.ireturn, 1) := by decide +kernel
theorem d_Z_same_0 : decode b_Z_same 0 = .ok (.aload_n 0, 1) := by decide +kernel
theorem d_Z_same_1 : decode b_Z_same 1 = .ok (.iload_n 1, 1) := by decide +kernel
theorem d_Z_same_2 : decode b_Z_same 2 = .ok (.invokevirtual 71, 3) := by decide +kernel
theorem d_Z_same_5 : decode b_Z_same 5 = .ok (.ifCond .ne 5, 3) := by decide +kernel
theorem d_Z_same_8 : decode b_Z_same 8 = .ok (.iconst 0, 1) := by decide +kernel
theorem d_Z_same_9 : decode b_Z_same 9 = .ok (.ireturn, 1) := by decide +kernel
theorem d_Z_same_10 : decode b_Z_same 10 = .ok (.aload_n 0, 1) := by decide +kernel
theorem d_Z_same_11 : decode b_Z_same 11 = .ok (.getfield 22, 3) := by decide +kernel
theorem d_Z_same_14 : decode b_Z_same 14 = .ok (.iload_n 1, 1) := by decide +kernel
theorem d_Z_same_15 : decode b_Z_same 15 = .ok (.iaload, 1) := by decide +kernel
theorem d_Z_same_16 : decode b_Z_same 16 = .ok (.ifCond .eq 11, 3) := by decide +kernel
theorem d_Z_same_19 : decode b_Z_same 19 = .ok (.aload_n 0, 1) := by decide +kernel
theorem d_Z_same_20 : decode b_Z_same 20 = .ok (.iload_n 1, 1) := by decide +kernel
theorem d_Z_same_21 : decode b_Z_same 21 = .ok (.invokevirtual 114, 3) := by decide +kernel
theorem d_Z_same_24 : decode b_Z_same 24 = .ok (.ifCond .le 10, 3) := by decide +kernel
theorem d_Z_same_27 : decode b_Z_same 27 = .ok (.aload_n 0, 1) := by decide +kernel
theorem d_Z_same_28 : decode b_Z_same 28 = .ok (.iconst 2, 1) := by decide +kernel
theorem d_Z_same_29 : decode b_Z_same 29 = .ok (.putfield 57, 3) := by decide +kernel
theorem d_Z_same_32 : decode b_Z_same 32 = .ok (.iconst 0, 1) := by decide +kernel
theorem d_Z_same_33 : decode b_Z_same 33 = .ok (.ireturn, 1) := by decide +kernel
theorem d_Z_same_34 : decode b_Z_same 34 = .ok (.aload_n 0, 1) := by decide +kernel
theorem d_Z_same_35 : decode b_Z_same 35 = .ok (.lload_n 2, 1) := by decide +kernel
theorem d_Z_same_36 : decode b_Z_same 36 = .ok (.lload 4, 2) := by decide +kernel
theorem d_Z_same_38 : decode b_Z_same 38 = .ok (.invokevirtual 137, 3) := by decide +kernel
theorem d_Z_same_41 : decode b_Z_same 41 = .ok (.aload_n 0, 1) := by decide +kernel
theorem d_Z_same_42 : decode b_Z_same 42 = .ok (.iload_n 1, 1) := by decide +kernel
theorem d_Z_same_43 : decode b_Z_same 43 = .ok (.invokevirtual 149, 3) := by decide +kernel
theorem d_Z_same_46 : decode b_Z_same 46 = .ok (.aload_n 0, 1) := by decide +kernel
theorem d_Z_same_47 : decode b_Z_same 47 = .ok (.getfield 124, 3) := by decide +kernel
theorem d_Z_same_50 : decode b_Z_same 50 = .ok (.istore 6, 2) := by decide +kernel
theorem d_Z_same_52 : decode b_Z_same 52 = .ok (.aload_n 0, 1) := by decide +kernel
theorem d_Z_same_53 : decode b_Z_same 53 = .ok (.getfield 127, 3) := by decide +kernel
theorem d_Z_same_56 : decode b_Z_same 56 = .ok (.istore 7, 2) := by decide +kernel
theorem d_Z_same_58 : decode b_Z_same 58 = .ok (.iconst 0, 1) := by decide +kernel
theorem d_Z_same_59 : decode b_Z_same 59 = .ok (.istore 8, 2) := by decide +kernel
theorem d_Z_same_61 : decode b_Z_same 61 = .ok (.iload 8, 2) := by decide +kernel
theorem d_Z_same_63 : decode b_Z_same 63 = .ok (.iconst 4, 1) := by decide +kernel
theorem d_Z_same_64 : decode b_Z_same 64 = .ok (.if_icmp .ge 23, 3) := by decide +kernel
theorem d_Z_same_67 : decode b_Z_same 67 = .ok (.aload_n 0, 1) := by decide +kernel
theorem d_Z_same_68 : decode b_Z_same 68 = .ok (.getfield 50, 3) := by decide +kernel
theorem d_Z_same_71 : decode b_Z_same 71 = .ok (.iload 8, 2) := by decide +kernel
theorem d_Z_same_73 : decode b_Z_same 73 = .ok (.aload_n 0, 1) := by decide +kernel
theorem d_Z_same_74 : decode b_Z_same 74 = .ok (.getfield 40, 3) := by decide +kernel
theorem d_Z_same_77 : decode b_Z_same 77 = .ok (.iload 8, 2) := by decide +kernel
theorem d_Z_same_79 : decode b_Z_same 79 = .ok (.laload, 1) := by decide +kernel
theorem d_Z_same_80 : decode b_Z_same 80 = .ok (.lastore, 1) := by decide +kernel
theorem d_Z_same_81 : decode b_Z_same 81 = .ok (.iinc 8 1, 3) := by decide +kernel
theorem d_Z_same_84 : decode b_Z_same 84 = .ok (.goto (-23), 3) := by decide +kernel
theorem d_Z_same_87 : decode b_Z_same 87 = .ok (.aload_n 0, 1) := by decide +kernel
theorem d_Z_same_88 : decode b_Z_same 88 = .ok (.lload_n 2, 1) := by decide +kernel
theorem d_Z_same_89 : decode b_Z_same 89 = .ok (.lload 4, 2) := by decide +kernel
theorem d_Z_same_91 : decode b_Z_same 91 = .ok (.invokevirtual 137, 3) := by decide +kernel
theorem d_Z_same_94 : decode b_Z_same 94 = .ok (.aload_n 0, 1) := by decide +kernel
theorem d_Z_same_95 : decode b_Z_same 95 = .ok (.iload_n 1, 1) := by decide +kernel
theorem d_Z_same_96 : decode b_Z_same 96 = .ok (.invokevirtual 145, 3) := by decide +kernel
theorem d_Z_same_99 : decode b_Z_same 99 = .ok (.aload_n 0, 1) := by decide +kernel
theorem d_Z_same_100 : decode b_Z_same 100 = .ok (.getfield 124, 3) := by decide +kernel
theorem d_Z_same_103 : decode b_Z_same 103 = .ok (.iload 6, 2) := by decide +kernel
theorem d_Z_same_105 : decode b_Z_same 105 = .ok (.if_icmp .ne 16, 3) := by decide +kernel
theorem d_Z_same_108 : decode b_Z_same 108 = .ok (.aload_n 0, 1) := by decide +kernel
theorem d_Z_same_109 : decode b_Z_same 109 = .ok (.getfield 127, 3) := by decide +kernel
theorem d_Z_same_112 : decode b_Z_same 112 = .ok (.iload 7, 2) := by decide +kernel
theorem d_Z_same_114 : decode b_Z_same 114 = .ok (.if_icmp .ne 7, 3) := by decide +kernel
theorem d_Z_same_117 : decode b_Z_same 117 = .ok (.iconst 1, 1) := by decide +kernel
theorem d_Z_same_118 : decode b_Z_same 118 = .ok (.goto 4, 3) := by decide +kernel
theorem d_Z_same_121 : decode b_Z_same 121 = .ok (.iconst 0, 1) := by decide +kernel
theorem d_Z_same_122 : decode b_Z_same 122 = .ok (.istore 8, 2) := by decide +kernel
theorem d_Z_same_124 : decode b_Z_same 124 = .ok (.iconst 0, 1) := by decide +kernel
theorem d_Z_same_125 : decode b_Z_same 125 = .ok (.istore 9, 2) := by decide +kernel
theorem d_Z_same_127 : decode b_Z_same 127 = .ok (.iload 9, 2) := by decide +kernel
theorem d_Z_same_129 : decode b_Z_same 129 = .ok (.iconst 4, 1) := by decide +kernel
theorem d_Z_same_130 : decode b_Z_same 130 = .ok (.if_icmp .ge 39, 3) := by decide +kernel
theorem d_Z_same_133 : decode b_Z_same 133 = .ok (.iload 8, 2) := by decide +kernel
theorem d_Z_same_135 : decode b_Z_same 135 = .ok (.ifCond .eq 25, 3) := by decide +kernel
theorem d_Z_same_138 : decode b_Z_same 138 = .ok (.aload_n 0, 1) := by decide +kernel
theorem d_Z_same_139 : decode b_Z_same 139 = .ok (.getfield 50, 3) := by decide +kernel
theorem d_Z_same_142 : decode b_Z_same 142 = .ok (.iload 9, 2) := by decide +kernel
theorem d_Z_same_144 : decode b_Z_same 144 = .ok (.laload, 1) := by decide +kernel
theorem d_Z_same_145 : decode b_Z_same 145 = .ok (.aload_n 0, 1) := by decide +kernel
theorem d_Z_same_146 : decode b_Z_same 146 = .ok (.getfield 40, 3) := by decide +kernel
theorem d_Z_same_149 : decode b_Z_same 149 = .ok (.iload 9, 2) := by decide +kernel
theorem d_Z_same_151 : decode b_Z_same 151 = .ok (.laload, 1) := by decide +kernel
theorem d_Z_same_152 : decode b_Z_same 152 = .ok (.lcmp, 1) := by decide +kernel
theorem d_Z_same_153 : decode b_Z_same 153 = .ok (.ifCond .ne 7, 3) := by decide +kernel
theorem d_Z_same_156 : decode b_Z_same 156 = .ok (.iconst 1, 1) := by decide +kernel
theorem d_Z_same_157 : decode b_Z_same 157 = .ok (.goto 4, 3) := by decide +kernel
theorem d_Z_same_160 : decode b_Z_same 160 = .ok (.iconst 0, 1) := by decide +kernel
theorem d_Z_same_161 : decode b_Z_same 161 = .ok (.istore 8, 2) := by decide +kernel
theorem d_Z_same_163 : decode b_Z_same 163 = .ok (.iinc 9 1, 3) := by decide +kernel
theorem d_Z_same_166 : decode b_Z_same 166 = .ok (.goto (-39), 3) := by decide +kernel
theorem d_Z_same_169 : decode b_Z_same 169 = .ok (.iload 8, 2) := by decide +kernel
theorem d_Z_same_171 : decode b_Z_same 171 = .ok (.ireturn, 1) := by decide +kernel
theorem d_Z_count_0 : decode b_Z_count 0 = .ok (.aload_n 0, 1) := by decide +kernel
theorem d_Z_count_1 : decode b_Z_count 1 = .ok (.iconst 0, 1) := by decide +kernel
theorem d_Z_count_2 : decode b_Z_count 2 = .ok (.putfield 57, 3) := by decide +kernel
theorem d_Z_count_5 : decode b_Z_count 5 = .ok (.iconst 0, 1) := by decide +kernel
theorem d_Z_count_6 : decode b_Z_count 6 = .ok (.istore_n 2, 1) := by decide +kernel
theorem d_Z_count_7 : decode b_Z_count 7 = .ok (.iconst 0, 1) := by decide +kernel
theorem d_Z_count_8 : decode b_Z_count 8 = .ok (.istore_n 3, 1) := by decide +kernel
theorem d_Z_count_9 : decode b_Z_count 9 = .ok (.iconst 0, 1) := by decide +kernel
theorem d_Z_count_10 : decode b_Z_count 10 = .ok (.istore 4, 2) := by decide +kernel
theorem d_Z_count_12 : decode b_Z_count 12 = .ok (.iload 4, 2) := by decide +kernel
theorem d_Z_count_14 : decode b_Z_count 14 = .ok (.aload_n 0, 1) := by decide +kernel
theorem d_Z_count_15 : decode b_Z_count 15 = .ok (.getfield 60, 3) := by decide +kernel
theorem d_Z_count_18 : decode b_Z_count 18 = .ok (.if_icmp .ge 47, 3) := by decide +kernel
theorem d_Z_count_21 : decode b_Z_count 21 = .ok (.iload_n 2, 1) := by decide +kernel
theorem d_Z_count_22 : decode b_Z_count 22 = .ok (.aload_n 0, 1) := by decide +kernel
theorem d_Z_count_23 : decode b_Z_count 23 = .ok (.getfield 22, 3) := by decide +kernel
theorem d_Z_count_26 : decode b_Z_count 26 = .ok (.iload 4, 2) := by decide +kernel
theorem d_Z_count_28 : decode b_Z_count 28 = .ok (.iaload, 1) := by decide +kernel
theorem d_Z_count_29 : decode b_Z_count 29 = .ok (.iconst 2, 1) := by decide +kernel
theorem d_Z_count_30 : decode b_Z_count 30 = .ok (.if_icmp .ne 7, 3) := by decide +kernel
theorem d_Z_count_33 : decode b_Z_count 33 = .ok (.iconst 1, 1) := by decide +kernel
theorem d_Z_count_34 : decode b_Z_count 34 = .ok (.goto 4, 3) := by decide +kernel
theorem d_Z_count_37 : decode b_Z_count 37 = .ok (.iconst 0, 1) := by decide +kernel
theorem d_Z_count_38 : decode b_Z_count 38 = .ok (.iadd, 1) := by decide +kernel
theorem d_Z_count_39 : decode b_Z_count 39 = .ok (.istore_n 2, 1) := by decide +kernel
theorem d_Z_count_40 : decode b_Z_count 40 = .ok (.iload_n 3, 1) := by decide +kernel
theorem d_Z_count_41 : decode b_Z_count 41 = .ok (.aload_n 0, 1) := by decide +kernel
theorem d_Z_count_42 : decode b_Z_count 42 = .ok (.getfield 22, 3) := by decide +kernel
theorem d_Z_count_45 : decode b_Z_count 45 = .ok (.iload 4, 2) := by decide +kernel
theorem d_Z_count_47 : decode b_Z_count 47 = .ok (.iaload, 1) := by decide +kernel
theorem d_Z_count_48 : decode b_Z_count 48 = .ok (.iconst 1, 1) := by decide +kernel
theorem d_Z_count_49 : decode b_Z_count 49 = .ok (.if_icmp .ne 7, 3) := by decide +kernel
theorem d_Z_count_52 : decode b_Z_count 52 = .ok (.iconst 1, 1) := by decide +kernel
theorem d_Z_count_53 : decode b_Z_count 53 = .ok (.goto 4, 3) := by decide +kernel
theorem d_Z_count_56 : decode b_Z_count 56 = .ok (.iconst 0, 1) := by decide +kernel
theorem d_Z_count_57 : decode b_Z_count 57 = .ok (.iadd, 1) := by decide +kernel
theorem d_Z_count_58 : decode b_Z_count 58 = .ok (.istore_n 3, 1) := by decide +kernel
theorem d_Z_count_59 : decode b_Z_count 59 = .ok (.iinc 4 1, 3) := by decide +kernel
theorem d_Z_count_62 : decode b_Z_count 62 = .ok (.goto (-50), 3) := by decide +kernel
theorem d_Z_count_65 : decode b_Z_count 65 = .ok (.iload_n 1, 1) := by decide +kernel
theorem d_Z_count_66 : decode b_Z_count 66 = .ok (.tableswitch 89 0 8 #[50, 55, 60, 65, 67, 69, 74, 79, 84], 50) := by decide +kernel
theorem d_Z_count_116 : decode b_Z_count 116 = .ok (.aload_n 0, 1) := by decide +kernel
theorem d_Z_count_117 : decode b_Z_count 117 = .ok (.getfield 60, 3) := by decide +kernel
theorem d_Z_count_120 : decode b_Z_count 120 = .ok (.ireturn, 1) := by decide +kernel
theorem d_Z_count_121 : decode b_Z_count 121 = .ok (.aload_n 0, 1) := by decide +kernel
theorem d_Z_count_122 : decode b_Z_count 122 = .ok (.getfield 96, 3) := by decide +kernel
theorem d_Z_count_125 : decode b_Z_count 125 = .ok (.ireturn, 1) := by decide +kernel
theorem d_Z_count_126 : decode b_Z_count 126 = .ok (.aload_n 0, 1) := by decide +kernel
theorem d_Z_count_127 : decode b_Z_count 127 = .ok (.invokevirtual 120, 3) := by decide +kernel
theorem d_Z_count_130 : decode b_Z_count 130 = .ok (.ireturn, 1) := by decide +kernel
theorem d_Z_count_131 : decode b_Z_count 131 = .ok (.iload_n 2, 1) := by decide +kernel
theorem d_Z_count_132 : decode b_Z_count 132 = .ok (.ireturn, 1) := by decide +kernel
theorem d_Z_count_133 : decode b_Z_count 133 = .ok (.iload_n 3, 1) := by decide +kernel
theorem d_Z_count_134 : decode b_Z_count 134 = .ok (.ireturn, 1) := by decide +kernel
theorem d_Z_count_135 : decode b_Z_count 135 = .ok (.aload_n 0, 1) := by decide +kernel
theorem d_Z_count_136 : decode b_Z_count 136 = .ok (.getfield 117, 3) := by decide +kernel
theorem d_Z_count_139 : decode b_Z_count 139 = .ok (.ireturn, 1) := by decide +kernel
theorem d_Z_count_140 : decode b_Z_count 140 = .ok (.aload_n 0, 1) := by decide +kernel
theorem d_Z_count_141 : decode b_Z_count 141 = .ok (.getfield 155, 3) := by decide +kernel
theorem d_Z_count_144 : decode b_Z_count 144 = .ok (.ireturn, 1) := by decide +kernel
theorem d_Z_count_145 : decode b_Z_count 145 = .ok (.aload_n 0, 1) := by decide +kernel
theorem d_Z_count_146 : decode b_Z_count 146 = .ok (.getfield 158, 3) := by decide +kernel
theorem d_Z_count_149 : decode b_Z_count 149 = .ok (.ireturn, 1) := by decide +kernel
theorem d_Z_count_150 : decode b_Z_count 150 = .ok (.aload_n 0, 1) := by decide +kernel
theorem d_Z_count_151 : decode b_Z_count 151 = .ok (.getfield 53, 3) := by decide +kernel
theorem d_Z_count_154 : decode b_Z_count 154 = .ok (.ireturn, 1) := by decide +kernel
theorem d_Z_count_155 : decode b_Z_count 155 = .ok (.iconst (-1), 1) := by decide +kernel
theorem d_Z_count_156 : decode b_Z_count 156 = .ok (.ireturn, 1) := by decide +kernel
end
section
/-! the class's own functions, as its code has them, over the machine's numbers -/
abbrev Fn : Type := Nat → Int32
abbrev FL : Type := Nat → Int64
def isReg (r : Int32) : Int32 := if r < 0 then 0 else if 4 ≤ r then 0 else 1
def isOpnd (op b : Int32) : Int32 := if op = 0 then 1 else if op = 6 then (if b < 0 then 0 else if 60 < b then 0 else 1) else isReg b
def lenOf (c : Int32) : Int32 := if c = 1 then 2 else if c = 2 then 2 else if c = 3 then 5 else if c = 4 then 1 else if c = 5 then 1 else if c = 6 then 1 else if c = 7 then 1 else if c = 8 then 1 else if c = 9 then 3 else if c = 10 then 1 else if c = 16 then 2 else 0
def fitsB (n : Int32) : Int32 := if n < (-128) then 0 else if 127 < n then 0 else 1
def bytesF (op b : Int32) : Int32 := if op = 0 then (if fitsB b = 0 then lenOf 3 + lenOf 2 else lenOf 16 + lenOf 2) else if op = 6 then lenOf 1 + lenOf 9 else if op = 7 then lenOf 1 + lenOf 2 else 2 * lenOf 1 + lenOf (op + 3) + lenOf 2
def takenF (c : Int32) : Int32 := if c = 2 then 1 else if c = 4 then 2 else if c = 5 then 2 else if c = 6 then 2 else if c = 7 then 2 else if c = 8 then 2 else if c = 9 then 1 else 0
def addedF (c : Int32) : Int32 := if c = 2 then 0 else if c = 9 then 0 else if c = 10 then 0 else 1
def workedF (op : Int32) (x y : Int64) : Int64 := if op = 1 then x + y else if op = 2 then x - y else if op = 3 then x * y else if op = 4 then (if lg_cmp y 0 = 0 then 0 else x / y) else if op = 5 then (if 0 ≤ lg_cmp x y then 0 else 1) else 0
/-! a block's bytes: the row and how many -/
abbrev By : Type := Fn × Int32
def apF (v : Int32) (s : By) : By := if 300 ≤ s.2 then s else (upd s.1 s.2.toNatClampNeg (v &&& 255), s.2 + 1)
def wrR (c r : Int32) (s : By) : By := apF r (apF c s)
def wrP (n : Int32) (s : By) : By := if fitsB n = 0 then apF n (apF (n >>> ((8 : Int32) &&& 31)) (apF (n >>> ((16 : Int32) &&& 31)) (apF (n >>> ((24 : Int32) &&& 31)) (apF 3 s)))) else apF n (apF 16 s)
def wrB (g : Int32) (s : By) : By := apF g (apF (g >>> ((8 : Int32) &&& 31)) (apF 9 s))
def minF (x y : Int32) : Int32 := if y < x then y else x
def maxF (x y : Int32) : Int32 := if x < y then y else x
def stIx (ic i : Int32) : Int32 := maxF 0 (minF i ic)
def startF (t : Fn) (ic i : Int32) : Int32 := if 61 ≤ stIx ic i then 0 else t (stIx ic i).toNatClampNeg
def canF (t : Fn) (ic : Int32) : Int32 := if 300 < startF t ic ic + lenOf 10 then 0 else 1
def wrI (t : Fn) (ic op a b : Int32) (s : By) : By := if op = 0 then wrR 2 a (wrP b s) else if op = 6 then wrB (startF t ic b) (wrR 1 a s) else if op = 7 then wrR 2 a (wrR 1 b s) else wrR 2 a (apF (op + 3) (wrR 1 b (wrR 1 a s)))
def wrL (o f e t : Fn) (ic : Int32) : Nat → Int32 → By → By
  | 0, _, s => s
  | n + 1, i, s => if ic ≤ i then s else if 60 ≤ i then s else wrL o f e t ic n (i + 1) (wrI t ic (o i.toNatClampNeg) (f i.toNatClampNeg) (e i.toNatClampNeg) s)
def wrA (o f e t : Fn) (ic : Int32) (b : Fn) : By := apF 10 (wrL o f e t ic 61 0 (b, 0))
def hasF (bc i : Int32) : Int32 := if i < 0 then 0 else if bc ≤ i then 0 else if 300 ≤ i then 0 else 1
def rdF (b : Fn) (bc i : Int32) : Int32 := if hasF bc i = 0 then 0 else b i.toNatClampNeg
def rd2F (b : Fn) (bc i : Int32) : Int32 := rdF b bc i <<< ((8 : Int32) &&& 31) ||| rdF b bc (i + 1)
def rd4F (b : Fn) (bc i : Int32) : Int32 := rd2F b bc i <<< ((16 : Int32) &&& 31) ||| rd2F b bc (i + 2)
def ovF (b : Fn) (bc i v : Int32) : Fn := if hasF bc i = 0 then b else upd b i.toNatClampNeg v
/-! the checker -/
def wholeF (b : Fn) (bc at' c : Int32) : Int32 := if at' + lenOf c ≤ bc then (if c = 1 then (if isReg (rdF b bc (at' + 1)) = 0 then 0 else 1) else if c = 2 then (if isReg (rdF b bc (at' + 1)) = 0 then 0 else 1) else 1) else 0
def endF (bc at' dp : Int32) : Int32 := if dp = 0 then (if bc ≤ at' + 1 then 0 else 1 + (at' + 1)) else 1 + at'
def vcL (b : Fn) (bc : Int32) : Nat → Int32 → Int32 → Fn → Int32 × Fn
  | 0, _, _, d => (0, d)
  | n + 1, at', dp, d =>
    if bc ≤ at' then (1 + bc, d) else if 300 ≤ at' then (1 + bc, d) else
    if lenOf (rdF b bc at') < 1 then (1 + at', d) else if wholeF b bc at' (rdF b bc at') = 0 then (1 + at', d) else
    if takenF (rdF b bc at') ≤ dp then
      if rdF b bc at' = 10 then (endF bc at' dp, upd d at'.toNatClampNeg dp)
      else if dp - takenF (rdF b bc at') + addedF (rdF b bc at') ≤ 4 then vcL b bc n (at' + lenOf (rdF b bc at')) (dp - takenF (rdF b bc at') + addedF (rdF b bc at')) (upd d at'.toNatClampNeg dp)
      else (1 + at', upd d at'.toNatClampNeg dp)
    else (1 + at', d)
def goalF (d : Fn) (i : Int32) : Int32 := if i < 0 then 0 else if 300 ≤ i then 0 else if d i.toNatClampNeg = 0 then 1 else 0
def vbL (b : Fn) (bc : Int32) (d : Fn) : Nat → Int32 → Int32
  | 0, _ => 0
  | n + 1, i => if bc ≤ i then 0 else if 300 ≤ i then 0 else
    if d i.toNatClampNeg = (-1) then vbL b bc d n (i + 1) else if rdF b bc i = 9 then
      (if d i.toNatClampNeg = takenF 9 then (if goalF d (rd2F b bc (i + 1)) = 0 then 1 + i else vbL b bc d n (i + 1)) else 1 + i)
    else vbL b bc d n (i + 1)
def vcF (b : Fn) (bc : Int32) : Int32 × Fn := vcL b bc 305 0 0 (fun _ => -1)
def vdF (b : Fn) (bc : Int32) : Int32 := if (vcF b bc).1 = 0 then vbL b bc (vcF b bc).2 301 0 else (vcF b bc).1
/-! the runner: registers, pile, height, steps -/
def ldF (g : FL) (r : Int32) : Int64 := if isReg r = 0 then 0 else g r.toNatClampNeg
def stF (g : FL) (r : Int32) (v : Int64) : FL := if isReg r = 0 then g else vp_updL g r.toNatClampNeg v
abbrev Pi : Type := FL × Int32
def puF (v : Int64) (s : Pi) : Pi := if 4 ≤ s.2 then s else (vp_updL s.1 s.2.toNatClampNeg v, s.2 + 1)
def poV (s : Pi) : Int64 := if 1 ≤ s.2 then s.1 (s.2 - 1).toNatClampNeg else 0
def poH (s : Pi) : Int32 := if 1 ≤ s.2 then s.2 - 1 else s.2
def poF (s : Pi) : Pi := (s.1, poH s)
def tzF (s : Pi) : Int32 := if s.2 ≤ 0 then 0 else if lg_cmp (s.1 (s.2 - 1).toNatClampNeg) 0 = 0 then 1 else 0
def woF (op : Int32) (s : Pi) : Pi := puF (workedF op (poV (poF s)) (poV s)) (poF (poF s))
def begR (x y : Int64) : FL := vp_updL (vp_updL (fun _ => 0) 0 x) 1 y
def resF (g : FL) (op a b : Int32) : Int64 := if op = 0 then b.toInt64 else if op = 7 then ldF g b else workedF op (ldF g a) (ldF g b)
/-- rows: (registers, steps, ending) -/
def roL (o f e : Fn) (sz : Int32) : Nat → Int32 → FL → Int32 → FL × Int32 × Int32
  | 0, _, g, st => (g, st, 0)
  | n + 1, at', g, st =>
    if 2000 ≤ st then (g, st, if sz ≤ at' then 0 else 2) else if at' < 0 then (g, st, if sz ≤ at' then 0 else 2) else if sz ≤ at' then (g, st, if sz ≤ at' then 0 else 2) else
    if o at'.toNatClampNeg = 4 then
      if lg_cmp (ldF g (e at'.toNatClampNeg)) 0 = 0 then (g, st, 1) else
      if o at'.toNatClampNeg = 6 then roL o f e sz n (if lg_cmp (ldF g (f at'.toNatClampNeg)) 0 = 0 then at' + 1 else e at'.toNatClampNeg) g (st + 1)
      else roL o f e sz n (at' + 1) (stF g (f at'.toNatClampNeg) (resF g (o at'.toNatClampNeg) (f at'.toNatClampNeg) (e at'.toNatClampNeg))) (st + 1)
    else if o at'.toNatClampNeg = 6 then roL o f e sz n (if lg_cmp (ldF g (f at'.toNatClampNeg)) 0 = 0 then at' + 1 else e at'.toNatClampNeg) g (st + 1)
    else roL o f e sz n (at' + 1) (stF g (f at'.toNatClampNeg) (resF g (o at'.toNatClampNeg) (f at'.toNatClampNeg) (e at'.toNatClampNeg))) (st + 1)
def roF (o f e : Fn) (ic : Int32) (x y : Int64) : FL × Int32 × Int32 := roL o f e (minF ic 60) 2001 0 (begR x y) 0
/-- one code: (where next, registers, pile, steps) -/
def foF (b : Fn) (bc at' c : Int32) (g : FL) (s : Pi) (st : Int32) : Int32 × FL × Pi × Int32 :=
  if c = 1 then (at' + lenOf c, g, puF (ldF g (rdF b bc (at' + 1))) s, st)
  else if c = 2 then (at' + lenOf c, stF g (rdF b bc (at' + 1)) (poV s), poF s, st + 1)
  else if c = 3 then (at' + lenOf c, g, puF (rd4F b bc (at' + 1)).toInt64 s, st)
  else if c = 9 then (if lg_cmp (poV s) 0 = 0 then at' + lenOf c else rd2F b bc (at' + 1), g, poF s, st + 1)
  else if c = 16 then (at' + lenOf c, g, puF (rdF b bc (at' + 1)).toInt8.toInt32.toInt64 s, st)
  else (at' + lenOf c, g, woF (c - 3) s, st)
/-- bytes: (registers, pile, steps, ending); k: codes done -/
def byL (b : Fn) (bc : Int32) : Nat → Int32 → Int32 → FL → Pi → Int32 → FL × Pi × Int32 × Int32
  | 0, _, _, g, s, st => (g, s, st, 2)
  | n + 1, k, at', g, s, st =>
    if 600300 ≤ k then (g, s, st, 2) else
    if rdF b bc at' = 10 then (g, s, st, 0) else if st < 2000 then
      if rdF b bc at' = 7 then
        if tzF s = 0 then byL b bc n (k + 1) (foF b bc at' (rdF b bc at') g s st).1 (foF b bc at' (rdF b bc at') g s st).2.1 (foF b bc at' (rdF b bc at') g s st).2.2.1 (foF b bc at' (rdF b bc at') g s st).2.2.2
        else (g, s, st, 1)
      else byL b bc n (k + 1) (foF b bc at' (rdF b bc at') g s st).1 (foF b bc at' (rdF b bc at') g s st).2.1 (foF b bc at' (rdF b bc at') g s st).2.2.1 (foF b bc at' (rdF b bc at') g s st).2.2.2
    else (g, s, st, 2)
def byF (b : Fn) (bc : Int32) (x y : Int64) (pl : FL) : FL × Pi × Int32 × Int32 := byL b bc 600301 0 0 (begR x y) (pl, 0) 0
/-- whether two runners did the same -/
def didL (g g2 : FL) (sp sp2 en en2 : Int32) : Nat → Int32 → Int32
  | 0, _ => 0
  | n + 1, i => if 4 ≤ i then (if sp = sp2 then (if en = en2 then 1 else 0) else 0) else if lg_cmp (g i.toNatClampNeg) (g2 i.toNatClampNeg) = 0 then didL g g2 sp sp2 en en2 n (i + 1) else 0
end
section
/-! worlds by membership; parts that change places -/
theorem P_iff {D : va_G} {cl : List vw_C} {w : va_W} {H : Heap} : va_P D cl w H ↔ ∀ q ∈ w, va_at D cl q H :=
  ⟨fun h q hq => by obtain ⟨k, hk⟩ := List.mem_iff_getElem?.mp hq; exact h k q hk, fun h k q hk => h q (List.mem_of_getElem? hk)⟩
theorem P_perm {D : va_G} {cl : List vw_C} {w w' : va_W} {H : Heap} (hp : w.Perm w') (h : va_P D cl w H) : va_P D cl w' H := P_iff.mpr fun q hq => P_iff.mp h q (hp.mem_iff.mpr hq)
theorem P_app {D : va_G} {cl : List vw_C} {a b : va_W} {H : Heap} : va_P D cl (a ++ b) H ↔ va_P D cl a H ∧ va_P D cl b H := by
  simp only [P_iff, List.mem_append]
  exact ⟨fun h => ⟨fun q hq => h q (Or.inl hq), fun q hq => h q (Or.inr hq)⟩, fun h q hq => hq.elim (h.1 q) (h.2 q)⟩
theorem D_iff {A : Nat → Prop} {w : va_W} : va_D A w ↔ (w.map (fun q => q.1)).Nodup ∧ ∀ q ∈ w, A q.1 := by
  constructor
  · intro h
    refine ⟨?_, fun q hq => by obtain ⟨k, hk⟩ := List.mem_iff_getElem?.mp hq; exact h.2 k q hk⟩
    rw [List.Nodup, List.pairwise_map, List.pairwise_iff_getElem]
    intro i j hi hj hij e
    have := h.1 i j _ _ (List.getElem?_eq_getElem hi) (List.getElem?_eq_getElem hj) e
    omega
  · intro h
    refine ⟨fun i j p q hp hq e => ?_, fun k q hk => h.2 q (List.mem_of_getElem? hk)⟩
    have h1 := h.1
    rw [List.Nodup, List.pairwise_map, List.pairwise_iff_getElem] at h1
    obtain ⟨hi, ep⟩ := List.getElem?_eq_some_iff.mp hp
    obtain ⟨hj, eq⟩ := List.getElem?_eq_some_iff.mp hq
    rcases Nat.lt_trichotomy i j with hh | hh | hh
    · exact absurd (by rw [ep, eq]; exact e) (h1 i j hi hj hh)
    · exact hh
    · exact absurd (by rw [ep, eq]; exact e.symm) (h1 j i hj hi hh)
theorem D_perm {A : Nat → Prop} {w w' : va_W} (hp : w.Perm w') (h : va_D A w) : va_D A w' := by
  obtain ⟨h1, h2⟩ := D_iff.mp h
  exact D_iff.mpr ⟨(hp.map _).nodup_iff.mp h1, fun q hq => h2 q (hp.mem_iff.mpr hq)⟩
theorem P_sw {D : va_G} {cl : List vw_C} {a b c : va_W} {H : Heap} (h : va_P D cl (a ++ (b ++ c)) H) : va_P D cl (b ++ (a ++ c)) H := P_perm (List.perm_append_comm_assoc a b c) h
theorem P_sw1 {D : va_G} {cl : List vw_C} {x a b c : va_W} {H : Heap} (h : va_P D cl (x ++ (a ++ (b ++ c))) H) : va_P D cl (x ++ (b ++ (a ++ c))) H := P_perm ((List.perm_append_comm_assoc a b c).append_left x) h
theorem D_sw1 {A : Nat → Prop} {x a b c : va_W} (h : va_D A (x ++ (a ++ (b ++ c)))) : va_D A (x ++ (b ++ (a ++ c))) := D_perm ((List.perm_append_comm_assoc a b c).append_left x) h
theorem D_sw {A : Nat → Prop} {a b c : va_W} (h : va_D A (a ++ (b ++ c))) : va_D A (b ++ (a ++ c)) := D_perm (List.perm_append_comm_assoc a b c) h
/-! an index looked at before it is used -/
theorem P_nil {D : va_G} {cl : List vw_C} {H : Heap} : va_P D cl [] H := fun k q h => by simp at h
theorem in_of {x N : Int32} {n : Nat} (hN : N.toInt = n) (h0 : ¬ x < 0) (h1 : ¬ N ≤ x) : vp_in x n := by
  rw [Int32.lt_iff_toInt_lt, Int32.toInt_zero] at h0
  rw [Int32.le_iff_toInt_le, hN] at h1
  exact vp_in_iff.mpr ⟨by omega, by omega⟩
/-! what all contracts rest on: the classes, the rows' classes, the nest's words -/
theorem nw_warm {s U : State} (hW : s.WarmedH U.vm) {w : Cond} (h : nw_ok w = true) (hz : va_Nw w s) : va_Nw w U := by
  cases w <;> first | exact va_Nw.warmF hW hz | exact va_Nw.warmM hW hz | exact va_Nw.warmC hW hz | exact va_Nw.warmD hW hz | (simp [nw_ok] at h; done)
theorem nw_same {s U : State} (hv : s.vm = U.vm) {w : Cond} (h : nw_ok w = true) (hz : va_Nw w s) : va_Nw w U := by
  cases w <;> first | (simp [nw_ok] at h; done) | exact va_Nw.same rfl hv hz
def NW (U : State) : Prop := ∀ w ∈ nw_l, va_Nw w U
theorem nw_all : ∀ w ∈ nw_l, nw_ok w = true := fun w h => (List.mem_filter.mp h).2
abbrev TYS (cI cL cO : ClassId) : List (ClassId × FieldType) := [(cI, .int), (cL, .long), (cO, .object "java/lang/Object")]
def KW (D : va_G) (cI cL cO : ClassId) (U : State) : Prop := va_K D vwCl (TYS cI cL cO) U ∧ NW U
theorem KW.warm {D : va_G} {cI cL cO : ClassId} {s U : State} (h : KW D cI cL cO s) (hW : s.WarmedH U.vm) : KW D cI cL cO U := ⟨va_K.moved hW.alike h.1, fun w hw => nw_warm hW (nw_all w hw) (h.2 w hw)⟩
theorem KW.calling {D : va_G} {cI cL cO : ClassId} {U : State} (h : KW D cI cL cO U) (g : JFrame) (mk : MethodId) (a : Array Value) : KW D cI cL cO (U.calling g mk a) := ⟨va_K.moved (u := U) (U := U.calling g mk a) (Vm.Alike.refl U.vm) h.1, fun w hw => nw_same (s := U) (U := U.calling g mk a) rfl (nw_all w hw) (h.2 w hw)⟩
/-! contracts that only read: R; that change their world: M -/
def PR (D : va_G) (cI cL cO : ClassId) (av : List Value) (w0 : va_W) : Array Value → State → Prop := va_Pc av (fun U => va_P D vwCl w0 U.heap ∧ KW D cI cL cO U)
theorem PR.bl {D : va_G} {cI cL cO : ClassId} {av : List Value} {w0 : va_W} : FrameBlind (PR D cI cL cO av w0) := fun a U g mk q => ⟨q.1, q.2.1, q.2.2.calling g mk a⟩
theorem PR.pre {D : va_G} {cI cL cO : ClassId} {av : List Value} {w0 : va_W} {s : State} {H : Heap} (hP : va_P D vwCl w0 H) (hK : KW D cI cL cO s) (U : State) (hU : U.heap = H) (hW : s.WarmedH U.vm) : PR D cI cL cO av w0 av.toArray U := ⟨rfl, by rw [hU]; exact hP, hK.warm hW⟩
abbrev NoF : Addr → Prop := fun _ => False
abbrev CRi (l : Launch) (y : MethodName) (ws : List Cond) (rm : Room) (D : va_G) (cI cL cO : ClassId) (av : List Value) (w0 : va_W) (v : Int32) : Prop := Met l y ws rm (PR D cI cL cO av w0) (vp_Si (fun r => r = v)) 0 0 NoF
abbrev CRl (l : Launch) (y : MethodName) (ws : List Cond) (rm : Room) (D : va_G) (cI cL cO : ClassId) (av : List Value) (w0 : va_W) (v : Int64) : Prop := Met l y ws rm (PR D cI cL cO av w0) (vp_Sl (fun r => r = v)) 0 0 NoF
theorem ofR {l : Launch} {y : MethodName} {ws ws' : List Cond} {rm : Room} {D : va_G} {cI cL cO : ClassId} {av : List Value} {w0 : va_W} {Qc : Array Value → State → Outcome → State → Prop} {cc : ByteArray} {maxL : Nat} {ret : Option FieldType}
    (hy : plainName y.cls = true) (hw : ws = Cond.code y cc maxL ret :: ws') (hn : (lg_sl av).length ≤ maxL)
    (body : ∀ (p : Program) (e : Env) (s : State) (m : MethodId) (below : List Frame) (meth : Method) (c : Code) (ls : Array Slot) (Q : State → Prop), Q = MQ below Qc av.toArray s 0 0 NoF → p.tables.exec = Jvm.exec → c.code = cc → meth.sig.returnType = ret → meth.locks = false → (∀ w ∈ ws, w.before av.toArray s = true) → s.vm.findClass y.cls = some m.cls → c.maxLocals = maxL → va_P D vwCl w0 s.heap → KW D cI cL cO s → lv_has ls maxL (lv_args 0 av) →
      W p l e rm s m av.toArray below meth c s.heap [] 0 0 Q (F0 m 0 ls [])) : Met l y ws rm (PR D cI cL cO av w0) Qc 0 0 NoF := by
  refine Met.ofW (cc := cc) (maxL := maxL) (ret := ret) hy hw ?_
  intro p e s m args below meth c s₁ B hml hv
  obtain ⟨rfl, hP, hK⟩ := hv
  have hl := lv_entry av (n := maxL) hn
  rw [lg_entry_eq]
  generalize (lg_sl av ++ List.replicate (maxL - (lg_sl av).length) Slot.unset).toArray = ls at hl ⊢
  exact body p e s m below meth c ls _ rfl B.exec B.bytes B.returns B.notSynchronized (atoms_spec (ws := ws) B.pre) (findClass_of_methodNamed B.named) hml hP hK hl
section Ends
variable {p : Program} {l : Launch} {e : Env} {R : Room} {s : State} {m : MethodId} {args : Array Value} {below : List Frame} {meth : Method} {c : Code} {H : Heap} {locs : List Loc} {cells slots : Nat} {Q : State → Prop}
variable {cc : ByteArray} {pc : Nat} {ls : Array Slot} {D : va_G} {cI cL cO : ClassId} {A : Nat → Prop} {st0 rest : List Value} {mc ms : Nat} {a : Array Value} {w0 : va_W}
theorem retRi {v v0 : Int32} (hx : p.tables.exec = Jvm.exec) (hb : c.code = cc) (hr : meth.sig.returnType = some .int) (hlocks : meth.locks = false) (ev : v = v0) (hd : decode cc pc = .ok (.ireturn, 1)) : W p l e R s m args below meth c s.heap [] 0 0 (MQ below (vp_Si (fun r => r = v0)) args s 0 0 NoF) (F0 m pc ls [.int v]) :=
  W.iret hx hb hr (fun t ht _ => ⟨v, rfl, ev, ht⟩) (fun q h => by cases h) hd hlocks
theorem retRz {v v0 : Int32} (hx : p.tables.exec = Jvm.exec) (hb : c.code = cc) (hr : meth.sig.returnType = some .boolean) (hlocks : meth.locks = false) (hn : narrow .boolean (.int v) = .int v) (ev : v = v0) (hd : decode cc pc = .ok (.ireturn, 1)) : W p l e R s m args below meth c s.heap [] 0 0 (MQ below (vp_Si (fun r => r = v0)) args s 0 0 NoF) (F0 m pc ls [.int v]) :=
  W.zret hx hb hr hn (fun t ht _ => ⟨v, rfl, ev, ht⟩) (fun q h => by cases h) hd hlocks
theorem retRl {v v0 : Int64} (hx : p.tables.exec = Jvm.exec) (hb : c.code = cc) (hr : meth.sig.returnType = some .long) (hlocks : meth.locks = false) (ev : v = v0) (hd : decode cc pc = .ok (.lreturn, 1)) : W p l e R s m args below meth c s.heap [] 0 0 (MQ below (vp_Sl (fun r => r = v0)) args s 0 0 NoF) (F0 m pc ls [.long v]) :=
  W.lret hx hb hr (fun t ht _ => ⟨v, rfl, ev, ht⟩) (fun q h => by cases h) hd hlocks
theorem goRi {v : Int32} (hr : va_Run p l e R s m args below meth c H locs cells slots 0 0 (F0 m pc ls st0) rest (vp_Si (fun r => r = v) a) NoF)
    (kk : W p l e R s m args below meth c H locs cells slots Q (F0 m (pc + 3) ls (.int v :: rest))) : W p l e R s m args below meth c H locs cells slots Q (F0 m pc ls st0) :=
  vp_callSi hr.run (fun r er => by rw [er]; exact kk)
theorem goRl {v : Int64} (hr : va_Run p l e R s m args below meth c H locs cells slots 0 0 (F0 m pc ls st0) rest (vp_Sl (fun r => r = v) a) NoF)
    (kk : W p l e R s m args below meth c H locs cells slots Q (F0 m (pc + 3) ls (.long v :: rest))) : W p l e R s m args below meth c H locs cells slots Q (F0 m pc ls st0) :=
  vp_callSl hr.run (fun r er => by rw [er]; exact kk)
end Ends
def PM (D : va_G) (cI cL cO : ClassId) (av : List Value) (sz : Nat) (w0 : va_W) : Array Value → State → Prop := va_Pc av (fun U => U.heap.size = sz ∧ va_P D vwCl w0 U.heap ∧ KW D cI cL cO U ∧ va_D (fun _ => True) w0)
theorem PM.bl {D : va_G} {cI cL cO : ClassId} {av : List Value} {sz : Nat} {w0 : va_W} : FrameBlind (PM D cI cL cO av sz w0) := fun a U g mk q => ⟨q.1, q.2.1, q.2.2.1, q.2.2.2.1.calling g mk a, q.2.2.2.2⟩
theorem PM.pre {D : va_G} {cI cL cO : ClassId} {av : List Value} {w0 : va_W} {s : State} {H : Heap} {A : Nat → Prop} (hP : va_P D vwCl w0 H) (hD : va_D A w0) (hK : KW D cI cL cO s) (U : State) (hU : U.heap = H) (hW : s.WarmedH U.vm) : PM D cI cL cO av H.size w0 av.toArray U := ⟨rfl, by rw [hU], by rw [hU]; exact hP, hK.warm hW, hD.weaken (fun _ _ _ _ => trivial)⟩
def QB (D : va_G) {S : Type} (w1 : S → va_W) (A : Nat → Prop) (u : S) (t : State) : Prop := va_P D vwCl (w1 u) t.heap ∧ va_D A (w1 u)
abbrev CMv (l : Launch) (y : MethodName) (ws : List Cond) (rm : Room) (D : va_G) (cI cL cO : ClassId) (av : List Value) (w0 : va_W) {S : Type} (post : S → Prop) (w1 : S → va_W) (mc ms : Nat) : Prop := ∀ sz : Nat, Met l y ws rm (PM D cI cL cO av sz w0) (va_Qv post (QB D w1 (va_A w0 sz)) (va_A w0 sz)) mc ms (va_A w0 sz)
abbrev CMi (l : Launch) (y : MethodName) (ws : List Cond) (rm : Room) (D : va_G) (cI cL cO : ClassId) (av : List Value) (w0 : va_W) {S : Type} (post : Int32 → S → Prop) (w1 : S → va_W) (mc ms : Nat) : Prop := ∀ sz : Nat, Met l y ws rm (PM D cI cL cO av sz w0) (va_Qi post (QB D w1 (va_A w0 sz)) (va_A w0 sz)) mc ms (va_A w0 sz)
abbrev CMl (l : Launch) (y : MethodName) (ws : List Cond) (rm : Room) (D : va_G) (cI cL cO : ClassId) (av : List Value) (w0 : va_W) {S : Type} (post : Int64 → S → Prop) (w1 : S → va_W) (mc ms : Nat) : Prop := ∀ sz : Nat, Met l y ws rm (PM D cI cL cO av sz w0) (va_Ql post (QB D w1 (va_A w0 sz)) (va_A w0 sz)) mc ms (va_A w0 sz)
theorem ofM {l : Launch} {y : MethodName} {ws ws' : List Cond} {rm : Room} {D : va_G} {cI cL cO : ClassId} {av : List Value} {w0 : va_W} {Qc : (Nat → Prop) → Array Value → State → Outcome → State → Prop} {cc : ByteArray} {maxL : Nat} {ret : Option FieldType} {mc ms : Nat}
    (hy : plainName y.cls = true) (hw : ws = Cond.code y cc maxL ret :: ws') (hn : (lg_sl av).length ≤ maxL)
    (body : ∀ (p : Program) (e : Env) (s : State) (m : MethodId) (below : List Frame) (meth : Method) (c : Code) (A : Nat → Prop) (ls : Array Slot) (H : Heap) (Q : State → Prop), Q = MQ below (Qc A) av.toArray s mc ms A → p.tables.exec = Jvm.exec → c.code = cc → meth.sig.returnType = ret → meth.locks = false → (meth.name = y.name) → (∀ w ∈ ws, w.before av.toArray s = true) → s.vm.findClass y.cls = some m.cls → c.maxLocals = maxL → va_P D vwCl w0 H → KW D cI cL cO s → va_D A w0 → va_S A s.heap H [] → (∀ q : Nat, s.heap.size ≤ q → A q) → lv_has ls maxL (lv_args 0 av) →
      W p l e rm s m av.toArray below meth c H [] 0 0 Q (F0 m 0 ls [])) (sz : Nat) : Met l y ws rm (PM D cI cL cO av sz w0) (Qc (va_A w0 sz)) mc ms (va_A w0 sz) := by
  refine Met.ofW (cc := cc) (maxL := maxL) (ret := ret) hy hw ?_
  intro p e s m args below meth c s₁ B hml hv
  obtain ⟨rfl, hsz, hP, hK, hD0⟩ := hv
  subst hsz
  have hl := lv_entry av (n := maxL) hn
  rw [lg_entry_eq]
  generalize (lg_sl av ++ List.replicate (maxL - (lg_sl av).length) Slot.unset).toArray = ls at hl ⊢
  exact body p e s m below meth c _ ls s.heap _ rfl B.exec B.bytes B.returns B.notSynchronized (name_of_methodNamed B.named B.method).1 (atoms_spec (ws := ws) B.pre) (findClass_of_methodNamed B.named) hml hP hK (hD0.self (sz := s.heap.size)) va_S.rf (fun q h => Or.inr h) hl
theorem ofMv {S : Type} {post : S → Prop} {w1 : S → va_W} {l : Launch} {y : MethodName} {ws ws' : List Cond} {rm : Room} {D : va_G} {cI cL cO : ClassId} {av : List Value} {w0 : va_W} {cc : ByteArray} {maxL : Nat} {ret : Option FieldType} {mc ms : Nat}
    (hy : plainName y.cls = true) (hw : ws = Cond.code y cc maxL ret :: ws') (hn : (lg_sl av).length ≤ maxL)
    (body : ∀ (p : Program) (e : Env) (s : State) (m : MethodId) (below : List Frame) (meth : Method) (c : Code) (A : Nat → Prop) (ls : Array Slot) (H : Heap) (Q : State → Prop), Q = MQ below (va_Qv post (QB D w1 A) A) av.toArray s mc ms A → p.tables.exec = Jvm.exec → c.code = cc → meth.sig.returnType = ret → meth.locks = false → (meth.name = y.name) → (∀ w ∈ ws, w.before av.toArray s = true) → s.vm.findClass y.cls = some m.cls → c.maxLocals = maxL → va_P D vwCl w0 H → KW D cI cL cO s → va_D A w0 → va_S A s.heap H [] → (∀ q : Nat, s.heap.size ≤ q → A q) → lv_has ls maxL (lv_args 0 av) →
      W p l e rm s m av.toArray below meth c H [] 0 0 Q (F0 m 0 ls [])) : CMv l y ws rm D cI cL cO av w0 post w1 mc ms := fun sz => ofM (Qc := fun A => va_Qv post (QB D w1 A) A) hy hw hn body sz
theorem ofMi {S : Type} {post : Int32 → S → Prop} {w1 : S → va_W} {l : Launch} {y : MethodName} {ws ws' : List Cond} {rm : Room} {D : va_G} {cI cL cO : ClassId} {av : List Value} {w0 : va_W} {cc : ByteArray} {maxL : Nat} {ret : Option FieldType} {mc ms : Nat}
    (hy : plainName y.cls = true) (hw : ws = Cond.code y cc maxL ret :: ws') (hn : (lg_sl av).length ≤ maxL)
    (body : ∀ (p : Program) (e : Env) (s : State) (m : MethodId) (below : List Frame) (meth : Method) (c : Code) (A : Nat → Prop) (ls : Array Slot) (H : Heap) (Q : State → Prop), Q = MQ below (va_Qi post (QB D w1 A) A) av.toArray s mc ms A → p.tables.exec = Jvm.exec → c.code = cc → meth.sig.returnType = ret → meth.locks = false → (meth.name = y.name) → (∀ w ∈ ws, w.before av.toArray s = true) → s.vm.findClass y.cls = some m.cls → c.maxLocals = maxL → va_P D vwCl w0 H → KW D cI cL cO s → va_D A w0 → va_S A s.heap H [] → (∀ q : Nat, s.heap.size ≤ q → A q) → lv_has ls maxL (lv_args 0 av) →
      W p l e rm s m av.toArray below meth c H [] 0 0 Q (F0 m 0 ls [])) : CMi l y ws rm D cI cL cO av w0 post w1 mc ms := fun sz => ofM (Qc := fun A => va_Qi post (QB D w1 A) A) hy hw hn body sz
theorem ofMl {S : Type} {post : Int64 → S → Prop} {w1 : S → va_W} {l : Launch} {y : MethodName} {ws ws' : List Cond} {rm : Room} {D : va_G} {cI cL cO : ClassId} {av : List Value} {w0 : va_W} {cc : ByteArray} {maxL : Nat} {ret : Option FieldType} {mc ms : Nat}
    (hy : plainName y.cls = true) (hw : ws = Cond.code y cc maxL ret :: ws') (hn : (lg_sl av).length ≤ maxL)
    (body : ∀ (p : Program) (e : Env) (s : State) (m : MethodId) (below : List Frame) (meth : Method) (c : Code) (A : Nat → Prop) (ls : Array Slot) (H : Heap) (Q : State → Prop), Q = MQ below (va_Ql post (QB D w1 A) A) av.toArray s mc ms A → p.tables.exec = Jvm.exec → c.code = cc → meth.sig.returnType = ret → meth.locks = false → (meth.name = y.name) → (∀ w ∈ ws, w.before av.toArray s = true) → s.vm.findClass y.cls = some m.cls → c.maxLocals = maxL → va_P D vwCl w0 H → KW D cI cL cO s → va_D A w0 → va_S A s.heap H [] → (∀ q : Nat, s.heap.size ≤ q → A q) → lv_has ls maxL (lv_args 0 av) →
      W p l e rm s m av.toArray below meth c H [] 0 0 Q (F0 m 0 ls [])) : CMl l y ws rm D cI cL cO av w0 post w1 mc ms := fun sz => ofM (Qc := fun A => va_Ql post (QB D w1 A) A) hy hw hn body sz
section EndsM
variable {p : Program} {l : Launch} {e : Env} {R : Room} {s : State} {m : MethodId} {args : Array Value} {below : List Frame} {meth : Method} {c : Code} {H : Heap} {locs : List Loc} {cells slots : Nat} {Q : State → Prop}
variable {cc : ByteArray} {pc : Nat} {ls : Array Slot} {D : va_G} {A : Nat → Prop} {st0 rest : List Value} {mc ms : Nat} {a : Array Value} {w0 : va_W} {S : Type} {w1 : S → va_W}
theorem retMv {post : S → Prop} (u : S) (hx : p.tables.exec = Jvm.exec) (hb : c.code = cc) (hr : meth.sig.returnType = none) (hlocks : meth.locks = false) (hP : va_P D vwCl (w1 u) H) (hD : va_D A (w1 u)) (hS : va_S A s.heap H locs) (hu : post u) (hd : decode cc pc = .ok (.return_, 1)) : W p l e R s m args below meth c H locs cells slots (MQ below (va_Qv post (QB D w1 A) A) args s cells slots A) (F0 m pc ls []) :=
  W.vret hx hb hr (fun t ht _ => ⟨⟨u, rfl, hu, by rw [ht]; exact hP, hD⟩, hS.F ht⟩) hS.2.2 hd hlocks
theorem retMi {post : Int32 → S → Prop} {v : Int32} (u : S) (hx : p.tables.exec = Jvm.exec) (hb : c.code = cc) (hr : meth.sig.returnType = some .int) (hlocks : meth.locks = false) (hP : va_P D vwCl (w1 u) H) (hD : va_D A (w1 u)) (hS : va_S A s.heap H locs) (hu : post v u) (hd : decode cc pc = .ok (.ireturn, 1)) : W p l e R s m args below meth c H locs cells slots (MQ below (va_Qi post (QB D w1 A) A) args s cells slots A) (F0 m pc ls [.int v]) :=
  W.iret hx hb hr (fun t ht _ => ⟨⟨v, u, rfl, hu, by rw [ht]; exact hP, hD⟩, hS.F ht⟩) hS.2.2 hd hlocks
theorem retMl {post : Int64 → S → Prop} {v : Int64} (u : S) (hx : p.tables.exec = Jvm.exec) (hb : c.code = cc) (hr : meth.sig.returnType = some .long) (hlocks : meth.locks = false) (hP : va_P D vwCl (w1 u) H) (hD : va_D A (w1 u)) (hS : va_S A s.heap H locs) (hu : post v u) (hd : decode cc pc = .ok (.lreturn, 1)) : W p l e R s m args below meth c H locs cells slots (MQ below (va_Ql post (QB D w1 A) A) args s cells slots A) (F0 m pc ls [.long v]) :=
  W.lret hx hb hr (fun t ht _ => ⟨⟨v, u, rfl, hu, by rw [ht]; exact hP, hD⟩, hS.F ht⟩) hS.2.2 hd hlocks
theorem A_in {H0 : Heap} (hD : va_D A w0) (hS : va_S A H0 H locs) (hA : ∀ q : Nat, H0.size ≤ q → A q) (q : Nat) (h : va_A w0 H.size q) : A q := by
  rcases h with ⟨k, e, h⟩ | h
  · exact hD.2 k _ h
  · exact hA q (Nat.le_trans hS.1 h)
theorem goMv {post : S → Prop} (hr : va_Run p l e R s m args below meth c H locs cells slots mc ms (F0 m pc ls st0) rest (va_Qv post (QB D w1 (va_A w0 H.size)) (va_A w0 H.size) a) (va_A w0 H.size)) (hD : va_D A w0) (hS : va_S A s.heap H locs) (hA : ∀ q : Nat, s.heap.size ≤ q → A q)
    (kk : ∀ (u : S) (H1 : Heap) (locs1 : List Loc), post u → va_P D vwCl (w1 u) H1 → va_D A (w1 u) → va_S A s.heap H1 locs1 → W p l e R s m args below meth c H1 locs1 (cells + mc) (slots + ms) Q (F0 m (pc + 3) ls rest)) : W p l e R s m args below meth c H locs cells slots Q (F0 m pc ls st0) :=
  va_callv hr hS (fun q _ h => A_in hD hS hA q h) (A_in hD hS hA) (fun u t H1 locs1 ht _ hw hB _ _ hS1 => kk u H1 locs1 hw (by rw [← ht]; exact hB.1) (hB.2.weaken (fun _ q _ h => A_in hD hS hA q.1 h)) hS1)
theorem goMi {post : Int32 → S → Prop} (hr : va_Run p l e R s m args below meth c H locs cells slots mc ms (F0 m pc ls st0) rest (va_Qi post (QB D w1 (va_A w0 H.size)) (va_A w0 H.size) a) (va_A w0 H.size)) (hD : va_D A w0) (hS : va_S A s.heap H locs) (hA : ∀ q : Nat, s.heap.size ≤ q → A q)
    (kk : ∀ (r : Int32) (u : S) (H1 : Heap) (locs1 : List Loc), post r u → va_P D vwCl (w1 u) H1 → va_D A (w1 u) → va_S A s.heap H1 locs1 → W p l e R s m args below meth c H1 locs1 (cells + mc) (slots + ms) Q (F0 m (pc + 3) ls (.int r :: rest))) : W p l e R s m args below meth c H locs cells slots Q (F0 m pc ls st0) :=
  va_calli hr hS (fun q _ h => A_in hD hS hA q h) (A_in hD hS hA) (fun r u t H1 locs1 ht _ hw hB _ _ hS1 => kk r u H1 locs1 hw (by rw [← ht]; exact hB.1) (hB.2.weaken (fun _ q _ h => A_in hD hS hA q.1 h)) hS1)
theorem goMl {post : Int64 → S → Prop} (hr : va_Run p l e R s m args below meth c H locs cells slots mc ms (F0 m pc ls st0) rest (va_Ql post (QB D w1 (va_A w0 H.size)) (va_A w0 H.size) a) (va_A w0 H.size)) (hD : va_D A w0) (hS : va_S A s.heap H locs) (hA : ∀ q : Nat, s.heap.size ≤ q → A q)
    (kk : ∀ (r : Int64) (u : S) (H1 : Heap) (locs1 : List Loc), post r u → va_P D vwCl (w1 u) H1 → va_D A (w1 u) → va_S A s.heap H1 locs1 → W p l e R s m args below meth c H1 locs1 (cells + mc) (slots + ms) Q (F0 m (pc + 3) ls (.long r :: rest))) : W p l e R s m args below meth c H locs cells slots Q (F0 m pc ls st0) :=
  va_calll hr hS (fun q _ h => A_in hD hS hA q h) (A_in hD hS hA) (fun r u t H1 locs1 ht _ hw hB _ _ hS1 => kk r u H1 locs1 hw (by rw [← ht]; exact hB.1) (hB.2.weaken (fun _ q _ h => A_in hD hS hA q.1 h)) hS1)
end EndsM
end
section
theorem gB0 {c c2 : Cond} (h2 : c2 ∈ BIG) : GoodIn (c :: BIG) (c2 :: BIG) := gBIG (X := []) (fun _ h => absurd h List.not_mem_nil) h2
theorem nz01 {x : Int32} (h : x = 0 ∨ x = 1) : narrow .boolean (.int x) = .int x := by rcases h with rfl | rfl <;> rfl
theorem isReg_01 (r : Int32) : isReg r = 0 ∨ isReg r = 1 := by unfold isReg; split <;> first | exact Or.inl rfl | (split <;> first | exact Or.inl rfl | exact Or.inr rfl)
theorem isReg_nz (r : Int32) : narrow .boolean (.int (isReg r)) = .int (isReg r) := nz01 (isReg_01 r)
section MM
variable {p : Program} {l : Launch} {e : Env} {R : Room} {s : State} {m : MethodId} {args : Array Value} {below : List Frame} {meth : Method} {c : Code} {H : Heap} {locs : List Loc} {cells slots : Nat} {Q : State → Prop} {cc : ByteArray} {pc : Nat} {ls : Array Slot} {rest : List Value}
theorem w_max (hx : p.tables.exec = Jvm.exec) (hb : c.code = cc) (hml : c.maxLocals = ls.size) {own : String} {index : Nat} (hown : s.vm.findClass own = some m.cls) (hlink : (Cond.methodLink own index y_Ma_max).before args s = true) (hstat : (Cond.static y_Ma_max).before args s = true) (hini : (Cond.initialized R_Ma).before args s = true) (hcode : (Cond.code y_Ma_max b_Ma_max 2 (some .int)).before args s = true)
    (hf : 1 ≤ R.frames) (hlo : (rest.map fun v => v.category).sum + 13 ≤ R.locals) (hc : cells ≤ R.cells) (hs : slots ≤ R.slots) {x y : Int32} (hd : decode cc pc = .ok (.invokestatic index, 3)) (kk : W p l e R s m args below meth c H locs cells slots Q (F0 m (pc + 3) ls (.int (maxF x y) :: rest))) : W p l e R s m args below meth c H locs cells slots Q (F0 m pc ls (.int y :: .int x :: rest)) :=
  va_mmax hx hb hml hown hlink hstat hini hcode hf hlo hc hs hd kk
theorem w_min (hx : p.tables.exec = Jvm.exec) (hb : c.code = cc) (hml : c.maxLocals = ls.size) {own : String} {index : Nat} (hown : s.vm.findClass own = some m.cls) (hlink : (Cond.methodLink own index y_Ma_min).before args s = true) (hstat : (Cond.static y_Ma_min).before args s = true) (hini : (Cond.initialized R_Ma).before args s = true) (hcode : (Cond.code y_Ma_min b_Ma_min 2 (some .int)).before args s = true)
    (hf : 1 ≤ R.frames) (hlo : (rest.map fun v => v.category).sum + 13 ≤ R.locals) (hc : cells ≤ R.cells) (hs : slots ≤ R.slots) {x y : Int32} (hd : decode cc pc = .ok (.invokestatic index, 3)) (kk : W p l e R s m args below meth c H locs cells slots Q (F0 m (pc + 3) ls (.int (minF x y) :: rest))) : W p l e R s m args below meth c H locs cells slots Q (F0 m pc ls (.int y :: .int x :: rest)) :=
  va_mmin hx hb hml hown hlink hstat hini hcode hf hlo hc hs hd kk
end MM
theorem i32_1 {x : Int32} (h : x.toInt < 2147483647) : (x + 1).toInt = x.toInt + 1 := by
  have h1 := x.minValue_le_toInt
  rw [Int32.toInt_add, show (1 : Int32).toInt = 1 by decide]
  exact Int.bmod_eq_of_le (by simp [Int32.minValue] at h1; omega) (by omega)
theorem nn1 {x N : Int32} (h0 : ¬ x < 0) (h : ¬ N ≤ x) : ¬ x + 1 < 0 := by
  rw [Int32.lt_iff_toInt_lt, Int32.toInt_zero] at h0 ⊢
  rw [Int32.le_iff_toInt_le] at h
  have h2 := Int32.toInt_lt N
  rw [i32_1 (by omega)]
  omega
theorem maxF0 (x : Int32) : ¬ maxF 0 x < 0 := by
  unfold maxF
  split
  · rename_i h; rw [Int32.lt_iff_toInt_lt] at h ⊢; simp at h ⊢; omega
  · decide
theorem hasF_01 (bc i : Int32) : hasF bc i = 0 ∨ hasF bc i = 1 := by unfold hasF; repeat' split
                                                                     all_goals first | exact Or.inl rfl | exact Or.inr rfl
theorem hasF_in {bc i : Int32} (h : ¬ hasF bc i = 0) : vp_in i 300 := by
  unfold hasF at h
  split at h
  · exact absurd rfl h
  · split at h
    · exact absurd rfl h
    · split at h
      · exact absurd rfl h
      · exact in_of (N := 300) (by decide) (by assumption) (by assumption)
theorem i_lt {x N : Int32} (h : ¬ N ≤ x) : x.toInt < N.toInt := by rw [Int32.le_iff_toInt_le] at h; omega
theorem nn_of {x : Int32} (h : 0 ≤ x.toInt) : ¬ x < 0 := by rw [Int32.lt_iff_toInt_lt, Int32.toInt_zero]; omega
theorem of_nn {x : Int32} (h : ¬ x < 0) : 0 ≤ x.toInt := by rw [Int32.lt_iff_toInt_lt, Int32.toInt_zero] at h; omega
theorem in_lt {x N : Int32} {n : Nat} (hN : N.toInt = n) (h0 : ¬ x < 0) (h1 : x < N) : vp_in x n := by
  rw [Int32.lt_iff_toInt_lt, hN] at h1
  exact vp_in_iff.mpr ⟨of_nn h0, h1⟩
theorem in_lt61 {x : Int32} (h0 : ¬ x < 0) (h1 : x < 60) : vp_in x 61 := by
  rw [Int32.lt_iff_toInt_lt, show (60 : Int32).toInt = 60 by decide] at h1
  exact vp_in_iff.mpr ⟨of_nn h0, by omega⟩
theorem in_lt1 {x : Int32} (h0 : ¬ x < 0) (h1 : x < 60) : vp_in (x + 1) 61 := by
  rw [Int32.lt_iff_toInt_lt, show (60 : Int32).toInt = 60 by decide] at h1
  have := of_nn h0
  exact vp_in_iff.mpr ⟨by rw [i32_1 (by omega)]; omega, by rw [i32_1 (by omega)]; omega⟩
theorem arrV_eq {c : ClassId} {N : Nat} {f g : Nat → Value} (h : ∀ j, j < N → f j = g j) : arrV c N f = arrV c N g := by
  have e : (fun j : Fin N => f j.val) = fun j : Fin N => g j.val := funext fun j => h j.val j.isLt
  unfold arrV
  rw [e]
theorem P_ai {D : va_G} {cl : List vw_C} {a N : Nat} {c : ClassId} {f g : Fn} {w : va_W} {H : Heap} (h : ∀ j, j < N → f j = g j) (hP : va_P D cl ((a, .inl (c, N, .inl f)) :: w) H) : va_P D cl ((a, .inl (c, N, .inl g)) :: w) H := by
  rw [P_iff] at hP ⊢
  intro q hq
  rcases List.mem_cons.mp hq with rfl | hq
  · have h1 : H[a]? = some (arrV c N (fun j => .int (f j))) := hP _ List.mem_cons_self
    rw [arrV_eq (g := fun j => .int (g j)) (fun j hj => by rw [h j hj])] at h1
    exact h1
  · exact hP q (List.mem_cons_of_mem _ hq)
theorem P_al {D : va_G} {cl : List vw_C} {a N : Nat} {c : ClassId} {f g : FL} {w : va_W} {H : Heap} (h : ∀ j, j < N → f j = g j) (hP : va_P D cl ((a, .inl (c, N, .inr (.inl f))) :: w) H) : va_P D cl ((a, .inl (c, N, .inr (.inl g))) :: w) H := by
  rw [P_iff] at hP ⊢
  intro q hq
  rcases List.mem_cons.mp hq with rfl | hq
  · have h1 : H[a]? = some (arrV c N (fun j => .long (f j))) := hP _ List.mem_cons_self
    rw [arrV_eq (g := fun j => .long (g j)) (fun j hj => by rw [h j hj])] at h1
    exact h1
  · exact hP q (List.mem_cons_of_mem _ hq)
theorem D_ai {A : Nat → Prop} {a : Nat} {x y : va_E} {w : va_W} (h : va_D A ((a, x) :: w)) : va_D A ((a, y) :: w) := by
  rw [D_iff] at h ⊢
  refine ⟨by simpa using h.1, fun q hq => ?_⟩
  rcases List.mem_cons.mp hq with rfl | hq
  · exact h.2 (a, x) List.mem_cons_self
  · exact h.2 q (List.mem_cons_of_mem _ hq)
theorem clN {i : Int32} (h : 0 ≤ i.toInt) : (i.toNatClampNeg : Int) = i.toInt := by
  show (i.toInt.toNat : Int) = i.toInt
  omega
theorem fill_s {f : Fn} {i v : Int32} (h0 : 0 ≤ i.toInt) (h1 : i.toInt < 2147483647) (h : ∀ j : Nat, (j : Int) < i.toInt → f j = v) (j : Nat) (hj : (j : Int) < (i + 1).toInt) : upd f i.toNatClampNeg v j = v := by
  rw [i32_1 h1] at hj
  have := clN h0
  by_cases e : j = i.toNatClampNeg
  · rw [e]; exact pk_us
  · rw [pk_un e]; exact h j (by omega)
theorem fill_l {f : FL} {i : Int32} {v : Int64} (h0 : 0 ≤ i.toInt) (h1 : i.toInt < 2147483647) (h : ∀ j : Nat, (j : Int) < i.toInt → f j = v) (j : Nat) (hj : (j : Int) < (i + 1).toInt) : vp_updL f i.toNatClampNeg v j = v := by
  rw [i32_1 h1] at hj
  have := clN h0
  by_cases e : j = i.toNatClampNeg
  · rw [e]; exact pk_uLs
  · rw [pk_uLn e]; exact h j (by omega)
theorem lenOf_rng (c : Int32) : 0 ≤ (lenOf c).toInt ∧ (lenOf c).toInt ≤ 5 := by
  unfold lenOf
  repeat' split
  all_goals decide
theorem i32_add {x y : Int32} (h1 : -2147483648 ≤ x.toInt + y.toInt) (h2 : x.toInt + y.toInt < 2147483648) : (x + y).toInt = x.toInt + y.toInt := by
  rw [Int32.toInt_add]
  exact Int.bmod_eq_of_le (by omega) (by omega)
theorem i_le {x : Int32} (h : (300 : Int32) ≤ x) : 300 ≤ x.toInt := by rw [Int32.le_iff_toInt_le, show (300 : Int32).toInt = 300 by decide] at h; exact h
theorem i_le4 {x : Int32} (h : (4 : Int32) ≤ x) : 4 ≤ x.toInt := by rw [Int32.le_iff_toInt_le, show (4 : Int32).toInt = 4 by decide] at h; exact h
theorem vc_n {a : Int32} {c : Int32} {n : Nat} (hn : 305 ≤ a.toInt + ((n + 1 : Nat) : Int)) (h0 : 0 ≤ a.toInt) (h3 : ¬ (300 : Int32) ≤ a) (hl : ¬ lenOf c < 1) : 305 ≤ (a + lenOf c).toInt + (n : Int) := by
  have h4 := i_lt h3
  have h5 := lenOf_rng c
  rw [show (300 : Int32).toInt = 300 by decide] at h4
  rw [Int32.lt_iff_toInt_lt, show (1 : Int32).toInt = 1 by decide] at hl
  rw [i32_add (by omega) (by omega)]
  omega
theorem vc_i {a : Int32} {c : Int32} (h0 : 0 ≤ a.toInt) (h3 : ¬ (300 : Int32) ≤ a) : 0 ≤ (a + lenOf c).toInt ∧ (a + lenOf c).toInt ≤ 304 := by
  have h4 := i_lt h3
  have h5 := lenOf_rng c
  rw [show (300 : Int32).toInt = 300 by decide] at h4
  rw [i32_add (by omega) (by omega)]
  omega
theorem P_sw2 {D : va_G} {cl : List vw_C} {x y a b c : va_W} {H : Heap} (h : va_P D cl (x ++ (y ++ (a ++ (b ++ c)))) H) : va_P D cl (x ++ (y ++ (b ++ (a ++ c)))) H := P_perm (((List.perm_append_comm_assoc a b c).append_left y).append_left x) h
theorem D_sw2 {A : Nat → Prop} {x y a b c : va_W} (h : va_D A (x ++ (y ++ (a ++ (b ++ c))))) : va_D A (x ++ (y ++ (b ++ (a ++ c)))) := D_perm (((List.perm_append_comm_assoc a b c).append_left y).append_left x) h
theorem P_sw3 {D : va_G} {cl : List vw_C} {x y z a b c : va_W} {H : Heap} (h : va_P D cl (x ++ (y ++ (z ++ (a ++ (b ++ c))))) H) : va_P D cl (x ++ (y ++ (z ++ (b ++ (a ++ c))))) H := P_perm ((((List.perm_append_comm_assoc a b c).append_left z).append_left y).append_left x) h
theorem D_sw3 {A : Nat → Prop} {x y z a b c : va_W} (h : va_D A (x ++ (y ++ (z ++ (a ++ (b ++ c)))))) : va_D A (x ++ (y ++ (z ++ (b ++ (a ++ c))))) := D_perm ((((List.perm_append_comm_assoc a b c).append_left z).append_left y).append_left x) h
theorem isReg_in {i : Int32} (h : ¬ isReg i = 0) : vp_in i 4 := by
  unfold isReg at h
  split at h
  · exact absurd rfl h
  · split at h
    · exact absurd rfl h
    · exact in_of (N := 4) (by decide) (by assumption) (by assumption)
theorem h4_1 {x : Int32} (h : 0 ≤ x.toInt ∧ x.toInt ≤ 4) (c : ¬ (4 : Int32) ≤ x) : 0 ≤ (x + 1).toInt ∧ (x + 1).toInt ≤ 4 := by
  have := i_lt c
  rw [show (4 : Int32).toInt = 4 by decide] at this
  rw [i32_1 (by omega)]
  omega
theorem i32_m {x : Int32} (h : -2147483648 < x.toInt) : (x - 1).toInt = x.toInt - 1 := by
  have h1 := Int32.toInt_lt x
  rw [Int32.toInt_sub, show (1 : Int32).toInt = 1 by decide]
  exact Int.bmod_eq_of_le (by omega) (by omega)
theorem h4_m {x : Int32} (h : 0 ≤ x.toInt ∧ x.toInt ≤ 4) (c : (1 : Int32) ≤ x) : 0 ≤ (x - 1).toInt ∧ (x - 1).toInt ≤ 4 := by
  rw [Int32.le_iff_toInt_le, show (1 : Int32).toInt = 1 by decide] at c
  rw [i32_m (by omega)]
  omega
theorem in4_m {x : Int32} (h : 0 ≤ x.toInt ∧ x.toInt ≤ 4) (c : (1 : Int32) ≤ x) : vp_in (x - 1) 4 := by
  rw [Int32.le_iff_toInt_le, show (1 : Int32).toInt = 1 by decide] at c
  exact vp_in_iff.mpr (by rw [i32_m (by omega)]; omega)
theorem in4_z {x : Int32} (h : 0 ≤ x.toInt ∧ x.toInt ≤ 4) (c : ¬ x ≤ 0) : vp_in (x - 1) 4 := by
  rw [Int32.le_iff_toInt_le, Int32.toInt_zero] at c
  exact vp_in_iff.mpr (by rw [i32_m (by omega)]; omega)
theorem in_m60 {ic a : Int32} (hic : ¬ ic < 0) (h0 : ¬ a < 0) (h1 : ¬ minF ic 60 ≤ a) : vp_in a 60 := by
  have h2 := i_lt h1
  have h3 : (minF ic 60).toInt ≤ 60 := by
    unfold minF
    split
    · exact Int.le_of_eq (by decide)
    · rename_i h
      rw [Int32.lt_iff_toInt_lt, show (60 : Int32).toInt = 60 by decide] at h
      omega
  exact vp_in_iff.mpr ⟨of_nn h0, by omega⟩
section MZ
variable {p : Program} {l : Launch} {e : Env} {R : Room} {s : State} {m : MethodId} {args : Array Value} {below : List Frame} {meth : Method} {c : Code} {H : Heap} {locs : List Loc} {cells slots : Nat}
variable {cc : ByteArray} {pc : Nat} {ls : Array Slot} {D : va_G} {A : Nat → Prop} {S : Type} {w1 : S → va_W}
theorem retMz {post : Int32 → S → Prop} {v : Int32} (u : S) (hx : p.tables.exec = Jvm.exec) (hb : c.code = cc) (hr : meth.sig.returnType = some .boolean) (hlocks : meth.locks = false) (hn : narrow .boolean (.int v) = .int v) (hP : va_P D vwCl (w1 u) H) (hD : va_D A (w1 u)) (hS : va_S A s.heap H locs) (hu : post v u) (hd : decode cc pc = .ok (.ireturn, 1)) : W p l e R s m args below meth c H locs cells slots (MQ below (va_Qi post (QB D w1 A) A) args s cells slots A) (F0 m pc ls [.int v]) :=
  W.zret hx hb hr hn (fun t ht _ => ⟨⟨v, u, rfl, hu, by rw [ht]; exact hP, hD⟩, hS.F ht⟩) hS.2.2 hd hlocks
end MZ
end
section
/-! worlds of the class: a block, the checker, a runner -/
def wB (cI : ClassId) (h0 : Nat) (q1 : Nat) (q2 : Nat) (q3 : Nat) (q4 : Nat) (q5 : Nat) (o : Fn) (f : Fn) (ee : Fn) (t : Fn) (b : Fn) (ic : Int32) (bc : Int32) (sa : Int32) (gn : Int32) : va_W := [(h0, .inr (0, [.ref q1, .ref q2, .ref q3, .ref q4, .ref q5, .int ic, .int bc, .int sa, .int gn])), (q1, .inl (cI, 60, .inl o)), (q2, .inl (cI, 60, .inl f)), (q3, .inl (cI, 60, .inl ee)), (q4, .inl (cI, 61, .inl t)), (q5, .inl (cI, 300, .inl b))]
def wK (k0 : Nat) (k1 : Nat) : va_W := [(k0, .inr (1, [.ref k1]))]
def wU (u0 : Nat) (u1 : Nat) (u2 : Nat) (hg : Int32) (sp : Int32) (en : Int32) (bb : Int32) : va_W := [(u0, .inr (2, [.ref u1, .ref u2, .int hg, .int sp, .int en, .int bb]))]
def wI3 (cI : ClassId) (a0 : Nat) (f : Fn) : va_W := [(a0, .inl (cI, 300, .inl f))]
def wL4 (cL : ClassId) (a0 : Nat) (f : FL) : va_W := [(a0, .inl (cL, 4, .inr (.inl f)))]

abbrev w_M_isRegister : List Cond := .code y_M_isRegister b_M_isRegister 1 (some .boolean) :: BIG
set_option maxHeartbeats 4000000 in
set_option maxRecDepth 100000 in
theorem c_M_isRegister (l : Launch) (D : va_G) (cI cL cO : ClassId) (r : Int32) : CRi l y_M_isRegister w_M_isRegister ({ frames := 0, cells := 0, slots := 0, locals := 0 }) D cI cL cO [.int r] ([]) (isReg r) := by
  refine ofR (cc := b_M_isRegister) (maxL := 1) (ret := (some .boolean)) (by decide) rfl (Nat.le_of_ble_eq_true rfl) ?_
  intro p e s m below meth c ls Q hQ hx hb hr hlocks hts hown hml hP hK hl
  have hl : lv_has ls 1 [(0, .int r)] := hl
  have hown : s.vm.findClass R_M = some m.cls := hown
  have ht : ∀ w ∈ BIG, w.before _ s = true := fun w h => hts w (List.mem_cons_of_mem _ h)
  refine lv_iload_n hx hb d_M_isRegister_0 rfl (lv_at hl 0 rfl) ?_
  refine lv_if_lt (tgt := 13) hx hb d_M_isRegister_1 (by decide) (fun c_1 => ?_) (fun c_1 => ?_)
  · refine lv_iconst (v := 0) hx hb d_M_isRegister_13 (by decide) ?_
    rw [hQ]; exact retRz hx hb hr hlocks rfl (by first | (simp only [isReg, if_pos c_1]; done) | simp [isReg, c_1]) d_M_isRegister_14
  · refine lv_iload_n hx hb d_M_isRegister_4 rfl (lv_at hl 0 rfl) ?_
    refine lv_iconst (v := 4) hx hb d_M_isRegister_5 (by decide) ?_
    refine lv_icmp_ge (tgt := 13) hx hb d_M_isRegister_6 (by decide) (fun c_6 => ?_) (fun c_6 => ?_)
    · refine lv_iconst (v := 0) hx hb d_M_isRegister_13 (by decide) ?_
      rw [hQ]; exact retRz hx hb hr hlocks rfl (by first | (simp only [isReg, if_neg c_1, if_pos c_6]; done) | simp [isReg, c_1, c_6]) d_M_isRegister_14
    · refine lv_iconst (v := 1) hx hb d_M_isRegister_9 (by decide) ?_
      refine lv_goto (tgt := 14) hx hb d_M_isRegister_10 (by decide) ?_
      rw [hQ]; exact retRz hx hb hr hlocks rfl (by first | (simp only [isReg, if_neg c_1, if_neg c_6]; done) | simp [isReg, c_1, c_6]) d_M_isRegister_14

abbrev w_M_isOperand : List Cond := .code y_M_isOperand b_M_isOperand 2 (some .boolean) :: BIG
set_option maxHeartbeats 4000000 in
set_option maxRecDepth 100000 in
theorem c_M_isOperand (l : Launch) (D : va_G) (cI cL cO : ClassId) (op : Int32) (b : Int32) : CRi l y_M_isOperand w_M_isOperand ({ frames := 1, cells := 0, slots := 0, locals := 20 }) D cI cL cO [.int op, .int b] ([]) (isOpnd op b) := by
  refine ofR (cc := b_M_isOperand) (maxL := 2) (ret := (some .boolean)) (by decide) rfl (Nat.le_of_ble_eq_true rfl) ?_
  intro p e s m below meth c ls Q hQ hx hb hr hlocks hts hown hml hP hK hl
  have hl : lv_has ls 2 [(0, .int op), (1, .int b)] := hl
  have hown : s.vm.findClass R_M = some m.cls := hown
  have ht : ∀ w ∈ BIG, w.before _ s = true := fun w h => hts w (List.mem_cons_of_mem _ h)
  refine lv_iload_n hx hb d_M_isOperand_0 rfl (lv_at hl 0 rfl) ?_
  by_cases c_1_0 : op = 0
  · refine lv_lookup (off := 27) (tgt := 28) hx hb d_M_isOperand_1 (by decide) (by rw [c_1_0] <;> rfl) (by decide) ?_
    refine lv_iconst (v := 1) hx hb d_M_isOperand_28 (by decide) ?_
    rw [hQ]; exact retRz hx hb hr hlocks rfl (by first | (simp only [isOpnd, if_pos c_1_0]; done) | simp [isOpnd, c_1_0]) d_M_isOperand_29
  by_cases c_1_6 : op = 6
  · refine lv_lookup (off := 29) (tgt := 30) hx hb d_M_isOperand_1 (by decide) (by rw [c_1_6] <;> rfl) (by decide) ?_
    refine lv_iload_n hx hb d_M_isOperand_30 rfl (lv_at hl 1 rfl) ?_
    refine lv_if_lt (tgt := 44) hx hb d_M_isOperand_31 (by decide) (fun c_31 => ?_) (fun c_31 => ?_)
    · refine lv_iconst (v := 0) hx hb d_M_isOperand_44 (by decide) ?_
      rw [hQ]; exact retRz hx hb hr hlocks rfl (by first | (simp only [isOpnd, if_neg c_1_0, if_pos c_1_6, if_pos c_31]; done) | simp [isOpnd, c_1_0, c_1_6, c_31]) d_M_isOperand_45
    · refine lv_iload_n hx hb d_M_isOperand_34 rfl (lv_at hl 1 rfl) ?_
      refine lv_bipush (v := 60) hx hb d_M_isOperand_35 (by decide) ?_
      refine lv_icmp_gt (tgt := 44) hx hb d_M_isOperand_37 (by decide) (fun c_37 => ?_) (fun c_37 => ?_)
      · refine lv_iconst (v := 0) hx hb d_M_isOperand_44 (by decide) ?_
        rw [hQ]; exact retRz hx hb hr hlocks rfl (by first | (simp only [isOpnd, if_neg c_1_0, if_pos c_1_6, if_neg c_31, if_pos c_37]; done) | simp [isOpnd, c_1_0, c_1_6, c_31, c_37]) d_M_isOperand_45
      · refine lv_iconst (v := 1) hx hb d_M_isOperand_40 (by decide) ?_
        refine lv_goto (tgt := 45) hx hb d_M_isOperand_41 (by decide) ?_
        rw [hQ]; exact retRz hx hb hr hlocks rfl (by first | (simp only [isOpnd, if_neg c_1_0, if_pos c_1_6, if_neg c_31, if_neg c_37]; done) | simp [isOpnd, c_1_0, c_1_6, c_31, c_37]) d_M_isOperand_45
  refine lv_lookup (off := 45) (tgt := 46) hx hb d_M_isOperand_1 (by decide) (by rw [lv_osw c_1_0 (by decide), lv_osw c_1_6 (by decide)] <;> rfl) (by decide) ?_
  refine lv_iload_n hx hb d_M_isOperand_46 rfl (lv_at hl 1 rfl) ?_
  refine goRi (va_runS (As := [.int b]) (rest := []) ⟨hx, hb, hml, hown, hts⟩ (c_M_isRegister l D cI cL cO b) (cwS 1 hts (gBIG (m3 k_ml_M_68 k_st_M_isRegister k_ini_M) k_co_M_isRegister) rfl rfl rfl (by decide +kernel) ⟨Nat.le_of_ble_eq_true rfl, Nat.le_of_ble_eq_true rfl⟩) ⟨PR.bl, PR.pre P_nil hK⟩ rfl rfl hl.1 rfl (lv_room (Nat.le_of_ble_eq_true rfl)) d_M_isOperand_47 ⟨Nat.le_of_ble_eq_true rfl, Nat.le_of_ble_eq_true rfl⟩) ?_
  rw [hQ]; exact retRz hx hb hr hlocks (isReg_nz _) (by first | (simp only [isOpnd, if_neg c_1_0, if_neg c_1_6]; done) | simp [isOpnd, c_1_0, c_1_6]) d_M_isOperand_50

abbrev w_M_lengthOf : List Cond := .code y_M_lengthOf b_M_lengthOf 1 (some .int) :: BIG
set_option maxHeartbeats 4000000 in
set_option maxRecDepth 100000 in
theorem c_M_lengthOf (l : Launch) (D : va_G) (cI cL cO : ClassId) (cd : Int32) : CRi l y_M_lengthOf w_M_lengthOf ({ frames := 0, cells := 0, slots := 0, locals := 0 }) D cI cL cO [.int cd] ([]) (lenOf cd) := by
  refine ofR (cc := b_M_lengthOf) (maxL := 1) (ret := (some .int)) (by decide) rfl (Nat.le_of_ble_eq_true rfl) ?_
  intro p e s m below meth c ls Q hQ hx hb hr hlocks hts hown hml hP hK hl
  have hl : lv_has ls 1 [(0, .int cd)] := hl
  have hown : s.vm.findClass R_M = some m.cls := hown
  have ht : ∀ w ∈ BIG, w.before _ s = true := fun w h => hts w (List.mem_cons_of_mem _ h)
  refine lv_iload_n hx hb d_M_lengthOf_0 rfl (lv_at hl 0 rfl) ?_
  by_cases c_1_1 : cd = 1
  · refine lv_tableIn (off := 79) (tgt := 80) hx hb d_M_lengthOf_1 (by rw [c_1_1]; decide) (by rw [c_1_1]; decide) (by rw [c_1_1] <;> rfl) (by decide) ?_
    refine lv_iconst (v := 2) hx hb d_M_lengthOf_80 (by decide) ?_
    rw [hQ]; exact retRi hx hb hr hlocks (by first | (simp only [lenOf, if_pos c_1_1]; done) | simp [lenOf, c_1_1]) d_M_lengthOf_81
  by_cases c_1_2 : cd = 2
  · refine lv_tableIn (off := 79) (tgt := 80) hx hb d_M_lengthOf_1 (by rw [c_1_2]; decide) (by rw [c_1_2]; decide) (by rw [c_1_2] <;> rfl) (by decide) ?_
    refine lv_iconst (v := 2) hx hb d_M_lengthOf_80 (by decide) ?_
    rw [hQ]; exact retRi hx hb hr hlocks (by first | (simp only [lenOf, if_neg c_1_1, if_pos c_1_2]; done) | simp [lenOf, c_1_1, c_1_2]) d_M_lengthOf_81
  by_cases c_1_3 : cd = 3
  · refine lv_tableIn (off := 81) (tgt := 82) hx hb d_M_lengthOf_1 (by rw [c_1_3]; decide) (by rw [c_1_3]; decide) (by rw [c_1_3] <;> rfl) (by decide) ?_
    refine lv_iconst (v := 5) hx hb d_M_lengthOf_82 (by decide) ?_
    rw [hQ]; exact retRi hx hb hr hlocks (by first | (simp only [lenOf, if_neg c_1_1, if_neg c_1_2, if_pos c_1_3]; done) | simp [lenOf, c_1_1, c_1_2, c_1_3]) d_M_lengthOf_83
  by_cases c_1_4 : cd = 4
  · refine lv_tableIn (off := 85) (tgt := 86) hx hb d_M_lengthOf_1 (by rw [c_1_4]; decide) (by rw [c_1_4]; decide) (by rw [c_1_4] <;> rfl) (by decide) ?_
    refine lv_iconst (v := 1) hx hb d_M_lengthOf_86 (by decide) ?_
    rw [hQ]; exact retRi hx hb hr hlocks (by first | (simp only [lenOf, if_neg c_1_1, if_neg c_1_2, if_neg c_1_3, if_pos c_1_4]; done) | simp [lenOf, c_1_1, c_1_2, c_1_3, c_1_4]) d_M_lengthOf_87
  by_cases c_1_5 : cd = 5
  · refine lv_tableIn (off := 85) (tgt := 86) hx hb d_M_lengthOf_1 (by rw [c_1_5]; decide) (by rw [c_1_5]; decide) (by rw [c_1_5] <;> rfl) (by decide) ?_
    refine lv_iconst (v := 1) hx hb d_M_lengthOf_86 (by decide) ?_
    rw [hQ]; exact retRi hx hb hr hlocks (by first | (simp only [lenOf, if_neg c_1_1, if_neg c_1_2, if_neg c_1_3, if_neg c_1_4, if_pos c_1_5]; done) | simp [lenOf, c_1_1, c_1_2, c_1_3, c_1_4, c_1_5]) d_M_lengthOf_87
  by_cases c_1_6 : cd = 6
  · refine lv_tableIn (off := 85) (tgt := 86) hx hb d_M_lengthOf_1 (by rw [c_1_6]; decide) (by rw [c_1_6]; decide) (by rw [c_1_6] <;> rfl) (by decide) ?_
    refine lv_iconst (v := 1) hx hb d_M_lengthOf_86 (by decide) ?_
    rw [hQ]; exact retRi hx hb hr hlocks (by first | (simp only [lenOf, if_neg c_1_1, if_neg c_1_2, if_neg c_1_3, if_neg c_1_4, if_neg c_1_5, if_pos c_1_6]; done) | simp [lenOf, c_1_1, c_1_2, c_1_3, c_1_4, c_1_5, c_1_6]) d_M_lengthOf_87
  by_cases c_1_7 : cd = 7
  · refine lv_tableIn (off := 85) (tgt := 86) hx hb d_M_lengthOf_1 (by rw [c_1_7]; decide) (by rw [c_1_7]; decide) (by rw [c_1_7] <;> rfl) (by decide) ?_
    refine lv_iconst (v := 1) hx hb d_M_lengthOf_86 (by decide) ?_
    rw [hQ]; exact retRi hx hb hr hlocks (by first | (simp only [lenOf, if_neg c_1_1, if_neg c_1_2, if_neg c_1_3, if_neg c_1_4, if_neg c_1_5, if_neg c_1_6, if_pos c_1_7]; done) | simp [lenOf, c_1_1, c_1_2, c_1_3, c_1_4, c_1_5, c_1_6, c_1_7]) d_M_lengthOf_87
  by_cases c_1_8 : cd = 8
  · refine lv_tableIn (off := 85) (tgt := 86) hx hb d_M_lengthOf_1 (by rw [c_1_8]; decide) (by rw [c_1_8]; decide) (by rw [c_1_8] <;> rfl) (by decide) ?_
    refine lv_iconst (v := 1) hx hb d_M_lengthOf_86 (by decide) ?_
    rw [hQ]; exact retRi hx hb hr hlocks (by first | (simp only [lenOf, if_neg c_1_1, if_neg c_1_2, if_neg c_1_3, if_neg c_1_4, if_neg c_1_5, if_neg c_1_6, if_neg c_1_7, if_pos c_1_8]; done) | simp [lenOf, c_1_1, c_1_2, c_1_3, c_1_4, c_1_5, c_1_6, c_1_7, c_1_8]) d_M_lengthOf_87
  by_cases c_1_9 : cd = 9
  · refine lv_tableIn (off := 83) (tgt := 84) hx hb d_M_lengthOf_1 (by rw [c_1_9]; decide) (by rw [c_1_9]; decide) (by rw [c_1_9] <;> rfl) (by decide) ?_
    refine lv_iconst (v := 3) hx hb d_M_lengthOf_84 (by decide) ?_
    rw [hQ]; exact retRi hx hb hr hlocks (by first | (simp only [lenOf, if_neg c_1_1, if_neg c_1_2, if_neg c_1_3, if_neg c_1_4, if_neg c_1_5, if_neg c_1_6, if_neg c_1_7, if_neg c_1_8, if_pos c_1_9]; done) | simp [lenOf, c_1_1, c_1_2, c_1_3, c_1_4, c_1_5, c_1_6, c_1_7, c_1_8, c_1_9]) d_M_lengthOf_85
  by_cases c_1_10 : cd = 10
  · refine lv_tableIn (off := 85) (tgt := 86) hx hb d_M_lengthOf_1 (by rw [c_1_10]; decide) (by rw [c_1_10]; decide) (by rw [c_1_10] <;> rfl) (by decide) ?_
    refine lv_iconst (v := 1) hx hb d_M_lengthOf_86 (by decide) ?_
    rw [hQ]; exact retRi hx hb hr hlocks (by first | (simp only [lenOf, if_neg c_1_1, if_neg c_1_2, if_neg c_1_3, if_neg c_1_4, if_neg c_1_5, if_neg c_1_6, if_neg c_1_7, if_neg c_1_8, if_neg c_1_9, if_pos c_1_10]; done) | simp [lenOf, c_1_1, c_1_2, c_1_3, c_1_4, c_1_5, c_1_6, c_1_7, c_1_8, c_1_9, c_1_10]) d_M_lengthOf_87
  by_cases c_1_11 : cd = 11
  · refine lv_tableIn (off := 87) (tgt := 88) hx hb d_M_lengthOf_1 (by rw [c_1_11]; decide) (by rw [c_1_11]; decide) (by rw [c_1_11] <;> rfl) (by decide) ?_
    refine lv_iconst (v := 0) hx hb d_M_lengthOf_88 (by decide) ?_
    rw [hQ]; exact retRi hx hb hr hlocks (by first | (simp only [lenOf, if_neg c_1_1, if_neg c_1_2, if_neg c_1_3, if_neg c_1_4, if_neg c_1_5, if_neg c_1_6, if_neg c_1_7, if_neg c_1_8, if_neg c_1_9, if_neg c_1_10, if_pos c_1_11]; done) | simp [lenOf, c_1_1, c_1_2, c_1_3, c_1_4, c_1_5, c_1_6, c_1_7, c_1_8, c_1_9, c_1_10, c_1_11]) d_M_lengthOf_89
  by_cases c_1_12 : cd = 12
  · refine lv_tableIn (off := 87) (tgt := 88) hx hb d_M_lengthOf_1 (by rw [c_1_12]; decide) (by rw [c_1_12]; decide) (by rw [c_1_12] <;> rfl) (by decide) ?_
    refine lv_iconst (v := 0) hx hb d_M_lengthOf_88 (by decide) ?_
    rw [hQ]; exact retRi hx hb hr hlocks (by first | (simp only [lenOf, if_neg c_1_1, if_neg c_1_2, if_neg c_1_3, if_neg c_1_4, if_neg c_1_5, if_neg c_1_6, if_neg c_1_7, if_neg c_1_8, if_neg c_1_9, if_neg c_1_10, if_neg c_1_11, if_pos c_1_12]; done) | simp [lenOf, c_1_1, c_1_2, c_1_3, c_1_4, c_1_5, c_1_6, c_1_7, c_1_8, c_1_9, c_1_10, c_1_11, c_1_12]) d_M_lengthOf_89
  by_cases c_1_13 : cd = 13
  · refine lv_tableIn (off := 87) (tgt := 88) hx hb d_M_lengthOf_1 (by rw [c_1_13]; decide) (by rw [c_1_13]; decide) (by rw [c_1_13] <;> rfl) (by decide) ?_
    refine lv_iconst (v := 0) hx hb d_M_lengthOf_88 (by decide) ?_
    rw [hQ]; exact retRi hx hb hr hlocks (by first | (simp only [lenOf, if_neg c_1_1, if_neg c_1_2, if_neg c_1_3, if_neg c_1_4, if_neg c_1_5, if_neg c_1_6, if_neg c_1_7, if_neg c_1_8, if_neg c_1_9, if_neg c_1_10, if_neg c_1_11, if_neg c_1_12, if_pos c_1_13]; done) | simp [lenOf, c_1_1, c_1_2, c_1_3, c_1_4, c_1_5, c_1_6, c_1_7, c_1_8, c_1_9, c_1_10, c_1_11, c_1_12, c_1_13]) d_M_lengthOf_89
  by_cases c_1_14 : cd = 14
  · refine lv_tableIn (off := 87) (tgt := 88) hx hb d_M_lengthOf_1 (by rw [c_1_14]; decide) (by rw [c_1_14]; decide) (by rw [c_1_14] <;> rfl) (by decide) ?_
    refine lv_iconst (v := 0) hx hb d_M_lengthOf_88 (by decide) ?_
    rw [hQ]; exact retRi hx hb hr hlocks (by first | (simp only [lenOf, if_neg c_1_1, if_neg c_1_2, if_neg c_1_3, if_neg c_1_4, if_neg c_1_5, if_neg c_1_6, if_neg c_1_7, if_neg c_1_8, if_neg c_1_9, if_neg c_1_10, if_neg c_1_11, if_neg c_1_12, if_neg c_1_13, if_pos c_1_14]; done) | simp [lenOf, c_1_1, c_1_2, c_1_3, c_1_4, c_1_5, c_1_6, c_1_7, c_1_8, c_1_9, c_1_10, c_1_11, c_1_12, c_1_13, c_1_14]) d_M_lengthOf_89
  by_cases c_1_15 : cd = 15
  · refine lv_tableIn (off := 87) (tgt := 88) hx hb d_M_lengthOf_1 (by rw [c_1_15]; decide) (by rw [c_1_15]; decide) (by rw [c_1_15] <;> rfl) (by decide) ?_
    refine lv_iconst (v := 0) hx hb d_M_lengthOf_88 (by decide) ?_
    rw [hQ]; exact retRi hx hb hr hlocks (by first | (simp only [lenOf, if_neg c_1_1, if_neg c_1_2, if_neg c_1_3, if_neg c_1_4, if_neg c_1_5, if_neg c_1_6, if_neg c_1_7, if_neg c_1_8, if_neg c_1_9, if_neg c_1_10, if_neg c_1_11, if_neg c_1_12, if_neg c_1_13, if_neg c_1_14, if_pos c_1_15]; done) | simp [lenOf, c_1_1, c_1_2, c_1_3, c_1_4, c_1_5, c_1_6, c_1_7, c_1_8, c_1_9, c_1_10, c_1_11, c_1_12, c_1_13, c_1_14, c_1_15]) d_M_lengthOf_89
  by_cases c_1_16 : cd = 16
  · refine lv_tableIn (off := 79) (tgt := 80) hx hb d_M_lengthOf_1 (by rw [c_1_16]; decide) (by rw [c_1_16]; decide) (by rw [c_1_16] <;> rfl) (by decide) ?_
    refine lv_iconst (v := 2) hx hb d_M_lengthOf_80 (by decide) ?_
    rw [hQ]; exact retRi hx hb hr hlocks (by first | (simp only [lenOf, if_neg c_1_1, if_neg c_1_2, if_neg c_1_3, if_neg c_1_4, if_neg c_1_5, if_neg c_1_6, if_neg c_1_7, if_neg c_1_8, if_neg c_1_9, if_neg c_1_10, if_neg c_1_11, if_neg c_1_12, if_neg c_1_13, if_neg c_1_14, if_neg c_1_15, if_pos c_1_16]; done) | simp [lenOf, c_1_1, c_1_2, c_1_3, c_1_4, c_1_5, c_1_6, c_1_7, c_1_8, c_1_9, c_1_10, c_1_11, c_1_12, c_1_13, c_1_14, c_1_15, c_1_16]) d_M_lengthOf_81
  refine lv_tableOut (tgt := 88) hx hb d_M_lengthOf_1 (by have := lv_neT c_1_1 (show (1 : Int32).toInt = 1 by decide); have := lv_neT c_1_2 (show (2 : Int32).toInt = 2 by decide); have := lv_neT c_1_3 (show (3 : Int32).toInt = 3 by decide); have := lv_neT c_1_4 (show (4 : Int32).toInt = 4 by decide); have := lv_neT c_1_5 (show (5 : Int32).toInt = 5 by decide); have := lv_neT c_1_6 (show (6 : Int32).toInt = 6 by decide); have := lv_neT c_1_7 (show (7 : Int32).toInt = 7 by decide); have := lv_neT c_1_8 (show (8 : Int32).toInt = 8 by decide); have := lv_neT c_1_9 (show (9 : Int32).toInt = 9 by decide); have := lv_neT c_1_10 (show (10 : Int32).toInt = 10 by decide); have := lv_neT c_1_11 (show (11 : Int32).toInt = 11 by decide); have := lv_neT c_1_12 (show (12 : Int32).toInt = 12 by decide); have := lv_neT c_1_13 (show (13 : Int32).toInt = 13 by decide); have := lv_neT c_1_14 (show (14 : Int32).toInt = 14 by decide); have := lv_neT c_1_15 (show (15 : Int32).toInt = 15 by decide); have := lv_neT c_1_16 (show (16 : Int32).toInt = 16 by decide); omega) (by decide) ?_
  refine lv_iconst (v := 0) hx hb d_M_lengthOf_88 (by decide) ?_
  rw [hQ]; exact retRi hx hb hr hlocks (by first | (simp only [lenOf, if_neg c_1_1, if_neg c_1_2, if_neg c_1_3, if_neg c_1_4, if_neg c_1_5, if_neg c_1_6, if_neg c_1_7, if_neg c_1_8, if_neg c_1_9, if_neg c_1_10, if_neg c_1_11, if_neg c_1_12, if_neg c_1_13, if_neg c_1_14, if_neg c_1_15, if_neg c_1_16]; done) | simp [lenOf, c_1_1, c_1_2, c_1_3, c_1_4, c_1_5, c_1_6, c_1_7, c_1_8, c_1_9, c_1_10, c_1_11, c_1_12, c_1_13, c_1_14, c_1_15, c_1_16]) d_M_lengthOf_89

abbrev w_B_fitsOneByte : List Cond := .code y_B_fitsOneByte b_B_fitsOneByte 1 (some .boolean) :: BIG
set_option maxHeartbeats 4000000 in
set_option maxRecDepth 100000 in
theorem c_B_fitsOneByte (l : Launch) (D : va_G) (cI cL cO : ClassId) (n : Int32) : CRi l y_B_fitsOneByte w_B_fitsOneByte ({ frames := 0, cells := 0, slots := 0, locals := 0 }) D cI cL cO [.int n] ([]) (fitsB n) := by
  refine ofR (cc := b_B_fitsOneByte) (maxL := 1) (ret := (some .boolean)) (by decide) rfl (Nat.le_of_ble_eq_true rfl) ?_
  intro p e s m below meth c ls Q hQ hx hb hr hlocks hts hown hml hP hK hl
  have hl : lv_has ls 1 [(0, .int n)] := hl
  have hown : s.vm.findClass R_B = some m.cls := hown
  have ht : ∀ w ∈ BIG, w.before _ s = true := fun w h => hts w (List.mem_cons_of_mem _ h)
  refine lv_iload_n hx hb d_B_fitsOneByte_0 rfl (lv_at hl 0 rfl) ?_
  refine lv_bipush (v := (-128)) hx hb d_B_fitsOneByte_1 (by decide) ?_
  refine lv_icmp_lt (tgt := 16) hx hb d_B_fitsOneByte_3 (by decide) (fun c_3 => ?_) (fun c_3 => ?_)
  · refine lv_iconst (v := 0) hx hb d_B_fitsOneByte_16 (by decide) ?_
    rw [hQ]; exact retRz hx hb hr hlocks rfl (by first | (simp only [fitsB, if_pos c_3]; done) | simp [fitsB, c_3]) d_B_fitsOneByte_17
  · refine lv_iload_n hx hb d_B_fitsOneByte_6 rfl (lv_at hl 0 rfl) ?_
    refine lv_bipush (v := 127) hx hb d_B_fitsOneByte_7 (by decide) ?_
    refine lv_icmp_gt (tgt := 16) hx hb d_B_fitsOneByte_9 (by decide) (fun c_9 => ?_) (fun c_9 => ?_)
    · refine lv_iconst (v := 0) hx hb d_B_fitsOneByte_16 (by decide) ?_
      rw [hQ]; exact retRz hx hb hr hlocks rfl (by first | (simp only [fitsB, if_neg c_3, if_pos c_9]; done) | simp [fitsB, c_3, c_9]) d_B_fitsOneByte_17
    · refine lv_iconst (v := 1) hx hb d_B_fitsOneByte_12 (by decide) ?_
      refine lv_goto (tgt := 17) hx hb d_B_fitsOneByte_13 (by decide) ?_
      rw [hQ]; exact retRz hx hb hr hlocks rfl (by first | (simp only [fitsB, if_neg c_3, if_neg c_9]; done) | simp [fitsB, c_3, c_9]) d_B_fitsOneByte_17

abbrev w_B_bytesFor : List Cond := .code y_B_bytesFor b_B_bytesFor 2 (some .int) :: BIG
set_option maxHeartbeats 4000000 in
set_option maxRecDepth 100000 in
theorem c_B_bytesFor (l : Launch) (D : va_G) (cI cL cO : ClassId) (op : Int32) (b : Int32) : CRi l y_B_bytesFor w_B_bytesFor ({ frames := 1, cells := 0, slots := 0, locals := 20 }) D cI cL cO [.int op, .int b] ([]) (bytesF op b) := by
  refine ofR (cc := b_B_bytesFor) (maxL := 2) (ret := (some .int)) (by decide) rfl (Nat.le_of_ble_eq_true rfl) ?_
  intro p e s m below meth c ls Q hQ hx hb hr hlocks hts hown hml hP hK hl
  have hl : lv_has ls 2 [(0, .int op), (1, .int b)] := hl
  have hown : s.vm.findClass R_B = some m.cls := hown
  have ht : ∀ w ∈ BIG, w.before _ s = true := fun w h => hts w (List.mem_cons_of_mem _ h)
  refine lv_iload_n hx hb d_B_bytesFor_0 rfl (lv_at hl 0 rfl) ?_
  by_cases c_1_0 : op = 0
  · refine lv_lookup (off := 35) (tgt := 36) hx hb d_B_bytesFor_1 (by decide) (by rw [c_1_0] <;> rfl) (by decide) ?_
    refine lv_iload_n hx hb d_B_bytesFor_36 rfl (lv_at hl 1 rfl) ?_
    refine goRi (va_runS (As := [.int b]) (rest := []) ⟨hx, hb, hml, hown, hts⟩ (c_B_fitsOneByte l D cI cL cO b) (cwS 1 hts (gBIG (m3 k_ml_B_69 k_st_B_fitsOneByte k_ini_B) k_co_B_fitsOneByte) rfl rfl rfl (by decide +kernel) ⟨Nat.le_of_ble_eq_true rfl, Nat.le_of_ble_eq_true rfl⟩) ⟨PR.bl, PR.pre P_nil hK⟩ rfl rfl hl.1 rfl (lv_room (Nat.le_of_ble_eq_true rfl)) d_B_bytesFor_37 ⟨Nat.le_of_ble_eq_true rfl, Nat.le_of_ble_eq_true rfl⟩) ?_
    refine lv_if_eq (tgt := 48) hx hb d_B_bytesFor_40 (by decide) (fun c_40 => ?_) (fun c_40 => ?_)
    · refine lv_iconst (v := 3) hx hb d_B_bytesFor_48 (by decide) ?_
      refine goRi (va_runSN (As := [.int 3]) (rest := []) ⟨hx, hb, hml, hown, hts⟩ (c_M_lengthOf l D cI cL cO 3) ⟨va_cnB 1 hts (gB0 k_co_M_lengthOf) rfl rfl rfl (hK.2 _ n_ml_B_48) (ht _ k_ini_M) (by decide +kernel) ⟨Nat.le_of_ble_eq_true rfl, Nat.le_of_ble_eq_true rfl⟩, ht _ k_st_M_lengthOf, trivial⟩ ⟨PR.bl, PR.pre P_nil hK⟩ rfl rfl hl.1 rfl (lv_room (Nat.le_of_ble_eq_true rfl)) d_B_bytesFor_49 ⟨Nat.le_of_ble_eq_true rfl, Nat.le_of_ble_eq_true rfl⟩) ?_
      refine lv_iconst (v := 2) hx hb d_B_bytesFor_52 (by decide) ?_
      refine goRi (va_runSN (As := [.int 2]) (rest := [.int (lenOf 3)]) ⟨hx, hb, hml, hown, hts⟩ (c_M_lengthOf l D cI cL cO 2) ⟨va_cnB 1 hts (gB0 k_co_M_lengthOf) rfl rfl rfl (hK.2 _ n_ml_B_48) (ht _ k_ini_M) (by decide +kernel) ⟨Nat.le_of_ble_eq_true rfl, Nat.le_of_ble_eq_true rfl⟩, ht _ k_st_M_lengthOf, trivial⟩ ⟨PR.bl, PR.pre P_nil hK⟩ rfl rfl hl.1 rfl (lv_room (Nat.le_of_ble_eq_true rfl)) d_B_bytesFor_53 ⟨Nat.le_of_ble_eq_true rfl, Nat.le_of_ble_eq_true rfl⟩) ?_
      refine lv_iadd hx hb d_B_bytesFor_56 ?_
      rw [hQ]; exact retRi hx hb hr hlocks (by first | (simp only [bytesF, if_pos c_1_0, if_pos c_40]; done) | simp [bytesF, c_1_0, c_40]) d_B_bytesFor_57
    · refine lv_bipush (v := 16) hx hb d_B_bytesFor_43 (by decide) ?_
      refine lv_goto (tgt := 49) hx hb d_B_bytesFor_45 (by decide) ?_
      refine goRi (va_runSN (As := [.int 16]) (rest := []) ⟨hx, hb, hml, hown, hts⟩ (c_M_lengthOf l D cI cL cO 16) ⟨va_cnB 1 hts (gB0 k_co_M_lengthOf) rfl rfl rfl (hK.2 _ n_ml_B_48) (ht _ k_ini_M) (by decide +kernel) ⟨Nat.le_of_ble_eq_true rfl, Nat.le_of_ble_eq_true rfl⟩, ht _ k_st_M_lengthOf, trivial⟩ ⟨PR.bl, PR.pre P_nil hK⟩ rfl rfl hl.1 rfl (lv_room (Nat.le_of_ble_eq_true rfl)) d_B_bytesFor_49 ⟨Nat.le_of_ble_eq_true rfl, Nat.le_of_ble_eq_true rfl⟩) ?_
      refine lv_iconst (v := 2) hx hb d_B_bytesFor_52 (by decide) ?_
      refine goRi (va_runSN (As := [.int 2]) (rest := [.int (lenOf 16)]) ⟨hx, hb, hml, hown, hts⟩ (c_M_lengthOf l D cI cL cO 2) ⟨va_cnB 1 hts (gB0 k_co_M_lengthOf) rfl rfl rfl (hK.2 _ n_ml_B_48) (ht _ k_ini_M) (by decide +kernel) ⟨Nat.le_of_ble_eq_true rfl, Nat.le_of_ble_eq_true rfl⟩, ht _ k_st_M_lengthOf, trivial⟩ ⟨PR.bl, PR.pre P_nil hK⟩ rfl rfl hl.1 rfl (lv_room (Nat.le_of_ble_eq_true rfl)) d_B_bytesFor_53 ⟨Nat.le_of_ble_eq_true rfl, Nat.le_of_ble_eq_true rfl⟩) ?_
      refine lv_iadd hx hb d_B_bytesFor_56 ?_
      rw [hQ]; exact retRi hx hb hr hlocks (by first | (simp only [bytesF, if_pos c_1_0, if_neg c_40]; done) | simp [bytesF, c_1_0, c_40]) d_B_bytesFor_57
  by_cases c_1_6 : op = 6
  · refine lv_lookup (off := 57) (tgt := 58) hx hb d_B_bytesFor_1 (by decide) (by rw [c_1_6] <;> rfl) (by decide) ?_
    refine lv_iconst (v := 1) hx hb d_B_bytesFor_58 (by decide) ?_
    refine goRi (va_runSN (As := [.int 1]) (rest := []) ⟨hx, hb, hml, hown, hts⟩ (c_M_lengthOf l D cI cL cO 1) ⟨va_cnB 1 hts (gB0 k_co_M_lengthOf) rfl rfl rfl (hK.2 _ n_ml_B_48) (ht _ k_ini_M) (by decide +kernel) ⟨Nat.le_of_ble_eq_true rfl, Nat.le_of_ble_eq_true rfl⟩, ht _ k_st_M_lengthOf, trivial⟩ ⟨PR.bl, PR.pre P_nil hK⟩ rfl rfl hl.1 rfl (lv_room (Nat.le_of_ble_eq_true rfl)) d_B_bytesFor_59 ⟨Nat.le_of_ble_eq_true rfl, Nat.le_of_ble_eq_true rfl⟩) ?_
    refine lv_bipush (v := 9) hx hb d_B_bytesFor_62 (by decide) ?_
    refine goRi (va_runSN (As := [.int 9]) (rest := [.int (lenOf 1)]) ⟨hx, hb, hml, hown, hts⟩ (c_M_lengthOf l D cI cL cO 9) ⟨va_cnB 1 hts (gB0 k_co_M_lengthOf) rfl rfl rfl (hK.2 _ n_ml_B_48) (ht _ k_ini_M) (by decide +kernel) ⟨Nat.le_of_ble_eq_true rfl, Nat.le_of_ble_eq_true rfl⟩, ht _ k_st_M_lengthOf, trivial⟩ ⟨PR.bl, PR.pre P_nil hK⟩ rfl rfl hl.1 rfl (lv_room (Nat.le_of_ble_eq_true rfl)) d_B_bytesFor_64 ⟨Nat.le_of_ble_eq_true rfl, Nat.le_of_ble_eq_true rfl⟩) ?_
    refine lv_iadd hx hb d_B_bytesFor_67 ?_
    rw [hQ]; exact retRi hx hb hr hlocks (by first | (simp only [bytesF, if_neg c_1_0, if_pos c_1_6]; done) | simp [bytesF, c_1_0, c_1_6]) d_B_bytesFor_68
  by_cases c_1_7 : op = 7
  · refine lv_lookup (off := 68) (tgt := 69) hx hb d_B_bytesFor_1 (by decide) (by rw [c_1_7] <;> rfl) (by decide) ?_
    refine lv_iconst (v := 1) hx hb d_B_bytesFor_69 (by decide) ?_
    refine goRi (va_runSN (As := [.int 1]) (rest := []) ⟨hx, hb, hml, hown, hts⟩ (c_M_lengthOf l D cI cL cO 1) ⟨va_cnB 1 hts (gB0 k_co_M_lengthOf) rfl rfl rfl (hK.2 _ n_ml_B_48) (ht _ k_ini_M) (by decide +kernel) ⟨Nat.le_of_ble_eq_true rfl, Nat.le_of_ble_eq_true rfl⟩, ht _ k_st_M_lengthOf, trivial⟩ ⟨PR.bl, PR.pre P_nil hK⟩ rfl rfl hl.1 rfl (lv_room (Nat.le_of_ble_eq_true rfl)) d_B_bytesFor_70 ⟨Nat.le_of_ble_eq_true rfl, Nat.le_of_ble_eq_true rfl⟩) ?_
    refine lv_iconst (v := 2) hx hb d_B_bytesFor_73 (by decide) ?_
    refine goRi (va_runSN (As := [.int 2]) (rest := [.int (lenOf 1)]) ⟨hx, hb, hml, hown, hts⟩ (c_M_lengthOf l D cI cL cO 2) ⟨va_cnB 1 hts (gB0 k_co_M_lengthOf) rfl rfl rfl (hK.2 _ n_ml_B_48) (ht _ k_ini_M) (by decide +kernel) ⟨Nat.le_of_ble_eq_true rfl, Nat.le_of_ble_eq_true rfl⟩, ht _ k_st_M_lengthOf, trivial⟩ ⟨PR.bl, PR.pre P_nil hK⟩ rfl rfl hl.1 rfl (lv_room (Nat.le_of_ble_eq_true rfl)) d_B_bytesFor_74 ⟨Nat.le_of_ble_eq_true rfl, Nat.le_of_ble_eq_true rfl⟩) ?_
    refine lv_iadd hx hb d_B_bytesFor_77 ?_
    rw [hQ]; exact retRi hx hb hr hlocks (by first | (simp only [bytesF, if_neg c_1_0, if_neg c_1_6, if_pos c_1_7]; done) | simp [bytesF, c_1_0, c_1_6, c_1_7]) d_B_bytesFor_78
  refine lv_lookup (off := 78) (tgt := 79) hx hb d_B_bytesFor_1 (by decide) (by rw [lv_osw c_1_0 (by decide), lv_osw c_1_6 (by decide), lv_osw c_1_7 (by decide)] <;> rfl) (by decide) ?_
  refine lv_iconst (v := 2) hx hb d_B_bytesFor_79 (by decide) ?_
  refine lv_iconst (v := 1) hx hb d_B_bytesFor_80 (by decide) ?_
  refine goRi (va_runSN (As := [.int 1]) (rest := [.int 2]) ⟨hx, hb, hml, hown, hts⟩ (c_M_lengthOf l D cI cL cO 1) ⟨va_cnB 1 hts (gB0 k_co_M_lengthOf) rfl rfl rfl (hK.2 _ n_ml_B_48) (ht _ k_ini_M) (by decide +kernel) ⟨Nat.le_of_ble_eq_true rfl, Nat.le_of_ble_eq_true rfl⟩, ht _ k_st_M_lengthOf, trivial⟩ ⟨PR.bl, PR.pre P_nil hK⟩ rfl rfl hl.1 rfl (lv_room (Nat.le_of_ble_eq_true rfl)) d_B_bytesFor_81 ⟨Nat.le_of_ble_eq_true rfl, Nat.le_of_ble_eq_true rfl⟩) ?_
  refine lv_imul hx hb d_B_bytesFor_84 ?_
  refine lv_iload_n hx hb d_B_bytesFor_85 rfl (lv_at hl 0 rfl) ?_
  refine lv_iconst (v := 3) hx hb d_B_bytesFor_86 (by decide) ?_
  refine lv_iadd hx hb d_B_bytesFor_87 ?_
  refine goRi (va_runSN (As := [.int (op + 3)]) (rest := [.int (2 * (lenOf 1))]) ⟨hx, hb, hml, hown, hts⟩ (c_M_lengthOf l D cI cL cO (op + 3)) ⟨va_cnB 1 hts (gB0 k_co_M_lengthOf) rfl rfl rfl (hK.2 _ n_ml_B_48) (ht _ k_ini_M) (by decide +kernel) ⟨Nat.le_of_ble_eq_true rfl, Nat.le_of_ble_eq_true rfl⟩, ht _ k_st_M_lengthOf, trivial⟩ ⟨PR.bl, PR.pre P_nil hK⟩ rfl rfl hl.1 rfl (lv_room (Nat.le_of_ble_eq_true rfl)) d_B_bytesFor_88 ⟨Nat.le_of_ble_eq_true rfl, Nat.le_of_ble_eq_true rfl⟩) ?_
  refine lv_iadd hx hb d_B_bytesFor_91 ?_
  refine lv_iconst (v := 2) hx hb d_B_bytesFor_92 (by decide) ?_
  refine goRi (va_runSN (As := [.int 2]) (rest := [.int ((2 * (lenOf 1)) + (lenOf (op + 3)))]) ⟨hx, hb, hml, hown, hts⟩ (c_M_lengthOf l D cI cL cO 2) ⟨va_cnB 1 hts (gB0 k_co_M_lengthOf) rfl rfl rfl (hK.2 _ n_ml_B_48) (ht _ k_ini_M) (by decide +kernel) ⟨Nat.le_of_ble_eq_true rfl, Nat.le_of_ble_eq_true rfl⟩, ht _ k_st_M_lengthOf, trivial⟩ ⟨PR.bl, PR.pre P_nil hK⟩ rfl rfl hl.1 rfl (lv_room (Nat.le_of_ble_eq_true rfl)) d_B_bytesFor_93 ⟨Nat.le_of_ble_eq_true rfl, Nat.le_of_ble_eq_true rfl⟩) ?_
  refine lv_iadd hx hb d_B_bytesFor_96 ?_
  rw [hQ]; exact retRi hx hb hr hlocks (by first | (simp only [bytesF, if_neg c_1_0, if_neg c_1_6, if_neg c_1_7]; done) | simp [bytesF, c_1_0, c_1_6, c_1_7]) d_B_bytesFor_97

abbrev w_K_takenBy : List Cond := .code y_K_takenBy b_K_takenBy 1 (some .int) :: BIG
set_option maxHeartbeats 4000000 in
set_option maxRecDepth 100000 in
theorem c_K_takenBy (l : Launch) (D : va_G) (cI cL cO : ClassId) (cd : Int32) : CRi l y_K_takenBy w_K_takenBy ({ frames := 0, cells := 0, slots := 0, locals := 0 }) D cI cL cO [.int cd] ([]) (takenF cd) := by
  refine ofR (cc := b_K_takenBy) (maxL := 1) (ret := (some .int)) (by decide) rfl (Nat.le_of_ble_eq_true rfl) ?_
  intro p e s m below meth c ls Q hQ hx hb hr hlocks hts hown hml hP hK hl
  have hl : lv_has ls 1 [(0, .int cd)] := hl
  have hown : s.vm.findClass R_K = some m.cls := hown
  have ht : ∀ w ∈ BIG, w.before _ s = true := fun w h => hts w (List.mem_cons_of_mem _ h)
  refine lv_iload_n hx hb d_K_takenBy_0 rfl (lv_at hl 0 rfl) ?_
  by_cases c_1_2 : cd = 2
  · refine lv_tableIn (off := 47) (tgt := 48) hx hb d_K_takenBy_1 (by rw [c_1_2]; decide) (by rw [c_1_2]; decide) (by rw [c_1_2] <;> rfl) (by decide) ?_
    refine lv_iconst (v := 1) hx hb d_K_takenBy_48 (by decide) ?_
    rw [hQ]; exact retRi hx hb hr hlocks (by first | (simp only [takenF, if_pos c_1_2]; done) | simp [takenF, c_1_2]) d_K_takenBy_49
  by_cases c_1_3 : cd = 3
  · refine lv_tableIn (off := 51) (tgt := 52) hx hb d_K_takenBy_1 (by rw [c_1_3]; decide) (by rw [c_1_3]; decide) (by rw [c_1_3] <;> rfl) (by decide) ?_
    refine lv_iconst (v := 0) hx hb d_K_takenBy_52 (by decide) ?_
    rw [hQ]; exact retRi hx hb hr hlocks (by first | (simp only [takenF, if_neg c_1_2, if_pos c_1_3]; done) | simp [takenF, c_1_2, c_1_3]) d_K_takenBy_53
  by_cases c_1_4 : cd = 4
  · refine lv_tableIn (off := 49) (tgt := 50) hx hb d_K_takenBy_1 (by rw [c_1_4]; decide) (by rw [c_1_4]; decide) (by rw [c_1_4] <;> rfl) (by decide) ?_
    refine lv_iconst (v := 2) hx hb d_K_takenBy_50 (by decide) ?_
    rw [hQ]; exact retRi hx hb hr hlocks (by first | (simp only [takenF, if_neg c_1_2, if_neg c_1_3, if_pos c_1_4]; done) | simp [takenF, c_1_2, c_1_3, c_1_4]) d_K_takenBy_51
  by_cases c_1_5 : cd = 5
  · refine lv_tableIn (off := 49) (tgt := 50) hx hb d_K_takenBy_1 (by rw [c_1_5]; decide) (by rw [c_1_5]; decide) (by rw [c_1_5] <;> rfl) (by decide) ?_
    refine lv_iconst (v := 2) hx hb d_K_takenBy_50 (by decide) ?_
    rw [hQ]; exact retRi hx hb hr hlocks (by first | (simp only [takenF, if_neg c_1_2, if_neg c_1_3, if_neg c_1_4, if_pos c_1_5]; done) | simp [takenF, c_1_2, c_1_3, c_1_4, c_1_5]) d_K_takenBy_51
  by_cases c_1_6 : cd = 6
  · refine lv_tableIn (off := 49) (tgt := 50) hx hb d_K_takenBy_1 (by rw [c_1_6]; decide) (by rw [c_1_6]; decide) (by rw [c_1_6] <;> rfl) (by decide) ?_
    refine lv_iconst (v := 2) hx hb d_K_takenBy_50 (by decide) ?_
    rw [hQ]; exact retRi hx hb hr hlocks (by first | (simp only [takenF, if_neg c_1_2, if_neg c_1_3, if_neg c_1_4, if_neg c_1_5, if_pos c_1_6]; done) | simp [takenF, c_1_2, c_1_3, c_1_4, c_1_5, c_1_6]) d_K_takenBy_51
  by_cases c_1_7 : cd = 7
  · refine lv_tableIn (off := 49) (tgt := 50) hx hb d_K_takenBy_1 (by rw [c_1_7]; decide) (by rw [c_1_7]; decide) (by rw [c_1_7] <;> rfl) (by decide) ?_
    refine lv_iconst (v := 2) hx hb d_K_takenBy_50 (by decide) ?_
    rw [hQ]; exact retRi hx hb hr hlocks (by first | (simp only [takenF, if_neg c_1_2, if_neg c_1_3, if_neg c_1_4, if_neg c_1_5, if_neg c_1_6, if_pos c_1_7]; done) | simp [takenF, c_1_2, c_1_3, c_1_4, c_1_5, c_1_6, c_1_7]) d_K_takenBy_51
  by_cases c_1_8 : cd = 8
  · refine lv_tableIn (off := 49) (tgt := 50) hx hb d_K_takenBy_1 (by rw [c_1_8]; decide) (by rw [c_1_8]; decide) (by rw [c_1_8] <;> rfl) (by decide) ?_
    refine lv_iconst (v := 2) hx hb d_K_takenBy_50 (by decide) ?_
    rw [hQ]; exact retRi hx hb hr hlocks (by first | (simp only [takenF, if_neg c_1_2, if_neg c_1_3, if_neg c_1_4, if_neg c_1_5, if_neg c_1_6, if_neg c_1_7, if_pos c_1_8]; done) | simp [takenF, c_1_2, c_1_3, c_1_4, c_1_5, c_1_6, c_1_7, c_1_8]) d_K_takenBy_51
  by_cases c_1_9 : cd = 9
  · refine lv_tableIn (off := 47) (tgt := 48) hx hb d_K_takenBy_1 (by rw [c_1_9]; decide) (by rw [c_1_9]; decide) (by rw [c_1_9] <;> rfl) (by decide) ?_
    refine lv_iconst (v := 1) hx hb d_K_takenBy_48 (by decide) ?_
    rw [hQ]; exact retRi hx hb hr hlocks (by first | (simp only [takenF, if_neg c_1_2, if_neg c_1_3, if_neg c_1_4, if_neg c_1_5, if_neg c_1_6, if_neg c_1_7, if_neg c_1_8, if_pos c_1_9]; done) | simp [takenF, c_1_2, c_1_3, c_1_4, c_1_5, c_1_6, c_1_7, c_1_8, c_1_9]) d_K_takenBy_49
  refine lv_tableOut (tgt := 52) hx hb d_K_takenBy_1 (by have := lv_neT c_1_2 (show (2 : Int32).toInt = 2 by decide); have := lv_neT c_1_3 (show (3 : Int32).toInt = 3 by decide); have := lv_neT c_1_4 (show (4 : Int32).toInt = 4 by decide); have := lv_neT c_1_5 (show (5 : Int32).toInt = 5 by decide); have := lv_neT c_1_6 (show (6 : Int32).toInt = 6 by decide); have := lv_neT c_1_7 (show (7 : Int32).toInt = 7 by decide); have := lv_neT c_1_8 (show (8 : Int32).toInt = 8 by decide); have := lv_neT c_1_9 (show (9 : Int32).toInt = 9 by decide); omega) (by decide) ?_
  refine lv_iconst (v := 0) hx hb d_K_takenBy_52 (by decide) ?_
  rw [hQ]; exact retRi hx hb hr hlocks (by first | (simp only [takenF, if_neg c_1_2, if_neg c_1_3, if_neg c_1_4, if_neg c_1_5, if_neg c_1_6, if_neg c_1_7, if_neg c_1_8, if_neg c_1_9]; done) | simp [takenF, c_1_2, c_1_3, c_1_4, c_1_5, c_1_6, c_1_7, c_1_8, c_1_9]) d_K_takenBy_53

abbrev w_K_addedBy : List Cond := .code y_K_addedBy b_K_addedBy 1 (some .int) :: BIG
set_option maxHeartbeats 4000000 in
set_option maxRecDepth 100000 in
theorem c_K_addedBy (l : Launch) (D : va_G) (cI cL cO : ClassId) (cd : Int32) : CRi l y_K_addedBy w_K_addedBy ({ frames := 0, cells := 0, slots := 0, locals := 0 }) D cI cL cO [.int cd] ([]) (addedF cd) := by
  refine ofR (cc := b_K_addedBy) (maxL := 1) (ret := (some .int)) (by decide) rfl (Nat.le_of_ble_eq_true rfl) ?_
  intro p e s m below meth c ls Q hQ hx hb hr hlocks hts hown hml hP hK hl
  have hl : lv_has ls 1 [(0, .int cd)] := hl
  have hown : s.vm.findClass R_K = some m.cls := hown
  have ht : ∀ w ∈ BIG, w.before _ s = true := fun w h => hts w (List.mem_cons_of_mem _ h)
  refine lv_iload_n hx hb d_K_addedBy_0 rfl (lv_at hl 0 rfl) ?_
  by_cases c_1_2 : cd = 2
  · refine lv_lookup (off := 35) (tgt := 36) hx hb d_K_addedBy_1 (by decide) (by rw [c_1_2] <;> rfl) (by decide) ?_
    refine lv_iconst (v := 0) hx hb d_K_addedBy_36 (by decide) ?_
    rw [hQ]; exact retRi hx hb hr hlocks (by first | (simp only [addedF, if_pos c_1_2]; done) | simp [addedF, c_1_2]) d_K_addedBy_37
  by_cases c_1_9 : cd = 9
  · refine lv_lookup (off := 35) (tgt := 36) hx hb d_K_addedBy_1 (by decide) (by rw [c_1_9] <;> rfl) (by decide) ?_
    refine lv_iconst (v := 0) hx hb d_K_addedBy_36 (by decide) ?_
    rw [hQ]; exact retRi hx hb hr hlocks (by first | (simp only [addedF, if_neg c_1_2, if_pos c_1_9]; done) | simp [addedF, c_1_2, c_1_9]) d_K_addedBy_37
  by_cases c_1_10 : cd = 10
  · refine lv_lookup (off := 35) (tgt := 36) hx hb d_K_addedBy_1 (by decide) (by rw [c_1_10] <;> rfl) (by decide) ?_
    refine lv_iconst (v := 0) hx hb d_K_addedBy_36 (by decide) ?_
    rw [hQ]; exact retRi hx hb hr hlocks (by first | (simp only [addedF, if_neg c_1_2, if_neg c_1_9, if_pos c_1_10]; done) | simp [addedF, c_1_2, c_1_9, c_1_10]) d_K_addedBy_37
  refine lv_lookup (off := 37) (tgt := 38) hx hb d_K_addedBy_1 (by decide) (by rw [lv_osw c_1_2 (by decide), lv_osw c_1_9 (by decide), lv_osw c_1_10 (by decide)] <;> rfl) (by decide) ?_
  refine lv_iconst (v := 1) hx hb d_K_addedBy_38 (by decide) ?_
  rw [hQ]; exact retRi hx hb hr hlocks (by first | (simp only [addedF, if_neg c_1_2, if_neg c_1_9, if_neg c_1_10]; done) | simp [addedF, c_1_2, c_1_9, c_1_10]) d_K_addedBy_39

abbrev w_K_wrongAt : List Cond := .code y_K_wrongAt b_K_wrongAt 1 (some .int) :: BIG
set_option maxHeartbeats 4000000 in
set_option maxRecDepth 100000 in
theorem c_K_wrongAt (l : Launch) (D : va_G) (cI cL cO : ClassId) (at1 : Int32) : CRi l y_K_wrongAt w_K_wrongAt ({ frames := 0, cells := 0, slots := 0, locals := 0 }) D cI cL cO [.int at1] ([]) (1 + at1) := by
  refine ofR (cc := b_K_wrongAt) (maxL := 1) (ret := (some .int)) (by decide) rfl (Nat.le_of_ble_eq_true rfl) ?_
  intro p e s m below meth c ls Q hQ hx hb hr hlocks hts hown hml hP hK hl
  have hl : lv_has ls 1 [(0, .int at1)] := hl
  have hown : s.vm.findClass R_K = some m.cls := hown
  have ht : ∀ w ∈ BIG, w.before _ s = true := fun w h => hts w (List.mem_cons_of_mem _ h)
  refine lv_iconst (v := 1) hx hb d_K_wrongAt_0 (by decide) ?_
  refine lv_iload_n hx hb d_K_wrongAt_1 rfl (lv_at hl 0 rfl) ?_
  refine lv_iadd hx hb d_K_wrongAt_2 ?_
  rw [hQ]; exact retRi hx hb hr hlocks (by first | (simp only []; done) | simp []) d_K_wrongAt_3

abbrev w_U_worked : List Cond := .code y_U_worked b_U_worked 5 (some .long) :: BIG
set_option maxHeartbeats 4000000 in
set_option maxRecDepth 100000 in
theorem c_U_worked (l : Launch) (D : va_G) (cI cL cO : ClassId) (op : Int32) (x : Int64) (y : Int64) : CRl l y_U_worked w_U_worked ({ frames := 0, cells := 0, slots := 0, locals := 0 }) D cI cL cO [.int op, .long x, .long y] ([]) (workedF op x y) := by
  refine ofR (cc := b_U_worked) (maxL := 5) (ret := (some .long)) (by decide) rfl (Nat.le_of_ble_eq_true rfl) ?_
  intro p e s m below meth c ls Q hQ hx hb hr hlocks hts hown hml hP hK hl
  have hl : lv_has ls 5 [(0, .int op), (1, .long x), (3, .long y)] := hl
  have hown : s.vm.findClass R_U = some m.cls := hown
  have ht : ∀ w ∈ BIG, w.before _ s = true := fun w h => hts w (List.mem_cons_of_mem _ h)
  refine lv_iload_n hx hb d_U_worked_0 rfl (lv_at hl 0 rfl) ?_
  by_cases c_1_1 : op = 1
  · refine lv_tableIn (off := 35) (tgt := 36) hx hb d_U_worked_1 (by rw [c_1_1]; decide) (by rw [c_1_1]; decide) (by rw [c_1_1] <;> rfl) (by decide) ?_
    refine lv_lload_n hx hb d_U_worked_36 rfl (lv_at hl 1 rfl) ?_
    refine lv_lload_n hx hb d_U_worked_37 rfl (lv_at hl 2 rfl) ?_
    refine lv_ladd hx hb d_U_worked_38 ?_
    rw [hQ]; exact retRl hx hb hr hlocks (by first | (simp only [workedF, if_pos c_1_1]; done) | simp [workedF, c_1_1]) d_U_worked_39
  by_cases c_1_2 : op = 2
  · refine lv_tableIn (off := 39) (tgt := 40) hx hb d_U_worked_1 (by rw [c_1_2]; decide) (by rw [c_1_2]; decide) (by rw [c_1_2] <;> rfl) (by decide) ?_
    refine lv_lload_n hx hb d_U_worked_40 rfl (lv_at hl 1 rfl) ?_
    refine lv_lload_n hx hb d_U_worked_41 rfl (lv_at hl 2 rfl) ?_
    refine lv_lsub hx hb d_U_worked_42 ?_
    rw [hQ]; exact retRl hx hb hr hlocks (by first | (simp only [workedF, if_neg c_1_1, if_pos c_1_2]; done) | simp [workedF, c_1_1, c_1_2]) d_U_worked_43
  by_cases c_1_3 : op = 3
  · refine lv_tableIn (off := 43) (tgt := 44) hx hb d_U_worked_1 (by rw [c_1_3]; decide) (by rw [c_1_3]; decide) (by rw [c_1_3] <;> rfl) (by decide) ?_
    refine lv_lload_n hx hb d_U_worked_44 rfl (lv_at hl 1 rfl) ?_
    refine lv_lload_n hx hb d_U_worked_45 rfl (lv_at hl 2 rfl) ?_
    refine lv_lmul hx hb d_U_worked_46 ?_
    rw [hQ]; exact retRl hx hb hr hlocks (by first | (simp only [workedF, if_neg c_1_1, if_neg c_1_2, if_pos c_1_3]; done) | simp [workedF, c_1_1, c_1_2, c_1_3]) d_U_worked_47
  by_cases c_1_4 : op = 4
  · refine lv_tableIn (off := 47) (tgt := 48) hx hb d_U_worked_1 (by rw [c_1_4]; decide) (by rw [c_1_4]; decide) (by rw [c_1_4] <;> rfl) (by decide) ?_
    refine lv_lload_n hx hb d_U_worked_48 rfl (lv_at hl 2 rfl) ?_
    refine lv_lconst (v := 0) hx hb d_U_worked_49 (by decide) ?_
    refine W.lcmp hx hb d_U_worked_50 ?_
    refine lv_if_ne (tgt := 58) hx hb d_U_worked_51 (by decide) (fun c_51 => ?_) (fun c_51 => ?_)
    · refine lv_lload_n hx hb d_U_worked_58 rfl (lv_at hl 1 rfl) ?_
      refine lv_lload_n hx hb d_U_worked_59 rfl (lv_at hl 2 rfl) ?_
      refine lv_ldiv hx hb d_U_worked_60 (fun h => c_51 ((lg_cmp_eq _ _).mpr h)) ?_
      rw [hQ]; exact retRl hx hb hr hlocks (by first | (simp only [workedF, if_neg c_1_1, if_neg c_1_2, if_neg c_1_3, if_pos c_1_4, if_neg c_51]; done) | simp [workedF, c_1_1, c_1_2, c_1_3, c_1_4, c_51]) d_U_worked_61
    · refine lv_lconst (v := 0) hx hb d_U_worked_54 (by decide) ?_
      refine lv_goto (tgt := 61) hx hb d_U_worked_55 (by decide) ?_
      rw [hQ]; exact retRl hx hb hr hlocks (by first | (simp only [workedF, if_neg c_1_1, if_neg c_1_2, if_neg c_1_3, if_pos c_1_4, if_pos c_51]; done) | simp [workedF, c_1_1, c_1_2, c_1_3, c_1_4, c_51]) d_U_worked_61
  by_cases c_1_5 : op = 5
  · refine lv_tableIn (off := 61) (tgt := 62) hx hb d_U_worked_1 (by rw [c_1_5]; decide) (by rw [c_1_5]; decide) (by rw [c_1_5] <;> rfl) (by decide) ?_
    refine lv_lload_n hx hb d_U_worked_62 rfl (lv_at hl 1 rfl) ?_
    refine lv_lload_n hx hb d_U_worked_63 rfl (lv_at hl 2 rfl) ?_
    refine W.lcmp hx hb d_U_worked_64 ?_
    refine lv_if_ge (tgt := 72) hx hb d_U_worked_65 (by decide) (fun c_65 => ?_) (fun c_65 => ?_)
    · refine lv_lconst (v := 0) hx hb d_U_worked_72 (by decide) ?_
      rw [hQ]; exact retRl hx hb hr hlocks (by first | (simp only [workedF, if_neg c_1_1, if_neg c_1_2, if_neg c_1_3, if_neg c_1_4, if_pos c_1_5, if_pos c_65]; done) | simp [workedF, c_1_1, c_1_2, c_1_3, c_1_4, c_1_5, c_65]) d_U_worked_73
    · refine lv_lconst (v := 1) hx hb d_U_worked_68 (by decide) ?_
      refine lv_goto (tgt := 73) hx hb d_U_worked_69 (by decide) ?_
      rw [hQ]; exact retRl hx hb hr hlocks (by first | (simp only [workedF, if_neg c_1_1, if_neg c_1_2, if_neg c_1_3, if_neg c_1_4, if_pos c_1_5, if_neg c_65]; done) | simp [workedF, c_1_1, c_1_2, c_1_3, c_1_4, c_1_5, c_65]) d_U_worked_73
  refine lv_tableOut (tgt := 74) hx hb d_U_worked_1 (by have := lv_neT c_1_1 (show (1 : Int32).toInt = 1 by decide); have := lv_neT c_1_2 (show (2 : Int32).toInt = 2 by decide); have := lv_neT c_1_3 (show (3 : Int32).toInt = 3 by decide); have := lv_neT c_1_4 (show (4 : Int32).toInt = 4 by decide); have := lv_neT c_1_5 (show (5 : Int32).toInt = 5 by decide); omega) (by decide) ?_
  refine lv_lconst (v := 0) hx hb d_U_worked_74 (by decide) ?_
  rw [hQ]; exact retRl hx hb hr hlocks (by first | (simp only [workedF, if_neg c_1_1, if_neg c_1_2, if_neg c_1_3, if_neg c_1_4, if_neg c_1_5]; done) | simp [workedF, c_1_1, c_1_2, c_1_3, c_1_4, c_1_5]) d_U_worked_75
end
section
abbrev w_B_hasByte : List Cond := .code y_B_hasByte b_B_hasByte 2 (some .boolean) :: BIG
set_option maxHeartbeats 4000000 in
set_option maxRecDepth 100000 in
theorem c_B_hasByte (l : Launch) (D : va_G) (cI cL cO : ClassId) (h0 : Nat) (q1 : Nat) (q2 : Nat) (q3 : Nat) (q4 : Nat) (q5 : Nat) (o : Fn) (f : Fn) (ee : Fn) (t : Fn) (b : Fn) (ic : Int32) (bc : Int32) (sa : Int32) (gn : Int32) (i : Int32) : CRi l y_B_hasByte w_B_hasByte ({ frames := 0, cells := 0, slots := 0, locals := 0 }) D cI cL cO [.ref h0, .int i] (wB cI h0 q1 q2 q3 q4 q5 o f ee t b ic bc sa gn) (hasF bc i) := by
  refine ofR (cc := b_B_hasByte) (maxL := 2) (ret := (some .boolean)) (by decide) rfl (Nat.le_of_ble_eq_true rfl) ?_
  intro p e s m below meth c ls Q hQ hx hb hr hlocks hts hown hml hP hK hl
  have hl : lv_has ls 2 [(0, .ref h0), (1, .int i)] := hl
  have hown : s.vm.findClass R_B = some m.cls := hown
  have ht : ∀ w ∈ BIG, w.before _ s = true := fun w h => hts w (List.mem_cons_of_mem _ h)
  refine lv_iload_n hx hb d_B_hasByte_0 rfl (lv_at hl 1 rfl) ?_
  refine lv_if_lt (tgt := 23) hx hb d_B_hasByte_1 (by decide) (fun c_1 => ?_) (fun c_1 => ?_)
  · refine lv_iconst (v := 0) hx hb d_B_hasByte_23 (by decide) ?_
    rw [hQ]; exact retRz hx hb hr hlocks rfl (by simp [hasF, c_1]) d_B_hasByte_24
  · refine lv_iload_n hx hb d_B_hasByte_4 rfl (lv_at hl 1 rfl) ?_
    refine lv_aload_n hx hb d_B_hasByte_5 rfl (lv_at hl 0 rfl) ?_
    refine va_get (ci := 0) (v := .int bc) (C := R_B) (T := T_B) (N := 9) hx hb ht in_B hown hK.1 hP 0 rfl rfl 6 (by decide) (ht _ k_fl_B_41) (fun _ h9 => h9) rfl d_B_hasByte_6 ?_
    refine lv_icmp_ge (tgt := 23) hx hb d_B_hasByte_9 (by decide) (fun c_9 => ?_) (fun c_9 => ?_)
    · refine lv_iconst (v := 0) hx hb d_B_hasByte_23 (by decide) ?_
      rw [hQ]; exact retRz hx hb hr hlocks rfl (by simp [hasF, c_1, c_9]) d_B_hasByte_24
    · refine lv_iload_n hx hb d_B_hasByte_12 rfl (lv_at hl 1 rfl) ?_
      refine lv_sipush (v := 300) hx hb d_B_hasByte_13 (by decide) ?_
      refine lv_icmp_ge (tgt := 23) hx hb d_B_hasByte_16 (by decide) (fun c_16 => ?_) (fun c_16 => ?_)
      · refine lv_iconst (v := 0) hx hb d_B_hasByte_23 (by decide) ?_
        rw [hQ]; exact retRz hx hb hr hlocks rfl (by simp [hasF, c_1, c_9, c_16]) d_B_hasByte_24
      · refine lv_iconst (v := 1) hx hb d_B_hasByte_19 (by decide) ?_
        refine lv_goto (tgt := 24) hx hb d_B_hasByte_20 (by decide) ?_
        rw [hQ]; exact retRz hx hb hr hlocks rfl (by simp [hasF, c_1, c_9, c_16]) d_B_hasByte_24

abbrev w_B_read : List Cond := .code y_B_read b_B_read 2 (some .int) :: BIG
set_option maxHeartbeats 4000000 in
set_option maxRecDepth 100000 in
theorem c_B_read (l : Launch) (D : va_G) (cI cL cO : ClassId) (h0 : Nat) (q1 : Nat) (q2 : Nat) (q3 : Nat) (q4 : Nat) (q5 : Nat) (o : Fn) (f : Fn) (ee : Fn) (t : Fn) (b : Fn) (ic : Int32) (bc : Int32) (sa : Int32) (gn : Int32) (i : Int32) : CRi l y_B_read w_B_read ({ frames := 1, cells := 0, slots := 0, locals := 21 }) D cI cL cO [.ref h0, .int i] (wB cI h0 q1 q2 q3 q4 q5 o f ee t b ic bc sa gn) (rdF b bc i) := by
  refine ofR (cc := b_B_read) (maxL := 2) (ret := (some .int)) (by decide) rfl (Nat.le_of_ble_eq_true rfl) ?_
  intro p e s m below meth c ls Q hQ hx hb hr hlocks hts hown hml hP hK hl
  have hl : lv_has ls 2 [(0, .ref h0), (1, .int i)] := hl
  have hown : s.vm.findClass R_B = some m.cls := hown
  have ht : ∀ w ∈ BIG, w.before _ s = true := fun w h => hts w (List.mem_cons_of_mem _ h)
  refine lv_aload_n hx hb d_B_read_0 rfl (lv_at hl 0 rfl) ?_
  refine lv_iload_n hx hb d_B_read_1 rfl (lv_at hl 1 rfl) ?_
  refine goRi (va_runV (As := [.int i]) (rest := []) ⟨hx, hb, hml, hown, hts⟩ (c_B_hasByte l D cI cL cO h0 q1 q2 q3 q4 q5 o f ee t b ic bc sa gn i) (cwV 1 hts (gBIG (m4 k_ml_B_81 k_im_B_hasByte k_sel_B_hasByte k_ini_B) k_co_B_hasByte) rfl rfl rfl (by decide +kernel) ⟨Nat.le_of_ble_eq_true rfl, Nat.le_of_ble_eq_true rfl⟩) ⟨PR.bl, va_recv hK.1 hP (ci := 0) (q0 := 0) rfl rfl, PR.pre hP hK⟩ rfl rfl hl.1 rfl (lv_room (Nat.le_of_ble_eq_true rfl)) d_B_read_2 ⟨Nat.le_of_ble_eq_true rfl, Nat.le_of_ble_eq_true rfl⟩) ?_
  refine lv_if_eq (tgt := 17) hx hb d_B_read_5 (by decide) (fun c_5 => ?_) (fun c_5 => ?_)
  · refine lv_iconst (v := 0) hx hb d_B_read_17 (by decide) ?_
    rw [hQ]; exact retRi hx hb hr hlocks (by simp [rdF, c_5]) d_B_read_18
  · refine lv_aload_n hx hb d_B_read_8 rfl (lv_at hl 0 rfl) ?_
    refine va_get (ci := 0) (v := .ref q5) (C := R_B) (T := T_B) (N := 9) hx hb ht in_B hown hK.1 hP 0 rfl rfl 4 (by decide) (ht _ k_fl_B_24) (fun _ h9 => h9) rfl d_B_read_9 ?_
    refine lv_iload_n hx hb d_B_read_12 rfl (lv_at hl 1 rfl) ?_
    refine va_iald hx hb hK.1 hP 5 0 rfl rfl (hasF_in c_5) d_B_read_13 ?_
    refine lv_goto (tgt := 18) hx hb d_B_read_14 (by decide) ?_
    rw [hQ]; exact retRi hx hb hr hlocks (by simp [rdF, c_5]) d_B_read_18

abbrev w_B_readTwo : List Cond := .code y_B_readTwo b_B_readTwo 2 (some .int) :: BIG
set_option maxHeartbeats 4000000 in
set_option maxRecDepth 100000 in
theorem c_B_readTwo (l : Launch) (D : va_G) (cI cL cO : ClassId) (h0 : Nat) (q1 : Nat) (q2 : Nat) (q3 : Nat) (q4 : Nat) (q5 : Nat) (o : Fn) (f : Fn) (ee : Fn) (t : Fn) (b : Fn) (ic : Int32) (bc : Int32) (sa : Int32) (gn : Int32) (i : Int32) : CRi l y_B_readTwo w_B_readTwo ({ frames := 2, cells := 0, slots := 0, locals := 42 }) D cI cL cO [.ref h0, .int i] (wB cI h0 q1 q2 q3 q4 q5 o f ee t b ic bc sa gn) (rd2F b bc i) := by
  refine ofR (cc := b_B_readTwo) (maxL := 2) (ret := (some .int)) (by decide) rfl (Nat.le_of_ble_eq_true rfl) ?_
  intro p e s m below meth c ls Q hQ hx hb hr hlocks hts hown hml hP hK hl
  have hl : lv_has ls 2 [(0, .ref h0), (1, .int i)] := hl
  have hown : s.vm.findClass R_B = some m.cls := hown
  have ht : ∀ w ∈ BIG, w.before _ s = true := fun w h => hts w (List.mem_cons_of_mem _ h)
  refine lv_aload_n hx hb d_B_readTwo_0 rfl (lv_at hl 0 rfl) ?_
  refine lv_iload_n hx hb d_B_readTwo_1 rfl (lv_at hl 1 rfl) ?_
  refine goRi (va_runV (As := [.int i]) (rest := []) ⟨hx, hb, hml, hown, hts⟩ (c_B_read l D cI cL cO h0 q1 q2 q3 q4 q5 o f ee t b ic bc sa gn i) (cwV 1 hts (gBIG (m4 k_ml_B_84 k_im_B_read k_sel_B_read k_ini_B) k_co_B_read) rfl rfl rfl (by decide +kernel) ⟨Nat.le_of_ble_eq_true rfl, Nat.le_of_ble_eq_true rfl⟩) ⟨PR.bl, va_recv hK.1 hP (ci := 0) (q0 := 0) rfl rfl, PR.pre hP hK⟩ rfl rfl hl.1 rfl (lv_room (Nat.le_of_ble_eq_true rfl)) d_B_readTwo_2 ⟨Nat.le_of_ble_eq_true rfl, Nat.le_of_ble_eq_true rfl⟩) ?_
  refine lv_bipush (v := 8) hx hb d_B_readTwo_5 (by decide) ?_
  refine lv_ishl hx hb d_B_readTwo_7 ?_
  refine lv_aload_n hx hb d_B_readTwo_8 rfl (lv_at hl 0 rfl) ?_
  refine lv_iload_n hx hb d_B_readTwo_9 rfl (lv_at hl 1 rfl) ?_
  refine lv_iconst (v := 1) hx hb d_B_readTwo_10 (by decide) ?_
  refine lv_iadd hx hb d_B_readTwo_11 ?_
  refine goRi (va_runV (As := [.int (i + 1)]) (rest := [.int ((rdF b bc i) <<< ((8 : Int32) &&& 31))]) ⟨hx, hb, hml, hown, hts⟩ (c_B_read l D cI cL cO h0 q1 q2 q3 q4 q5 o f ee t b ic bc sa gn (i + 1)) (cwV 1 hts (gBIG (m4 k_ml_B_84 k_im_B_read k_sel_B_read k_ini_B) k_co_B_read) rfl rfl rfl (by decide +kernel) ⟨Nat.le_of_ble_eq_true rfl, Nat.le_of_ble_eq_true rfl⟩) ⟨PR.bl, va_recv hK.1 hP (ci := 0) (q0 := 0) rfl rfl, PR.pre hP hK⟩ rfl rfl hl.1 rfl (lv_room (Nat.le_of_ble_eq_true rfl)) d_B_readTwo_12 ⟨Nat.le_of_ble_eq_true rfl, Nat.le_of_ble_eq_true rfl⟩) ?_
  refine lv_ior hx hb d_B_readTwo_15 ?_
  rw [hQ]; exact retRi hx hb hr hlocks (by simp [rd2F]) d_B_readTwo_16

abbrev w_B_readFour : List Cond := .code y_B_readFour b_B_readFour 2 (some .int) :: BIG
set_option maxHeartbeats 4000000 in
set_option maxRecDepth 100000 in
theorem c_B_readFour (l : Launch) (D : va_G) (cI cL cO : ClassId) (h0 : Nat) (q1 : Nat) (q2 : Nat) (q3 : Nat) (q4 : Nat) (q5 : Nat) (o : Fn) (f : Fn) (ee : Fn) (t : Fn) (b : Fn) (ic : Int32) (bc : Int32) (sa : Int32) (gn : Int32) (i : Int32) : CRi l y_B_readFour w_B_readFour ({ frames := 3, cells := 0, slots := 0, locals := 63 }) D cI cL cO [.ref h0, .int i] (wB cI h0 q1 q2 q3 q4 q5 o f ee t b ic bc sa gn) (rd4F b bc i) := by
  refine ofR (cc := b_B_readFour) (maxL := 2) (ret := (some .int)) (by decide) rfl (Nat.le_of_ble_eq_true rfl) ?_
  intro p e s m below meth c ls Q hQ hx hb hr hlocks hts hown hml hP hK hl
  have hl : lv_has ls 2 [(0, .ref h0), (1, .int i)] := hl
  have hown : s.vm.findClass R_B = some m.cls := hown
  have ht : ∀ w ∈ BIG, w.before _ s = true := fun w h => hts w (List.mem_cons_of_mem _ h)
  refine lv_aload_n hx hb d_B_readFour_0 rfl (lv_at hl 0 rfl) ?_
  refine lv_iload_n hx hb d_B_readFour_1 rfl (lv_at hl 1 rfl) ?_
  refine goRi (va_runV (As := [.int i]) (rest := []) ⟨hx, hb, hml, hown, hts⟩ (c_B_readTwo l D cI cL cO h0 q1 q2 q3 q4 q5 o f ee t b ic bc sa gn i) (cwV 1 hts (gBIG (m4 k_ml_B_87 k_im_B_readTwo k_sel_B_readTwo k_ini_B) k_co_B_readTwo) rfl rfl rfl (by decide +kernel) ⟨Nat.le_of_ble_eq_true rfl, Nat.le_of_ble_eq_true rfl⟩) ⟨PR.bl, va_recv hK.1 hP (ci := 0) (q0 := 0) rfl rfl, PR.pre hP hK⟩ rfl rfl hl.1 rfl (lv_room (Nat.le_of_ble_eq_true rfl)) d_B_readFour_2 ⟨Nat.le_of_ble_eq_true rfl, Nat.le_of_ble_eq_true rfl⟩) ?_
  refine lv_bipush (v := 16) hx hb d_B_readFour_5 (by decide) ?_
  refine lv_ishl hx hb d_B_readFour_7 ?_
  refine lv_aload_n hx hb d_B_readFour_8 rfl (lv_at hl 0 rfl) ?_
  refine lv_iload_n hx hb d_B_readFour_9 rfl (lv_at hl 1 rfl) ?_
  refine lv_iconst (v := 2) hx hb d_B_readFour_10 (by decide) ?_
  refine lv_iadd hx hb d_B_readFour_11 ?_
  refine goRi (va_runV (As := [.int (i + 2)]) (rest := [.int ((rd2F b bc i) <<< ((16 : Int32) &&& 31))]) ⟨hx, hb, hml, hown, hts⟩ (c_B_readTwo l D cI cL cO h0 q1 q2 q3 q4 q5 o f ee t b ic bc sa gn (i + 2)) (cwV 1 hts (gBIG (m4 k_ml_B_87 k_im_B_readTwo k_sel_B_readTwo k_ini_B) k_co_B_readTwo) rfl rfl rfl (by decide +kernel) ⟨Nat.le_of_ble_eq_true rfl, Nat.le_of_ble_eq_true rfl⟩) ⟨PR.bl, va_recv hK.1 hP (ci := 0) (q0 := 0) rfl rfl, PR.pre hP hK⟩ rfl rfl hl.1 rfl (lv_room (Nat.le_of_ble_eq_true rfl)) d_B_readFour_12 ⟨Nat.le_of_ble_eq_true rfl, Nat.le_of_ble_eq_true rfl⟩) ?_
  refine lv_ior hx hb d_B_readFour_15 ?_
  rw [hQ]; exact retRi hx hb hr hlocks (by simp [rd4F]) d_B_readFour_16

abbrev w_B_startOf : List Cond := .code y_B_startOf b_B_startOf 3 (some .int) :: BIG
set_option maxHeartbeats 4000000 in
set_option maxRecDepth 100000 in
theorem c_B_startOf (l : Launch) (D : va_G) (cI cL cO : ClassId) (h0 : Nat) (q1 : Nat) (q2 : Nat) (q3 : Nat) (q4 : Nat) (q5 : Nat) (o : Fn) (f : Fn) (ee : Fn) (t : Fn) (b : Fn) (ic : Int32) (bc : Int32) (sa : Int32) (gn : Int32) (i : Int32) : CRi l y_B_startOf w_B_startOf ({ frames := 1, cells := 0, slots := 0, locals := 21 }) D cI cL cO [.ref h0, .int i] (wB cI h0 q1 q2 q3 q4 q5 o f ee t b ic bc sa gn) (startF t ic i) := by
  refine ofR (cc := b_B_startOf) (maxL := 3) (ret := (some .int)) (by decide) rfl (Nat.le_of_ble_eq_true rfl) ?_
  intro p e s m below meth c ls Q hQ hx hb hr hlocks hts hown hml hP hK hl
  have hl : lv_has ls 3 [(0, .ref h0), (1, .int i)] := hl
  have hown : s.vm.findClass R_B = some m.cls := hown
  have ht : ∀ w ∈ BIG, w.before _ s = true := fun w h => hts w (List.mem_cons_of_mem _ h)
  refine lv_iconst (v := 0) hx hb d_B_startOf_0 (by decide) ?_
  refine lv_iload_n hx hb d_B_startOf_1 rfl (lv_at hl 1 rfl) ?_
  refine lv_aload_n hx hb d_B_startOf_2 rfl (lv_at hl 0 rfl) ?_
  refine va_get (ci := 0) (v := .int ic) (C := R_B) (T := T_B) (N := 9) hx hb ht in_B hown hK.1 hP 0 rfl rfl 5 (by decide) (ht _ k_fl_B_34) (fun _ h9 => h9) rfl d_B_startOf_3 ?_
  refine w_min hx hb (hml.trans hl.1.symm) hown (ht _ k_ml_B_73) (ht _ k_st_Ma_min) (ht _ k_ini_Ma) (ht _ k_co_Ma_min) (Nat.le_of_ble_eq_true rfl) (Nat.le_of_ble_eq_true rfl) (Nat.zero_le _) (Nat.zero_le _) d_B_startOf_6 ?_
  refine w_max hx hb (hml.trans hl.1.symm) hown (ht _ k_ml_B_78) (ht _ k_st_Ma_max) (ht _ k_ini_Ma) (ht _ k_co_Ma_max) (Nat.le_of_ble_eq_true rfl) (Nat.le_of_ble_eq_true rfl) (Nat.zero_le _) (Nat.zero_le _) d_B_startOf_9 ?_
  refine lv_istore_n (lv' := [(2, .int (maxF 0 (minF i ic))), (0, .ref h0), (1, .int i)]) hx hb d_B_startOf_12 rfl hl (by decide) rfl (fun ls hl => ?_)
  refine lv_iload_n hx hb d_B_startOf_13 rfl (lv_at hl 0 rfl) ?_
  refine lv_aload_n hx hb d_B_startOf_14 rfl (lv_at hl 1 rfl) ?_
  refine va_get (ci := 0) (v := .ref q4) (C := R_B) (T := T_B) (N := 9) hx hb ht in_B hown hK.1 hP 0 rfl rfl 3 (by decide) (ht _ k_fl_B_21) (fun _ h9 => h9) rfl d_B_startOf_15 ?_
  refine va_alen (v := 61) hx hb hK.1 hP 4 0 rfl rfl rfl d_B_startOf_18 ?_
  refine lv_icmp_ge (tgt := 31) hx hb d_B_startOf_19 (by decide) (fun c_19 => ?_) (fun c_19 => ?_)
  · refine lv_iconst (v := 0) hx hb d_B_startOf_31 (by decide) ?_
    rw [hQ]; exact retRi hx hb hr hlocks (by simp [startF, stIx, c_19]) d_B_startOf_32
  · refine lv_aload_n hx hb d_B_startOf_22 rfl (lv_at hl 1 rfl) ?_
    refine va_get (ci := 0) (v := .ref q4) (C := R_B) (T := T_B) (N := 9) hx hb ht in_B hown hK.1 hP 0 rfl rfl 3 (by decide) (ht _ k_fl_B_21) (fun _ h9 => h9) rfl d_B_startOf_23 ?_
    refine lv_iload_n hx hb d_B_startOf_26 rfl (lv_at hl 0 rfl) ?_
    refine va_iald hx hb hK.1 hP 4 0 rfl rfl (in_of (N := 61) (by decide) (maxF0 _) c_19) d_B_startOf_27 ?_
    refine lv_goto (tgt := 32) hx hb d_B_startOf_28 (by decide) ?_
    rw [hQ]; exact retRi hx hb hr hlocks (by simp [startF, stIx, c_19]) d_B_startOf_32

abbrev w_B_canBeMade : List Cond := .code y_B_canBeMade b_B_canBeMade 1 (some .boolean) :: BIG
set_option maxHeartbeats 4000000 in
set_option maxRecDepth 100000 in
theorem c_B_canBeMade (l : Launch) (D : va_G) (cI cL cO : ClassId) (h0 : Nat) (q1 : Nat) (q2 : Nat) (q3 : Nat) (q4 : Nat) (q5 : Nat) (o : Fn) (f : Fn) (ee : Fn) (t : Fn) (b : Fn) (ic : Int32) (bc : Int32) (sa : Int32) (gn : Int32) : CRi l y_B_canBeMade w_B_canBeMade ({ frames := 2, cells := 0, slots := 0, locals := 43 }) D cI cL cO [.ref h0] (wB cI h0 q1 q2 q3 q4 q5 o f ee t b ic bc sa gn) (canF t ic) := by
  refine ofR (cc := b_B_canBeMade) (maxL := 1) (ret := (some .boolean)) (by decide) rfl (Nat.le_of_ble_eq_true rfl) ?_
  intro p e s m below meth c ls Q hQ hx hb hr hlocks hts hown hml hP hK hl
  have hl : lv_has ls 1 [(0, .ref h0)] := hl
  have hown : s.vm.findClass R_B = some m.cls := hown
  have ht : ∀ w ∈ BIG, w.before _ s = true := fun w h => hts w (List.mem_cons_of_mem _ h)
  refine lv_aload_n hx hb d_B_canBeMade_0 rfl (lv_at hl 0 rfl) ?_
  refine lv_aload_n hx hb d_B_canBeMade_1 rfl (lv_at hl 0 rfl) ?_
  refine va_get (ci := 0) (v := .int ic) (C := R_B) (T := T_B) (N := 9) hx hb ht in_B hown hK.1 hP 0 rfl rfl 5 (by decide) (ht _ k_fl_B_34) (fun _ h9 => h9) rfl d_B_canBeMade_2 ?_
  refine goRi (va_runV (As := [.int ic]) (rest := []) ⟨hx, hb, hml, hown, hts⟩ (c_B_startOf l D cI cL cO h0 q1 q2 q3 q4 q5 o f ee t b ic bc sa gn ic) (cwV 1 hts (gBIG (m4 k_ml_B_44 k_im_B_startOf k_sel_B_startOf k_ini_B) k_co_B_startOf) rfl rfl rfl (by decide +kernel) ⟨Nat.le_of_ble_eq_true rfl, Nat.le_of_ble_eq_true rfl⟩) ⟨PR.bl, va_recv hK.1 hP (ci := 0) (q0 := 0) rfl rfl, PR.pre hP hK⟩ rfl rfl hl.1 rfl (lv_room (Nat.le_of_ble_eq_true rfl)) d_B_canBeMade_5 ⟨Nat.le_of_ble_eq_true rfl, Nat.le_of_ble_eq_true rfl⟩) ?_
  refine lv_bipush (v := 10) hx hb d_B_canBeMade_8 (by decide) ?_
  refine goRi (va_runSN (As := [.int 10]) (rest := [.int (startF t ic ic)]) ⟨hx, hb, hml, hown, hts⟩ (c_M_lengthOf l D cI cL cO 10) ⟨va_cnB 1 hts (gB0 k_co_M_lengthOf) rfl rfl rfl (hK.2 _ n_ml_B_48) (ht _ k_ini_M) (by decide +kernel) ⟨Nat.le_of_ble_eq_true rfl, Nat.le_of_ble_eq_true rfl⟩, ht _ k_st_M_lengthOf, trivial⟩ ⟨PR.bl, PR.pre P_nil hK⟩ rfl rfl hl.1 rfl (lv_room (Nat.le_of_ble_eq_true rfl)) d_B_canBeMade_10 ⟨Nat.le_of_ble_eq_true rfl, Nat.le_of_ble_eq_true rfl⟩) ?_
  refine lv_iadd hx hb d_B_canBeMade_13 ?_
  refine lv_sipush (v := 300) hx hb d_B_canBeMade_14 (by decide) ?_
  refine lv_icmp_gt (tgt := 24) hx hb d_B_canBeMade_17 (by decide) (fun c_17 => ?_) (fun c_17 => ?_)
  · refine lv_iconst (v := 0) hx hb d_B_canBeMade_24 (by decide) ?_
    rw [hQ]; exact retRz hx hb hr hlocks rfl (by simp [canF, c_17]) d_B_canBeMade_25
  · refine lv_iconst (v := 1) hx hb d_B_canBeMade_20 (by decide) ?_
    refine lv_goto (tgt := 25) hx hb d_B_canBeMade_21 (by decide) ?_
    rw [hQ]; exact retRz hx hb hr hlocks rfl (by simp [canF, c_17]) d_B_canBeMade_25
end
section
abbrev w_B_append : List Cond := .code y_B_append b_B_append 2 none :: BIG
set_option maxHeartbeats 4000000 in
set_option maxRecDepth 100000 in
theorem c_B_append (l : Launch) (D : va_G) (cI cL cO : ClassId) (h0 : Nat) (q1 : Nat) (q2 : Nat) (q3 : Nat) (q4 : Nat) (q5 : Nat) (o : Fn) (f : Fn) (ee : Fn) (t : Fn) (b : Fn) (ic : Int32) (bc : Int32) (sa : Int32) (gn : Int32) (fr : va_W) (v : Int32) (hbc : ¬ bc < 0) : CMv l y_B_append w_B_append ({ frames := 0, cells := 0, slots := 0, locals := 0 }) D cI cL cO [.ref h0, .int v] ((wB cI h0 q1 q2 q3 q4 q5 o f ee t b ic bc sa gn) ++ fr) (fun u : By => u = apF v (b, bc) ∧ ¬ u.2 < 0) (fun u : By => ((wB cI h0 q1 q2 q3 q4 q5 o f ee t u.1 ic u.2 sa gn) ++ fr)) 0 0 := by
  refine ofMv (cc := b_B_append) (maxL := 2) (ret := none) (by decide) rfl (Nat.le_of_ble_eq_true rfl) ?_
  intro p e s m below meth c A ls H Q hQ hx hb hr hlocks hin hts hown hml hP hK hD hS hA hl
  have hl : lv_has ls 2 [(0, .ref h0), (1, .int v)] := hl
  have hown : s.vm.findClass R_B = some m.cls := hown
  have ht : ∀ w ∈ BIG, w.before _ s = true := fun w h => hts w (List.mem_cons_of_mem _ h)
  refine lv_aload_n hx hb d_B_append_0 rfl (lv_at hl 0 rfl) ?_
  refine va_get (ci := 0) (v := .int bc) (C := R_B) (T := T_B) (N := 9) hx hb ht in_B hown hK.1 hP 0 rfl rfl 6 (by decide) (ht _ k_fl_B_41) (fun _ h9 => h9) rfl d_B_append_1 ?_
  refine lv_sipush (v := 300) hx hb d_B_append_4 (by decide) ?_
  refine lv_icmp_ge (tgt := 34) hx hb d_B_append_7 (by decide) (fun c_7 => ?_) (fun c_7 => ?_)
  · rw [hQ]; exact retMv (w1 := fun u : By => ((wB cI h0 q1 q2 q3 q4 q5 o f ee t u.1 ic u.2 sa gn) ++ fr)) (b, bc) hx hb hr hlocks hP hD hS ⟨by simp [apF, c_7], hbc⟩ d_B_append_34
  · refine lv_aload_n hx hb d_B_append_10 rfl (lv_at hl 0 rfl) ?_
    refine va_get (ci := 0) (v := .ref q5) (C := R_B) (T := T_B) (N := 9) hx hb ht in_B hown hK.1 hP 0 rfl rfl 4 (by decide) (ht _ k_fl_B_24) (fun _ h9 => h9) rfl d_B_append_11 ?_
    refine lv_aload_n hx hb d_B_append_14 rfl (lv_at hl 0 rfl) ?_
    refine va_get (ci := 0) (v := .int bc) (C := R_B) (T := T_B) (N := 9) hx hb ht in_B hown hK.1 hP 0 rfl rfl 6 (by decide) (ht _ k_fl_B_41) (fun _ h9 => h9) rfl d_B_append_15 ?_
    refine lv_iload_n hx hb d_B_append_18 rfl (lv_at hl 1 rfl) ?_
    refine lv_sipush (v := 255) hx hb d_B_append_19 (by decide) ?_
    refine lv_iand hx hb d_B_append_22 ?_
    refine va_iast hx hb hK.1 hP hD hS 5 0 rfl rfl (in_of (N := 300) (by decide) hbc c_7) d_B_append_23 (fun H locs hP hD hS => ?_)
    have hP : va_P D vwCl ((wB cI h0 q1 q2 q3 q4 q5 o f ee t (upd b bc.toNatClampNeg (v &&& 255)) ic bc sa gn) ++ fr) H := hP
    have hD : va_D A ((wB cI h0 q1 q2 q3 q4 q5 o f ee t (upd b bc.toNatClampNeg (v &&& 255)) ic bc sa gn) ++ fr) := hD
    refine lv_aload_n hx hb d_B_append_24 rfl (lv_at hl 0 rfl) ?_
    refine lv_dup hx hb d_B_append_25 rfl ?_
    refine va_get (ci := 0) (v := .int bc) (C := R_B) (T := T_B) (N := 9) hx hb ht in_B hown hK.1 hP 0 rfl rfl 6 (by decide) (ht _ k_fl_B_41) (fun _ h9 => h9) rfl d_B_append_26 ?_
    refine lv_iconst (v := 1) hx hb d_B_append_29 (by decide) ?_
    refine lv_iadd hx hb d_B_append_30 ?_
    refine va_put (ci := 0) (v := .int (bc + 1)) (ty := .int) (C := R_B) (T := T_B) (N := 9) hx hb ht in_B t_B t_B_ok n_B hown hK.1 hP hD hS 0 rfl rfl 6 (by decide) (ht _ k_fl_B_41) (fun _ h9 => h9) rfl (by decide +kernel) rfl rfl (Nat.le_of_ble_eq_true rfl) d_B_append_31 (fun H locs hP hD hS => ?_)
    have hP : va_P D vwCl ((wB cI h0 q1 q2 q3 q4 q5 o f ee t (upd b bc.toNatClampNeg (v &&& 255)) ic (bc + 1) sa gn) ++ fr) H := hP
    have hD : va_D A ((wB cI h0 q1 q2 q3 q4 q5 o f ee t (upd b bc.toNatClampNeg (v &&& 255)) ic (bc + 1) sa gn) ++ fr) := hD
    rw [hQ]; exact retMv (w1 := fun u : By => ((wB cI h0 q1 q2 q3 q4 q5 o f ee t u.1 ic u.2 sa gn) ++ fr)) (upd b bc.toNatClampNeg (v &&& 255), bc + 1) hx hb hr hlocks hP hD hS ⟨by simp [apF, c_7], nn1 hbc c_7⟩ d_B_append_34

abbrev w_B_writeWithRegister : List Cond := .code y_B_writeWithRegister b_B_writeWithRegister 3 none :: BIG
set_option maxHeartbeats 4000000 in
set_option maxRecDepth 100000 in
theorem c_B_writeWithRegister (l : Launch) (D : va_G) (cI cL cO : ClassId) (h0 : Nat) (q1 : Nat) (q2 : Nat) (q3 : Nat) (q4 : Nat) (q5 : Nat) (o : Fn) (f : Fn) (ee : Fn) (t : Fn) (b : Fn) (ic : Int32) (bc : Int32) (sa : Int32) (gn : Int32) (fr : va_W) (cd : Int32) (rr : Int32) (hbc : ¬ bc < 0) : CMv l y_B_writeWithRegister w_B_writeWithRegister ({ frames := 1, cells := 0, slots := 0, locals := 21 }) D cI cL cO [.ref h0, .int cd, .int rr] ((wB cI h0 q1 q2 q3 q4 q5 o f ee t b ic bc sa gn) ++ fr) (fun u : By => u = wrR cd rr (b, bc) ∧ ¬ u.2 < 0) (fun u : By => ((wB cI h0 q1 q2 q3 q4 q5 o f ee t u.1 ic u.2 sa gn) ++ fr)) 0 0 := by
  refine ofMv (cc := b_B_writeWithRegister) (maxL := 3) (ret := none) (by decide) rfl (Nat.le_of_ble_eq_true rfl) ?_
  intro p e s m below meth c A ls H Q hQ hx hb hr hlocks hin hts hown hml hP hK hD hS hA hl
  have hl : lv_has ls 3 [(0, .ref h0), (1, .int cd), (2, .int rr)] := hl
  have hown : s.vm.findClass R_B = some m.cls := hown
  have ht : ∀ w ∈ BIG, w.before _ s = true := fun w h => hts w (List.mem_cons_of_mem _ h)
  refine lv_aload_n hx hb d_B_writeWithRegister_0 rfl (lv_at hl 0 rfl) ?_
  refine lv_iload_n hx hb d_B_writeWithRegister_1 rfl (lv_at hl 1 rfl) ?_
  refine goMv (va_runV (As := [.int cd]) (rest := []) ⟨hx, hb, hml, hown, hts⟩ (c_B_append l D cI cL cO h0 q1 q2 q3 q4 q5 o f ee t b ic bc sa gn fr cd hbc H.size) (cwV 1 hts (gBIG (m4 k_ml_B_55 k_im_B_append k_sel_B_append k_ini_B) k_co_B_append) rfl rfl rfl (by decide +kernel) ⟨Nat.le_of_ble_eq_true rfl, Nat.le_of_ble_eq_true rfl⟩) ⟨PM.bl, va_recv hK.1 hP (ci := 0) (q0 := 0) rfl rfl, PM.pre hP hD hK⟩ rfl rfl hl.1 rfl (lv_room (Nat.le_of_ble_eq_true rfl)) d_B_writeWithRegister_2 ⟨Nat.le_of_ble_eq_true rfl, Nat.le_of_ble_eq_true rfl⟩) hD hS hA (fun u H locs hw hP hD hS => ?_)
  obtain ⟨b_2, bc_2⟩ := u
  have e_2 : (b_2, bc_2) = apF cd (b, bc) ∧ ¬ bc_2 < 0 := hw
  have hP : va_P D vwCl ((wB cI h0 q1 q2 q3 q4 q5 o f ee t b_2 ic bc_2 sa gn) ++ fr) H := hP
  have hD : va_D A ((wB cI h0 q1 q2 q3 q4 q5 o f ee t b_2 ic bc_2 sa gn) ++ fr) := hD
  refine lv_aload_n hx hb d_B_writeWithRegister_5 rfl (lv_at hl 0 rfl) ?_
  refine lv_iload_n hx hb d_B_writeWithRegister_6 rfl (lv_at hl 2 rfl) ?_
  refine goMv (va_runV (As := [.int rr]) (rest := []) ⟨hx, hb, hml, hown, hts⟩ (c_B_append l D cI cL cO h0 q1 q2 q3 q4 q5 o f ee t b_2 ic bc_2 sa gn fr rr e_2.2 H.size) (cwV 1 hts (gBIG (m4 k_ml_B_55 k_im_B_append k_sel_B_append k_ini_B) k_co_B_append) rfl rfl rfl (by decide +kernel) ⟨Nat.le_of_ble_eq_true rfl, Nat.le_of_ble_eq_true rfl⟩) ⟨PM.bl, va_recv hK.1 hP (ci := 0) (q0 := 0) rfl rfl, PM.pre hP hD hK⟩ rfl rfl hl.1 rfl (lv_room (Nat.le_of_ble_eq_true rfl)) d_B_writeWithRegister_7 ⟨Nat.le_of_ble_eq_true rfl, Nat.le_of_ble_eq_true rfl⟩) hD hS hA (fun u H locs hw hP hD hS => ?_)
  obtain ⟨b_7, bc_7⟩ := u
  have e_7 : (b_7, bc_7) = apF rr (b_2, bc_2) ∧ ¬ bc_7 < 0 := hw
  have hP : va_P D vwCl ((wB cI h0 q1 q2 q3 q4 q5 o f ee t b_7 ic bc_7 sa gn) ++ fr) H := hP
  have hD : va_D A ((wB cI h0 q1 q2 q3 q4 q5 o f ee t b_7 ic bc_7 sa gn) ++ fr) := hD
  rw [hQ]; exact retMv (w1 := fun u : By => ((wB cI h0 q1 q2 q3 q4 q5 o f ee t u.1 ic u.2 sa gn) ++ fr)) (b_7, bc_7) hx hb hr hlocks hP hD hS ⟨by rw [e_7.1, e_2.1]; simp [wrR], e_7.2⟩ d_B_writeWithRegister_10

abbrev w_B_writePush : List Cond := .code y_B_writePush b_B_writePush 2 none :: BIG
set_option maxHeartbeats 4000000 in
set_option maxRecDepth 100000 in
theorem c_B_writePush (l : Launch) (D : va_G) (cI cL cO : ClassId) (h0 : Nat) (q1 : Nat) (q2 : Nat) (q3 : Nat) (q4 : Nat) (q5 : Nat) (o : Fn) (f : Fn) (ee : Fn) (t : Fn) (b : Fn) (ic : Int32) (bc : Int32) (sa : Int32) (gn : Int32) (fr : va_W) (n : Int32) (hbc : ¬ bc < 0) : CMv l y_B_writePush w_B_writePush ({ frames := 1, cells := 0, slots := 0, locals := 21 }) D cI cL cO [.ref h0, .int n] ((wB cI h0 q1 q2 q3 q4 q5 o f ee t b ic bc sa gn) ++ fr) (fun u : By => u = wrP n (b, bc) ∧ ¬ u.2 < 0) (fun u : By => ((wB cI h0 q1 q2 q3 q4 q5 o f ee t u.1 ic u.2 sa gn) ++ fr)) 0 0 := by
  refine ofMv (cc := b_B_writePush) (maxL := 2) (ret := none) (by decide) rfl (Nat.le_of_ble_eq_true rfl) ?_
  intro p e s m below meth c A ls H Q hQ hx hb hr hlocks hin hts hown hml hP hK hD hS hA hl
  have hl : lv_has ls 2 [(0, .ref h0), (1, .int n)] := hl
  have hown : s.vm.findClass R_B = some m.cls := hown
  have ht : ∀ w ∈ BIG, w.before _ s = true := fun w h => hts w (List.mem_cons_of_mem _ h)
  refine lv_iload_n hx hb d_B_writePush_0 rfl (lv_at hl 1 rfl) ?_
  refine goRi (va_runS (As := [.int n]) (rest := []) ⟨hx, hb, hml, hown, hts⟩ (c_B_fitsOneByte l D cI cL cO n) (cwS 1 hts (gBIG (m3 k_ml_B_69 k_st_B_fitsOneByte k_ini_B) k_co_B_fitsOneByte) rfl rfl rfl (by decide +kernel) ⟨Nat.le_of_ble_eq_true rfl, Nat.le_of_ble_eq_true rfl⟩) ⟨PR.bl, PR.pre P_nil hK⟩ rfl rfl hl.1 rfl (lv_room (Nat.le_of_ble_eq_true rfl)) d_B_writePush_1 ⟨Nat.le_of_ble_eq_true rfl, Nat.le_of_ble_eq_true rfl⟩) ?_
  refine lv_if_eq (tgt := 19) hx hb d_B_writePush_4 (by decide) (fun c_4 => ?_) (fun c_4 => ?_)
  · refine lv_aload_n hx hb d_B_writePush_19 rfl (lv_at hl 0 rfl) ?_
    refine lv_iconst (v := 3) hx hb d_B_writePush_20 (by decide) ?_
    refine goMv (va_runV (As := [.int 3]) (rest := []) ⟨hx, hb, hml, hown, hts⟩ (c_B_append l D cI cL cO h0 q1 q2 q3 q4 q5 o f ee t b ic bc sa gn fr 3 hbc H.size) (cwV 1 hts (gBIG (m4 k_ml_B_55 k_im_B_append k_sel_B_append k_ini_B) k_co_B_append) rfl rfl rfl (by decide +kernel) ⟨Nat.le_of_ble_eq_true rfl, Nat.le_of_ble_eq_true rfl⟩) ⟨PM.bl, va_recv hK.1 hP (ci := 0) (q0 := 0) rfl rfl, PM.pre hP hD hK⟩ rfl rfl hl.1 rfl (lv_room (Nat.le_of_ble_eq_true rfl)) d_B_writePush_21 ⟨Nat.le_of_ble_eq_true rfl, Nat.le_of_ble_eq_true rfl⟩) hD hS hA (fun u H locs hw hP hD hS => ?_)
    obtain ⟨b_21, bc_21⟩ := u
    have e_21 : (b_21, bc_21) = apF 3 (b, bc) ∧ ¬ bc_21 < 0 := hw
    have hP : va_P D vwCl ((wB cI h0 q1 q2 q3 q4 q5 o f ee t b_21 ic bc_21 sa gn) ++ fr) H := hP
    have hD : va_D A ((wB cI h0 q1 q2 q3 q4 q5 o f ee t b_21 ic bc_21 sa gn) ++ fr) := hD
    refine lv_aload_n hx hb d_B_writePush_24 rfl (lv_at hl 0 rfl) ?_
    refine lv_iload_n hx hb d_B_writePush_25 rfl (lv_at hl 1 rfl) ?_
    refine lv_bipush (v := 24) hx hb d_B_writePush_26 (by decide) ?_
    refine lv_ishr hx hb d_B_writePush_28 ?_
    refine goMv (va_runV (As := [.int (n >>> ((24 : Int32) &&& 31))]) (rest := []) ⟨hx, hb, hml, hown, hts⟩ (c_B_append l D cI cL cO h0 q1 q2 q3 q4 q5 o f ee t b_21 ic bc_21 sa gn fr (n >>> ((24 : Int32) &&& 31)) e_21.2 H.size) (cwV 1 hts (gBIG (m4 k_ml_B_55 k_im_B_append k_sel_B_append k_ini_B) k_co_B_append) rfl rfl rfl (by decide +kernel) ⟨Nat.le_of_ble_eq_true rfl, Nat.le_of_ble_eq_true rfl⟩) ⟨PM.bl, va_recv hK.1 hP (ci := 0) (q0 := 0) rfl rfl, PM.pre hP hD hK⟩ rfl rfl hl.1 rfl (lv_room (Nat.le_of_ble_eq_true rfl)) d_B_writePush_29 ⟨Nat.le_of_ble_eq_true rfl, Nat.le_of_ble_eq_true rfl⟩) hD hS hA (fun u H locs hw hP hD hS => ?_)
    obtain ⟨b_29, bc_29⟩ := u
    have e_29 : (b_29, bc_29) = apF (n >>> ((24 : Int32) &&& 31)) (b_21, bc_21) ∧ ¬ bc_29 < 0 := hw
    have hP : va_P D vwCl ((wB cI h0 q1 q2 q3 q4 q5 o f ee t b_29 ic bc_29 sa gn) ++ fr) H := hP
    have hD : va_D A ((wB cI h0 q1 q2 q3 q4 q5 o f ee t b_29 ic bc_29 sa gn) ++ fr) := hD
    refine lv_aload_n hx hb d_B_writePush_32 rfl (lv_at hl 0 rfl) ?_
    refine lv_iload_n hx hb d_B_writePush_33 rfl (lv_at hl 1 rfl) ?_
    refine lv_bipush (v := 16) hx hb d_B_writePush_34 (by decide) ?_
    refine lv_ishr hx hb d_B_writePush_36 ?_
    refine goMv (va_runV (As := [.int (n >>> ((16 : Int32) &&& 31))]) (rest := []) ⟨hx, hb, hml, hown, hts⟩ (c_B_append l D cI cL cO h0 q1 q2 q3 q4 q5 o f ee t b_29 ic bc_29 sa gn fr (n >>> ((16 : Int32) &&& 31)) e_29.2 H.size) (cwV 1 hts (gBIG (m4 k_ml_B_55 k_im_B_append k_sel_B_append k_ini_B) k_co_B_append) rfl rfl rfl (by decide +kernel) ⟨Nat.le_of_ble_eq_true rfl, Nat.le_of_ble_eq_true rfl⟩) ⟨PM.bl, va_recv hK.1 hP (ci := 0) (q0 := 0) rfl rfl, PM.pre hP hD hK⟩ rfl rfl hl.1 rfl (lv_room (Nat.le_of_ble_eq_true rfl)) d_B_writePush_37 ⟨Nat.le_of_ble_eq_true rfl, Nat.le_of_ble_eq_true rfl⟩) hD hS hA (fun u H locs hw hP hD hS => ?_)
    obtain ⟨b_37, bc_37⟩ := u
    have e_37 : (b_37, bc_37) = apF (n >>> ((16 : Int32) &&& 31)) (b_29, bc_29) ∧ ¬ bc_37 < 0 := hw
    have hP : va_P D vwCl ((wB cI h0 q1 q2 q3 q4 q5 o f ee t b_37 ic bc_37 sa gn) ++ fr) H := hP
    have hD : va_D A ((wB cI h0 q1 q2 q3 q4 q5 o f ee t b_37 ic bc_37 sa gn) ++ fr) := hD
    refine lv_aload_n hx hb d_B_writePush_40 rfl (lv_at hl 0 rfl) ?_
    refine lv_iload_n hx hb d_B_writePush_41 rfl (lv_at hl 1 rfl) ?_
    refine lv_bipush (v := 8) hx hb d_B_writePush_42 (by decide) ?_
    refine lv_ishr hx hb d_B_writePush_44 ?_
    refine goMv (va_runV (As := [.int (n >>> ((8 : Int32) &&& 31))]) (rest := []) ⟨hx, hb, hml, hown, hts⟩ (c_B_append l D cI cL cO h0 q1 q2 q3 q4 q5 o f ee t b_37 ic bc_37 sa gn fr (n >>> ((8 : Int32) &&& 31)) e_37.2 H.size) (cwV 1 hts (gBIG (m4 k_ml_B_55 k_im_B_append k_sel_B_append k_ini_B) k_co_B_append) rfl rfl rfl (by decide +kernel) ⟨Nat.le_of_ble_eq_true rfl, Nat.le_of_ble_eq_true rfl⟩) ⟨PM.bl, va_recv hK.1 hP (ci := 0) (q0 := 0) rfl rfl, PM.pre hP hD hK⟩ rfl rfl hl.1 rfl (lv_room (Nat.le_of_ble_eq_true rfl)) d_B_writePush_45 ⟨Nat.le_of_ble_eq_true rfl, Nat.le_of_ble_eq_true rfl⟩) hD hS hA (fun u H locs hw hP hD hS => ?_)
    obtain ⟨b_45, bc_45⟩ := u
    have e_45 : (b_45, bc_45) = apF (n >>> ((8 : Int32) &&& 31)) (b_37, bc_37) ∧ ¬ bc_45 < 0 := hw
    have hP : va_P D vwCl ((wB cI h0 q1 q2 q3 q4 q5 o f ee t b_45 ic bc_45 sa gn) ++ fr) H := hP
    have hD : va_D A ((wB cI h0 q1 q2 q3 q4 q5 o f ee t b_45 ic bc_45 sa gn) ++ fr) := hD
    refine lv_aload_n hx hb d_B_writePush_48 rfl (lv_at hl 0 rfl) ?_
    refine lv_iload_n hx hb d_B_writePush_49 rfl (lv_at hl 1 rfl) ?_
    refine goMv (va_runV (As := [.int n]) (rest := []) ⟨hx, hb, hml, hown, hts⟩ (c_B_append l D cI cL cO h0 q1 q2 q3 q4 q5 o f ee t b_45 ic bc_45 sa gn fr n e_45.2 H.size) (cwV 1 hts (gBIG (m4 k_ml_B_55 k_im_B_append k_sel_B_append k_ini_B) k_co_B_append) rfl rfl rfl (by decide +kernel) ⟨Nat.le_of_ble_eq_true rfl, Nat.le_of_ble_eq_true rfl⟩) ⟨PM.bl, va_recv hK.1 hP (ci := 0) (q0 := 0) rfl rfl, PM.pre hP hD hK⟩ rfl rfl hl.1 rfl (lv_room (Nat.le_of_ble_eq_true rfl)) d_B_writePush_50 ⟨Nat.le_of_ble_eq_true rfl, Nat.le_of_ble_eq_true rfl⟩) hD hS hA (fun u H locs hw hP hD hS => ?_)
    obtain ⟨b_50, bc_50⟩ := u
    have e_50 : (b_50, bc_50) = apF n (b_45, bc_45) ∧ ¬ bc_50 < 0 := hw
    have hP : va_P D vwCl ((wB cI h0 q1 q2 q3 q4 q5 o f ee t b_50 ic bc_50 sa gn) ++ fr) H := hP
    have hD : va_D A ((wB cI h0 q1 q2 q3 q4 q5 o f ee t b_50 ic bc_50 sa gn) ++ fr) := hD
    rw [hQ]; exact retMv (w1 := fun u : By => ((wB cI h0 q1 q2 q3 q4 q5 o f ee t u.1 ic u.2 sa gn) ++ fr)) (b_50, bc_50) hx hb hr hlocks hP hD hS ⟨by rw [e_50.1, e_45.1, e_37.1, e_29.1, e_21.1]; simp [wrP, c_4], e_50.2⟩ d_B_writePush_53
  · refine lv_aload_n hx hb d_B_writePush_7 rfl (lv_at hl 0 rfl) ?_
    refine lv_bipush (v := 16) hx hb d_B_writePush_8 (by decide) ?_
    refine goMv (va_runV (As := [.int 16]) (rest := []) ⟨hx, hb, hml, hown, hts⟩ (c_B_append l D cI cL cO h0 q1 q2 q3 q4 q5 o f ee t b ic bc sa gn fr 16 hbc H.size) (cwV 1 hts (gBIG (m4 k_ml_B_55 k_im_B_append k_sel_B_append k_ini_B) k_co_B_append) rfl rfl rfl (by decide +kernel) ⟨Nat.le_of_ble_eq_true rfl, Nat.le_of_ble_eq_true rfl⟩) ⟨PM.bl, va_recv hK.1 hP (ci := 0) (q0 := 0) rfl rfl, PM.pre hP hD hK⟩ rfl rfl hl.1 rfl (lv_room (Nat.le_of_ble_eq_true rfl)) d_B_writePush_10 ⟨Nat.le_of_ble_eq_true rfl, Nat.le_of_ble_eq_true rfl⟩) hD hS hA (fun u H locs hw hP hD hS => ?_)
    obtain ⟨b_10, bc_10⟩ := u
    have e_10 : (b_10, bc_10) = apF 16 (b, bc) ∧ ¬ bc_10 < 0 := hw
    have hP : va_P D vwCl ((wB cI h0 q1 q2 q3 q4 q5 o f ee t b_10 ic bc_10 sa gn) ++ fr) H := hP
    have hD : va_D A ((wB cI h0 q1 q2 q3 q4 q5 o f ee t b_10 ic bc_10 sa gn) ++ fr) := hD
    refine lv_aload_n hx hb d_B_writePush_13 rfl (lv_at hl 0 rfl) ?_
    refine lv_iload_n hx hb d_B_writePush_14 rfl (lv_at hl 1 rfl) ?_
    refine goMv (va_runV (As := [.int n]) (rest := []) ⟨hx, hb, hml, hown, hts⟩ (c_B_append l D cI cL cO h0 q1 q2 q3 q4 q5 o f ee t b_10 ic bc_10 sa gn fr n e_10.2 H.size) (cwV 1 hts (gBIG (m4 k_ml_B_55 k_im_B_append k_sel_B_append k_ini_B) k_co_B_append) rfl rfl rfl (by decide +kernel) ⟨Nat.le_of_ble_eq_true rfl, Nat.le_of_ble_eq_true rfl⟩) ⟨PM.bl, va_recv hK.1 hP (ci := 0) (q0 := 0) rfl rfl, PM.pre hP hD hK⟩ rfl rfl hl.1 rfl (lv_room (Nat.le_of_ble_eq_true rfl)) d_B_writePush_15 ⟨Nat.le_of_ble_eq_true rfl, Nat.le_of_ble_eq_true rfl⟩) hD hS hA (fun u H locs hw hP hD hS => ?_)
    obtain ⟨b_15, bc_15⟩ := u
    have e_15 : (b_15, bc_15) = apF n (b_10, bc_10) ∧ ¬ bc_15 < 0 := hw
    have hP : va_P D vwCl ((wB cI h0 q1 q2 q3 q4 q5 o f ee t b_15 ic bc_15 sa gn) ++ fr) H := hP
    have hD : va_D A ((wB cI h0 q1 q2 q3 q4 q5 o f ee t b_15 ic bc_15 sa gn) ++ fr) := hD
    rw [hQ]; exact retMv (w1 := fun u : By => ((wB cI h0 q1 q2 q3 q4 q5 o f ee t u.1 ic u.2 sa gn) ++ fr)) (b_15, bc_15) hx hb hr hlocks hP hD hS ⟨by rw [e_15.1, e_10.1]; simp [wrP, c_4], e_15.2⟩ d_B_writePush_18

abbrev w_B_writeBranch : List Cond := .code y_B_writeBranch b_B_writeBranch 2 none :: BIG
set_option maxHeartbeats 4000000 in
set_option maxRecDepth 100000 in
theorem c_B_writeBranch (l : Launch) (D : va_G) (cI cL cO : ClassId) (h0 : Nat) (q1 : Nat) (q2 : Nat) (q3 : Nat) (q4 : Nat) (q5 : Nat) (o : Fn) (f : Fn) (ee : Fn) (t : Fn) (b : Fn) (ic : Int32) (bc : Int32) (sa : Int32) (gn : Int32) (fr : va_W) (gl : Int32) (hbc : ¬ bc < 0) : CMv l y_B_writeBranch w_B_writeBranch ({ frames := 1, cells := 0, slots := 0, locals := 21 }) D cI cL cO [.ref h0, .int gl] ((wB cI h0 q1 q2 q3 q4 q5 o f ee t b ic bc sa gn) ++ fr) (fun u : By => u = wrB gl (b, bc) ∧ ¬ u.2 < 0) (fun u : By => ((wB cI h0 q1 q2 q3 q4 q5 o f ee t u.1 ic u.2 sa gn) ++ fr)) 0 0 := by
  refine ofMv (cc := b_B_writeBranch) (maxL := 2) (ret := none) (by decide) rfl (Nat.le_of_ble_eq_true rfl) ?_
  intro p e s m below meth c A ls H Q hQ hx hb hr hlocks hin hts hown hml hP hK hD hS hA hl
  have hl : lv_has ls 2 [(0, .ref h0), (1, .int gl)] := hl
  have hown : s.vm.findClass R_B = some m.cls := hown
  have ht : ∀ w ∈ BIG, w.before _ s = true := fun w h => hts w (List.mem_cons_of_mem _ h)
  refine lv_aload_n hx hb d_B_writeBranch_0 rfl (lv_at hl 0 rfl) ?_
  refine lv_bipush (v := 9) hx hb d_B_writeBranch_1 (by decide) ?_
  refine goMv (va_runV (As := [.int 9]) (rest := []) ⟨hx, hb, hml, hown, hts⟩ (c_B_append l D cI cL cO h0 q1 q2 q3 q4 q5 o f ee t b ic bc sa gn fr 9 hbc H.size) (cwV 1 hts (gBIG (m4 k_ml_B_55 k_im_B_append k_sel_B_append k_ini_B) k_co_B_append) rfl rfl rfl (by decide +kernel) ⟨Nat.le_of_ble_eq_true rfl, Nat.le_of_ble_eq_true rfl⟩) ⟨PM.bl, va_recv hK.1 hP (ci := 0) (q0 := 0) rfl rfl, PM.pre hP hD hK⟩ rfl rfl hl.1 rfl (lv_room (Nat.le_of_ble_eq_true rfl)) d_B_writeBranch_3 ⟨Nat.le_of_ble_eq_true rfl, Nat.le_of_ble_eq_true rfl⟩) hD hS hA (fun u H locs hw hP hD hS => ?_)
  obtain ⟨b_3, bc_3⟩ := u
  have e_3 : (b_3, bc_3) = apF 9 (b, bc) ∧ ¬ bc_3 < 0 := hw
  have hP : va_P D vwCl ((wB cI h0 q1 q2 q3 q4 q5 o f ee t b_3 ic bc_3 sa gn) ++ fr) H := hP
  have hD : va_D A ((wB cI h0 q1 q2 q3 q4 q5 o f ee t b_3 ic bc_3 sa gn) ++ fr) := hD
  refine lv_aload_n hx hb d_B_writeBranch_6 rfl (lv_at hl 0 rfl) ?_
  refine lv_iload_n hx hb d_B_writeBranch_7 rfl (lv_at hl 1 rfl) ?_
  refine lv_bipush (v := 8) hx hb d_B_writeBranch_8 (by decide) ?_
  refine lv_ishr hx hb d_B_writeBranch_10 ?_
  refine goMv (va_runV (As := [.int (gl >>> ((8 : Int32) &&& 31))]) (rest := []) ⟨hx, hb, hml, hown, hts⟩ (c_B_append l D cI cL cO h0 q1 q2 q3 q4 q5 o f ee t b_3 ic bc_3 sa gn fr (gl >>> ((8 : Int32) &&& 31)) e_3.2 H.size) (cwV 1 hts (gBIG (m4 k_ml_B_55 k_im_B_append k_sel_B_append k_ini_B) k_co_B_append) rfl rfl rfl (by decide +kernel) ⟨Nat.le_of_ble_eq_true rfl, Nat.le_of_ble_eq_true rfl⟩) ⟨PM.bl, va_recv hK.1 hP (ci := 0) (q0 := 0) rfl rfl, PM.pre hP hD hK⟩ rfl rfl hl.1 rfl (lv_room (Nat.le_of_ble_eq_true rfl)) d_B_writeBranch_11 ⟨Nat.le_of_ble_eq_true rfl, Nat.le_of_ble_eq_true rfl⟩) hD hS hA (fun u H locs hw hP hD hS => ?_)
  obtain ⟨b_11, bc_11⟩ := u
  have e_11 : (b_11, bc_11) = apF (gl >>> ((8 : Int32) &&& 31)) (b_3, bc_3) ∧ ¬ bc_11 < 0 := hw
  have hP : va_P D vwCl ((wB cI h0 q1 q2 q3 q4 q5 o f ee t b_11 ic bc_11 sa gn) ++ fr) H := hP
  have hD : va_D A ((wB cI h0 q1 q2 q3 q4 q5 o f ee t b_11 ic bc_11 sa gn) ++ fr) := hD
  refine lv_aload_n hx hb d_B_writeBranch_14 rfl (lv_at hl 0 rfl) ?_
  refine lv_iload_n hx hb d_B_writeBranch_15 rfl (lv_at hl 1 rfl) ?_
  refine goMv (va_runV (As := [.int gl]) (rest := []) ⟨hx, hb, hml, hown, hts⟩ (c_B_append l D cI cL cO h0 q1 q2 q3 q4 q5 o f ee t b_11 ic bc_11 sa gn fr gl e_11.2 H.size) (cwV 1 hts (gBIG (m4 k_ml_B_55 k_im_B_append k_sel_B_append k_ini_B) k_co_B_append) rfl rfl rfl (by decide +kernel) ⟨Nat.le_of_ble_eq_true rfl, Nat.le_of_ble_eq_true rfl⟩) ⟨PM.bl, va_recv hK.1 hP (ci := 0) (q0 := 0) rfl rfl, PM.pre hP hD hK⟩ rfl rfl hl.1 rfl (lv_room (Nat.le_of_ble_eq_true rfl)) d_B_writeBranch_16 ⟨Nat.le_of_ble_eq_true rfl, Nat.le_of_ble_eq_true rfl⟩) hD hS hA (fun u H locs hw hP hD hS => ?_)
  obtain ⟨b_16, bc_16⟩ := u
  have e_16 : (b_16, bc_16) = apF gl (b_11, bc_11) ∧ ¬ bc_16 < 0 := hw
  have hP : va_P D vwCl ((wB cI h0 q1 q2 q3 q4 q5 o f ee t b_16 ic bc_16 sa gn) ++ fr) H := hP
  have hD : va_D A ((wB cI h0 q1 q2 q3 q4 q5 o f ee t b_16 ic bc_16 sa gn) ++ fr) := hD
  rw [hQ]; exact retMv (w1 := fun u : By => ((wB cI h0 q1 q2 q3 q4 q5 o f ee t u.1 ic u.2 sa gn) ++ fr)) (b_16, bc_16) hx hb hr hlocks hP hD hS ⟨by rw [e_16.1, e_11.1, e_3.1]; simp [wrB], e_16.2⟩ d_B_writeBranch_19

abbrev w_B_writeInstruction : List Cond := .code y_B_writeInstruction b_B_writeInstruction 4 none :: BIG
set_option maxHeartbeats 4000000 in
set_option maxRecDepth 100000 in
theorem c_B_writeInstruction (l : Launch) (D : va_G) (cI cL cO : ClassId) (h0 : Nat) (q1 : Nat) (q2 : Nat) (q3 : Nat) (q4 : Nat) (q5 : Nat) (o : Fn) (f : Fn) (ee : Fn) (t : Fn) (b : Fn) (ic : Int32) (bc : Int32) (sa : Int32) (gn : Int32) (fr : va_W) (op : Int32) (a : Int32) (x : Int32) (hbc : ¬ bc < 0) : CMv l y_B_writeInstruction w_B_writeInstruction ({ frames := 2, cells := 0, slots := 0, locals := 43 }) D cI cL cO [.ref h0, .int op, .int a, .int x] ((wB cI h0 q1 q2 q3 q4 q5 o f ee t b ic bc sa gn) ++ fr) (fun u : By => u = wrI t ic op a x (b, bc) ∧ ¬ u.2 < 0) (fun u : By => ((wB cI h0 q1 q2 q3 q4 q5 o f ee t u.1 ic u.2 sa gn) ++ fr)) 0 0 := by
  refine ofMv (cc := b_B_writeInstruction) (maxL := 4) (ret := none) (by decide) rfl (Nat.le_of_ble_eq_true rfl) ?_
  intro p e s m below meth c A ls H Q hQ hx hb hr hlocks hin hts hown hml hP hK hD hS hA hl
  have hl : lv_has ls 4 [(0, .ref h0), (1, .int op), (2, .int a), (3, .int x)] := hl
  have hown : s.vm.findClass R_B = some m.cls := hown
  have ht : ∀ w ∈ BIG, w.before _ s = true := fun w h => hts w (List.mem_cons_of_mem _ h)
  refine lv_iload_n hx hb d_B_writeInstruction_0 rfl (lv_at hl 1 rfl) ?_
  by_cases c_1_0 : op = 0
  · refine lv_lookup (off := 35) (tgt := 36) hx hb d_B_writeInstruction_1 (by decide) (by rw [c_1_0] <;> rfl) (by decide) ?_
    refine lv_aload_n hx hb d_B_writeInstruction_36 rfl (lv_at hl 0 rfl) ?_
    refine lv_iload_n hx hb d_B_writeInstruction_37 rfl (lv_at hl 3 rfl) ?_
    refine goMv (va_runV (As := [.int x]) (rest := []) ⟨hx, hb, hml, hown, hts⟩ (c_B_writePush l D cI cL cO h0 q1 q2 q3 q4 q5 o f ee t b ic bc sa gn fr x hbc H.size) (cwV 1 hts (gBIG (m4 k_ml_B_59 k_im_B_writePush k_sel_B_writePush k_ini_B) k_co_B_writePush) rfl rfl rfl (by decide +kernel) ⟨Nat.le_of_ble_eq_true rfl, Nat.le_of_ble_eq_true rfl⟩) ⟨PM.bl, va_recv hK.1 hP (ci := 0) (q0 := 0) rfl rfl, PM.pre hP hD hK⟩ rfl rfl hl.1 rfl (lv_room (Nat.le_of_ble_eq_true rfl)) d_B_writeInstruction_38 ⟨Nat.le_of_ble_eq_true rfl, Nat.le_of_ble_eq_true rfl⟩) hD hS hA (fun u H locs hw hP hD hS => ?_)
    obtain ⟨b_38, bc_38⟩ := u
    have e_38 : (b_38, bc_38) = wrP x (b, bc) ∧ ¬ bc_38 < 0 := hw
    have hP : va_P D vwCl ((wB cI h0 q1 q2 q3 q4 q5 o f ee t b_38 ic bc_38 sa gn) ++ fr) H := hP
    have hD : va_D A ((wB cI h0 q1 q2 q3 q4 q5 o f ee t b_38 ic bc_38 sa gn) ++ fr) := hD
    refine lv_aload_n hx hb d_B_writeInstruction_41 rfl (lv_at hl 0 rfl) ?_
    refine lv_iconst (v := 2) hx hb d_B_writeInstruction_42 (by decide) ?_
    refine lv_iload_n hx hb d_B_writeInstruction_43 rfl (lv_at hl 2 rfl) ?_
    refine goMv (va_runV (As := [.int 2, .int a]) (rest := []) ⟨hx, hb, hml, hown, hts⟩ (c_B_writeWithRegister l D cI cL cO h0 q1 q2 q3 q4 q5 o f ee t b_38 ic bc_38 sa gn fr 2 a e_38.2 H.size) (cwV 2 hts (gBIG (m4 k_ml_B_62 k_im_B_writeWithRegister k_sel_B_writeWithRegister k_ini_B) k_co_B_writeWithRegister) rfl rfl rfl (by decide +kernel) ⟨Nat.le_of_ble_eq_true rfl, Nat.le_of_ble_eq_true rfl⟩) ⟨PM.bl, va_recv hK.1 hP (ci := 0) (q0 := 0) rfl rfl, PM.pre hP hD hK⟩ rfl rfl hl.1 rfl (lv_room (Nat.le_of_ble_eq_true rfl)) d_B_writeInstruction_44 ⟨Nat.le_of_ble_eq_true rfl, Nat.le_of_ble_eq_true rfl⟩) hD hS hA (fun u H locs hw hP hD hS => ?_)
    obtain ⟨b_44, bc_44⟩ := u
    have e_44 : (b_44, bc_44) = wrR 2 a (b_38, bc_38) ∧ ¬ bc_44 < 0 := hw
    have hP : va_P D vwCl ((wB cI h0 q1 q2 q3 q4 q5 o f ee t b_44 ic bc_44 sa gn) ++ fr) H := hP
    have hD : va_D A ((wB cI h0 q1 q2 q3 q4 q5 o f ee t b_44 ic bc_44 sa gn) ++ fr) := hD
    refine lv_goto (tgt := 108) hx hb d_B_writeInstruction_47 (by decide) ?_
    rw [hQ]; exact retMv (w1 := fun u : By => ((wB cI h0 q1 q2 q3 q4 q5 o f ee t u.1 ic u.2 sa gn) ++ fr)) (b_44, bc_44) hx hb hr hlocks hP hD hS ⟨by rw [e_44.1, e_38.1]; simp [wrI, c_1_0], e_44.2⟩ d_B_writeInstruction_108
  by_cases c_1_6 : op = 6
  · refine lv_lookup (off := 49) (tgt := 50) hx hb d_B_writeInstruction_1 (by decide) (by rw [c_1_6] <;> rfl) (by decide) ?_
    refine lv_aload_n hx hb d_B_writeInstruction_50 rfl (lv_at hl 0 rfl) ?_
    refine lv_iconst (v := 1) hx hb d_B_writeInstruction_51 (by decide) ?_
    refine lv_iload_n hx hb d_B_writeInstruction_52 rfl (lv_at hl 2 rfl) ?_
    refine goMv (va_runV (As := [.int 1, .int a]) (rest := []) ⟨hx, hb, hml, hown, hts⟩ (c_B_writeWithRegister l D cI cL cO h0 q1 q2 q3 q4 q5 o f ee t b ic bc sa gn fr 1 a hbc H.size) (cwV 2 hts (gBIG (m4 k_ml_B_62 k_im_B_writeWithRegister k_sel_B_writeWithRegister k_ini_B) k_co_B_writeWithRegister) rfl rfl rfl (by decide +kernel) ⟨Nat.le_of_ble_eq_true rfl, Nat.le_of_ble_eq_true rfl⟩) ⟨PM.bl, va_recv hK.1 hP (ci := 0) (q0 := 0) rfl rfl, PM.pre hP hD hK⟩ rfl rfl hl.1 rfl (lv_room (Nat.le_of_ble_eq_true rfl)) d_B_writeInstruction_53 ⟨Nat.le_of_ble_eq_true rfl, Nat.le_of_ble_eq_true rfl⟩) hD hS hA (fun u H locs hw hP hD hS => ?_)
    obtain ⟨b_53, bc_53⟩ := u
    have e_53 : (b_53, bc_53) = wrR 1 a (b, bc) ∧ ¬ bc_53 < 0 := hw
    have hP : va_P D vwCl ((wB cI h0 q1 q2 q3 q4 q5 o f ee t b_53 ic bc_53 sa gn) ++ fr) H := hP
    have hD : va_D A ((wB cI h0 q1 q2 q3 q4 q5 o f ee t b_53 ic bc_53 sa gn) ++ fr) := hD
    refine lv_aload_n hx hb d_B_writeInstruction_56 rfl (lv_at hl 0 rfl) ?_
    refine lv_aload_n hx hb d_B_writeInstruction_57 rfl (lv_at hl 0 rfl) ?_
    refine lv_iload_n hx hb d_B_writeInstruction_58 rfl (lv_at hl 3 rfl) ?_
    refine goRi (va_runV (As := [.int x]) (rest := [.ref h0]) ⟨hx, hb, hml, hown, hts⟩ (c_B_startOf l D cI cL cO h0 q1 q2 q3 q4 q5 o f ee t b_53 ic bc_53 sa gn x) (cwV 1 hts (gBIG (m4 k_ml_B_44 k_im_B_startOf k_sel_B_startOf k_ini_B) k_co_B_startOf) rfl rfl rfl (by decide +kernel) ⟨Nat.le_of_ble_eq_true rfl, Nat.le_of_ble_eq_true rfl⟩) ⟨PR.bl, va_recv hK.1 ((P_app.mp hP).1) (ci := 0) (q0 := 0) rfl rfl, PR.pre ((P_app.mp hP).1) hK⟩ rfl rfl hl.1 rfl (lv_room (Nat.le_of_ble_eq_true rfl)) d_B_writeInstruction_59 ⟨Nat.le_of_ble_eq_true rfl, Nat.le_of_ble_eq_true rfl⟩) ?_
    refine goMv (va_runV (As := [.int (startF t ic x)]) (rest := []) ⟨hx, hb, hml, hown, hts⟩ (c_B_writeBranch l D cI cL cO h0 q1 q2 q3 q4 q5 o f ee t b_53 ic bc_53 sa gn fr (startF t ic x) e_53.2 H.size) (cwV 1 hts (gBIG (m4 k_ml_B_66 k_im_B_writeBranch k_sel_B_writeBranch k_ini_B) k_co_B_writeBranch) rfl rfl rfl (by decide +kernel) ⟨Nat.le_of_ble_eq_true rfl, Nat.le_of_ble_eq_true rfl⟩) ⟨PM.bl, va_recv hK.1 hP (ci := 0) (q0 := 0) rfl rfl, PM.pre hP hD hK⟩ rfl rfl hl.1 rfl (lv_room (Nat.le_of_ble_eq_true rfl)) d_B_writeInstruction_62 ⟨Nat.le_of_ble_eq_true rfl, Nat.le_of_ble_eq_true rfl⟩) hD hS hA (fun u H locs hw hP hD hS => ?_)
    obtain ⟨b_62, bc_62⟩ := u
    have e_62 : (b_62, bc_62) = wrB (startF t ic x) (b_53, bc_53) ∧ ¬ bc_62 < 0 := hw
    have hP : va_P D vwCl ((wB cI h0 q1 q2 q3 q4 q5 o f ee t b_62 ic bc_62 sa gn) ++ fr) H := hP
    have hD : va_D A ((wB cI h0 q1 q2 q3 q4 q5 o f ee t b_62 ic bc_62 sa gn) ++ fr) := hD
    refine lv_goto (tgt := 108) hx hb d_B_writeInstruction_65 (by decide) ?_
    rw [hQ]; exact retMv (w1 := fun u : By => ((wB cI h0 q1 q2 q3 q4 q5 o f ee t u.1 ic u.2 sa gn) ++ fr)) (b_62, bc_62) hx hb hr hlocks hP hD hS ⟨by rw [e_62.1, e_53.1]; simp [wrI, c_1_0, c_1_6], e_62.2⟩ d_B_writeInstruction_108
  by_cases c_1_7 : op = 7
  · refine lv_lookup (off := 67) (tgt := 68) hx hb d_B_writeInstruction_1 (by decide) (by rw [c_1_7] <;> rfl) (by decide) ?_
    refine lv_aload_n hx hb d_B_writeInstruction_68 rfl (lv_at hl 0 rfl) ?_
    refine lv_iconst (v := 1) hx hb d_B_writeInstruction_69 (by decide) ?_
    refine lv_iload_n hx hb d_B_writeInstruction_70 rfl (lv_at hl 3 rfl) ?_
    refine goMv (va_runV (As := [.int 1, .int x]) (rest := []) ⟨hx, hb, hml, hown, hts⟩ (c_B_writeWithRegister l D cI cL cO h0 q1 q2 q3 q4 q5 o f ee t b ic bc sa gn fr 1 x hbc H.size) (cwV 2 hts (gBIG (m4 k_ml_B_62 k_im_B_writeWithRegister k_sel_B_writeWithRegister k_ini_B) k_co_B_writeWithRegister) rfl rfl rfl (by decide +kernel) ⟨Nat.le_of_ble_eq_true rfl, Nat.le_of_ble_eq_true rfl⟩) ⟨PM.bl, va_recv hK.1 hP (ci := 0) (q0 := 0) rfl rfl, PM.pre hP hD hK⟩ rfl rfl hl.1 rfl (lv_room (Nat.le_of_ble_eq_true rfl)) d_B_writeInstruction_71 ⟨Nat.le_of_ble_eq_true rfl, Nat.le_of_ble_eq_true rfl⟩) hD hS hA (fun u H locs hw hP hD hS => ?_)
    obtain ⟨b_71, bc_71⟩ := u
    have e_71 : (b_71, bc_71) = wrR 1 x (b, bc) ∧ ¬ bc_71 < 0 := hw
    have hP : va_P D vwCl ((wB cI h0 q1 q2 q3 q4 q5 o f ee t b_71 ic bc_71 sa gn) ++ fr) H := hP
    have hD : va_D A ((wB cI h0 q1 q2 q3 q4 q5 o f ee t b_71 ic bc_71 sa gn) ++ fr) := hD
    refine lv_aload_n hx hb d_B_writeInstruction_74 rfl (lv_at hl 0 rfl) ?_
    refine lv_iconst (v := 2) hx hb d_B_writeInstruction_75 (by decide) ?_
    refine lv_iload_n hx hb d_B_writeInstruction_76 rfl (lv_at hl 2 rfl) ?_
    refine goMv (va_runV (As := [.int 2, .int a]) (rest := []) ⟨hx, hb, hml, hown, hts⟩ (c_B_writeWithRegister l D cI cL cO h0 q1 q2 q3 q4 q5 o f ee t b_71 ic bc_71 sa gn fr 2 a e_71.2 H.size) (cwV 2 hts (gBIG (m4 k_ml_B_62 k_im_B_writeWithRegister k_sel_B_writeWithRegister k_ini_B) k_co_B_writeWithRegister) rfl rfl rfl (by decide +kernel) ⟨Nat.le_of_ble_eq_true rfl, Nat.le_of_ble_eq_true rfl⟩) ⟨PM.bl, va_recv hK.1 hP (ci := 0) (q0 := 0) rfl rfl, PM.pre hP hD hK⟩ rfl rfl hl.1 rfl (lv_room (Nat.le_of_ble_eq_true rfl)) d_B_writeInstruction_77 ⟨Nat.le_of_ble_eq_true rfl, Nat.le_of_ble_eq_true rfl⟩) hD hS hA (fun u H locs hw hP hD hS => ?_)
    obtain ⟨b_77, bc_77⟩ := u
    have e_77 : (b_77, bc_77) = wrR 2 a (b_71, bc_71) ∧ ¬ bc_77 < 0 := hw
    have hP : va_P D vwCl ((wB cI h0 q1 q2 q3 q4 q5 o f ee t b_77 ic bc_77 sa gn) ++ fr) H := hP
    have hD : va_D A ((wB cI h0 q1 q2 q3 q4 q5 o f ee t b_77 ic bc_77 sa gn) ++ fr) := hD
    refine lv_goto (tgt := 108) hx hb d_B_writeInstruction_80 (by decide) ?_
    rw [hQ]; exact retMv (w1 := fun u : By => ((wB cI h0 q1 q2 q3 q4 q5 o f ee t u.1 ic u.2 sa gn) ++ fr)) (b_77, bc_77) hx hb hr hlocks hP hD hS ⟨by rw [e_77.1, e_71.1]; simp [wrI, c_1_0, c_1_6, c_1_7], e_77.2⟩ d_B_writeInstruction_108
  refine lv_lookup (off := 82) (tgt := 83) hx hb d_B_writeInstruction_1 (by decide) (by rw [lv_osw c_1_0 (by decide), lv_osw c_1_6 (by decide), lv_osw c_1_7 (by decide)] <;> rfl) (by decide) ?_
  refine lv_aload_n hx hb d_B_writeInstruction_83 rfl (lv_at hl 0 rfl) ?_
  refine lv_iconst (v := 1) hx hb d_B_writeInstruction_84 (by decide) ?_
  refine lv_iload_n hx hb d_B_writeInstruction_85 rfl (lv_at hl 2 rfl) ?_
  refine goMv (va_runV (As := [.int 1, .int a]) (rest := []) ⟨hx, hb, hml, hown, hts⟩ (c_B_writeWithRegister l D cI cL cO h0 q1 q2 q3 q4 q5 o f ee t b ic bc sa gn fr 1 a hbc H.size) (cwV 2 hts (gBIG (m4 k_ml_B_62 k_im_B_writeWithRegister k_sel_B_writeWithRegister k_ini_B) k_co_B_writeWithRegister) rfl rfl rfl (by decide +kernel) ⟨Nat.le_of_ble_eq_true rfl, Nat.le_of_ble_eq_true rfl⟩) ⟨PM.bl, va_recv hK.1 hP (ci := 0) (q0 := 0) rfl rfl, PM.pre hP hD hK⟩ rfl rfl hl.1 rfl (lv_room (Nat.le_of_ble_eq_true rfl)) d_B_writeInstruction_86 ⟨Nat.le_of_ble_eq_true rfl, Nat.le_of_ble_eq_true rfl⟩) hD hS hA (fun u H locs hw hP hD hS => ?_)
  obtain ⟨b_86, bc_86⟩ := u
  have e_86 : (b_86, bc_86) = wrR 1 a (b, bc) ∧ ¬ bc_86 < 0 := hw
  have hP : va_P D vwCl ((wB cI h0 q1 q2 q3 q4 q5 o f ee t b_86 ic bc_86 sa gn) ++ fr) H := hP
  have hD : va_D A ((wB cI h0 q1 q2 q3 q4 q5 o f ee t b_86 ic bc_86 sa gn) ++ fr) := hD
  refine lv_aload_n hx hb d_B_writeInstruction_89 rfl (lv_at hl 0 rfl) ?_
  refine lv_iconst (v := 1) hx hb d_B_writeInstruction_90 (by decide) ?_
  refine lv_iload_n hx hb d_B_writeInstruction_91 rfl (lv_at hl 3 rfl) ?_
  refine goMv (va_runV (As := [.int 1, .int x]) (rest := []) ⟨hx, hb, hml, hown, hts⟩ (c_B_writeWithRegister l D cI cL cO h0 q1 q2 q3 q4 q5 o f ee t b_86 ic bc_86 sa gn fr 1 x e_86.2 H.size) (cwV 2 hts (gBIG (m4 k_ml_B_62 k_im_B_writeWithRegister k_sel_B_writeWithRegister k_ini_B) k_co_B_writeWithRegister) rfl rfl rfl (by decide +kernel) ⟨Nat.le_of_ble_eq_true rfl, Nat.le_of_ble_eq_true rfl⟩) ⟨PM.bl, va_recv hK.1 hP (ci := 0) (q0 := 0) rfl rfl, PM.pre hP hD hK⟩ rfl rfl hl.1 rfl (lv_room (Nat.le_of_ble_eq_true rfl)) d_B_writeInstruction_92 ⟨Nat.le_of_ble_eq_true rfl, Nat.le_of_ble_eq_true rfl⟩) hD hS hA (fun u H locs hw hP hD hS => ?_)
  obtain ⟨b_92, bc_92⟩ := u
  have e_92 : (b_92, bc_92) = wrR 1 x (b_86, bc_86) ∧ ¬ bc_92 < 0 := hw
  have hP : va_P D vwCl ((wB cI h0 q1 q2 q3 q4 q5 o f ee t b_92 ic bc_92 sa gn) ++ fr) H := hP
  have hD : va_D A ((wB cI h0 q1 q2 q3 q4 q5 o f ee t b_92 ic bc_92 sa gn) ++ fr) := hD
  refine lv_aload_n hx hb d_B_writeInstruction_95 rfl (lv_at hl 0 rfl) ?_
  refine lv_iload_n hx hb d_B_writeInstruction_96 rfl (lv_at hl 1 rfl) ?_
  refine lv_iconst (v := 3) hx hb d_B_writeInstruction_97 (by decide) ?_
  refine lv_iadd hx hb d_B_writeInstruction_98 ?_
  refine goMv (va_runV (As := [.int (op + 3)]) (rest := []) ⟨hx, hb, hml, hown, hts⟩ (c_B_append l D cI cL cO h0 q1 q2 q3 q4 q5 o f ee t b_92 ic bc_92 sa gn fr (op + 3) e_92.2 H.size) (cwV 1 hts (gBIG (m4 k_ml_B_55 k_im_B_append k_sel_B_append k_ini_B) k_co_B_append) rfl rfl rfl (by decide +kernel) ⟨Nat.le_of_ble_eq_true rfl, Nat.le_of_ble_eq_true rfl⟩) ⟨PM.bl, va_recv hK.1 hP (ci := 0) (q0 := 0) rfl rfl, PM.pre hP hD hK⟩ rfl rfl hl.1 rfl (lv_room (Nat.le_of_ble_eq_true rfl)) d_B_writeInstruction_99 ⟨Nat.le_of_ble_eq_true rfl, Nat.le_of_ble_eq_true rfl⟩) hD hS hA (fun u H locs hw hP hD hS => ?_)
  obtain ⟨b_99, bc_99⟩ := u
  have e_99 : (b_99, bc_99) = apF (op + 3) (b_92, bc_92) ∧ ¬ bc_99 < 0 := hw
  have hP : va_P D vwCl ((wB cI h0 q1 q2 q3 q4 q5 o f ee t b_99 ic bc_99 sa gn) ++ fr) H := hP
  have hD : va_D A ((wB cI h0 q1 q2 q3 q4 q5 o f ee t b_99 ic bc_99 sa gn) ++ fr) := hD
  refine lv_aload_n hx hb d_B_writeInstruction_102 rfl (lv_at hl 0 rfl) ?_
  refine lv_iconst (v := 2) hx hb d_B_writeInstruction_103 (by decide) ?_
  refine lv_iload_n hx hb d_B_writeInstruction_104 rfl (lv_at hl 2 rfl) ?_
  refine goMv (va_runV (As := [.int 2, .int a]) (rest := []) ⟨hx, hb, hml, hown, hts⟩ (c_B_writeWithRegister l D cI cL cO h0 q1 q2 q3 q4 q5 o f ee t b_99 ic bc_99 sa gn fr 2 a e_99.2 H.size) (cwV 2 hts (gBIG (m4 k_ml_B_62 k_im_B_writeWithRegister k_sel_B_writeWithRegister k_ini_B) k_co_B_writeWithRegister) rfl rfl rfl (by decide +kernel) ⟨Nat.le_of_ble_eq_true rfl, Nat.le_of_ble_eq_true rfl⟩) ⟨PM.bl, va_recv hK.1 hP (ci := 0) (q0 := 0) rfl rfl, PM.pre hP hD hK⟩ rfl rfl hl.1 rfl (lv_room (Nat.le_of_ble_eq_true rfl)) d_B_writeInstruction_105 ⟨Nat.le_of_ble_eq_true rfl, Nat.le_of_ble_eq_true rfl⟩) hD hS hA (fun u H locs hw hP hD hS => ?_)
  obtain ⟨b_105, bc_105⟩ := u
  have e_105 : (b_105, bc_105) = wrR 2 a (b_99, bc_99) ∧ ¬ bc_105 < 0 := hw
  have hP : va_P D vwCl ((wB cI h0 q1 q2 q3 q4 q5 o f ee t b_105 ic bc_105 sa gn) ++ fr) H := hP
  have hD : va_D A ((wB cI h0 q1 q2 q3 q4 q5 o f ee t b_105 ic bc_105 sa gn) ++ fr) := hD
  rw [hQ]; exact retMv (w1 := fun u : By => ((wB cI h0 q1 q2 q3 q4 q5 o f ee t u.1 ic u.2 sa gn) ++ fr)) (b_105, bc_105) hx hb hr hlocks hP hD hS ⟨by rw [e_105.1, e_99.1, e_92.1, e_86.1]; simp [wrI, c_1_0, c_1_6, c_1_7], e_105.2⟩ d_B_writeInstruction_108
end
section
abbrev w_B_writeBytes : List Cond := .code y_B_writeBytes b_B_writeBytes 2 none :: BIG
set_option maxHeartbeats 4000000 in
set_option maxRecDepth 100000 in
theorem c_B_writeBytes (l : Launch) (D : va_G) (cI cL cO : ClassId) (h0 : Nat) (q1 : Nat) (q2 : Nat) (q3 : Nat) (q4 : Nat) (q5 : Nat) (o : Fn) (f : Fn) (ee : Fn) (t : Fn) (b : Fn) (ic : Int32) (bc : Int32) (sa : Int32) (gn : Int32) (fr : va_W) : CMv l y_B_writeBytes w_B_writeBytes ({ frames := 3, cells := 0, slots := 0, locals := 66 }) D cI cL cO [.ref h0] ((wB cI h0 q1 q2 q3 q4 q5 o f ee t b ic bc sa gn) ++ fr) (fun u : By => u = wrA o f ee t ic b ∧ ¬ u.2 < 0) (fun u : By => ((wB cI h0 q1 q2 q3 q4 q5 o f ee t u.1 ic u.2 sa gn) ++ fr)) 0 0 := by
  refine ofMv (cc := b_B_writeBytes) (maxL := 2) (ret := none) (by decide) rfl (Nat.le_of_ble_eq_true rfl) ?_
  intro p e s m below meth c A ls H Q hQ hx hb hr hlocks hin hts hown hml hP hK hD hS hA hl
  have hl : lv_has ls 2 [(0, .ref h0)] := hl
  have hown : s.vm.findClass R_B = some m.cls := hown
  have ht : ∀ w ∈ BIG, w.before _ s = true := fun w h => hts w (List.mem_cons_of_mem _ h)
  refine lv_aload_n hx hb d_B_writeBytes_0 rfl (lv_at hl 0 rfl) ?_
  refine lv_iconst (v := 0) hx hb d_B_writeBytes_1 (by decide) ?_
  refine va_put (ci := 0) (v := .int 0) (ty := .int) (C := R_B) (T := T_B) (N := 9) hx hb ht in_B t_B t_B_ok n_B hown hK.1 hP hD hS 0 rfl rfl 6 (by decide) (ht _ k_fl_B_41) (fun _ h9 => h9) rfl (by decide +kernel) rfl rfl (Nat.le_of_ble_eq_true rfl) d_B_writeBytes_2 (fun H locs hP hD hS => ?_)
  have hP : va_P D vwCl ((wB cI h0 q1 q2 q3 q4 q5 o f ee t b ic 0 sa gn) ++ fr) H := hP
  have hD : va_D A ((wB cI h0 q1 q2 q3 q4 q5 o f ee t b ic 0 sa gn) ++ fr) := hD
  refine lv_iconst (v := 0) hx hb d_B_writeBytes_5 (by decide) ?_
  refine lv_istore_n (lv' := [(1, .int 0), (0, .ref h0)]) hx hb d_B_writeBytes_6 rfl hl (by decide) rfl (fun ls hl => ?_)
  have lp : ∀ (n : Nat) (i : Int32) (b1 : Fn) (bc1 : Int32) (H : Heap) (locs : List Loc) (ls : Array Slot), (i.toInt + (n : Int) = 61) → (0 ≤ i.toInt ∧ i.toInt ≤ 60) → (¬ bc1 < 0) → (apF 10 (wrL o f ee t ic n i (b1, bc1)) = wrA o f ee t ic b) → va_P D vwCl ((wB cI h0 q1 q2 q3 q4 q5 o f ee t b1 ic bc1 sa gn) ++ fr) H → va_D A ((wB cI h0 q1 q2 q3 q4 q5 o f ee t b1 ic bc1 sa gn) ++ fr) → va_S A s.heap H locs → lv_has ls 2 [(0, .ref h0), (1, .int i)] → W p l e ({ frames := 3, cells := 0, slots := 0, locals := 66 } : Room) s m ([.ref h0] : List Value).toArray below meth c H locs 0 0 Q (F0 m 7 ls []) := by
    intro n
    induction n with
    | zero =>
      intro i b1 bc1 H locs ls hn hi hbc hF hP hD hS hl
      exact absurd hn (by omega)
    | succ n ih =>
      intro i b1 bc1 H locs ls hn hi hbc hF hP hD hS hl
      refine lv_iload_n hx hb d_B_writeBytes_7 rfl (lv_at hl 1 rfl) ?_
      refine lv_aload_n hx hb d_B_writeBytes_8 rfl (lv_at hl 0 rfl) ?_
      refine va_get (ci := 0) (v := .int ic) (C := R_B) (T := T_B) (N := 9) hx hb ht in_B hown hK.1 hP 0 rfl rfl 5 (by decide) (ht _ k_fl_B_34) (fun _ h9 => h9) rfl d_B_writeBytes_9 ?_
      refine lv_icmp_ge (tgt := 49) hx hb d_B_writeBytes_12 (by decide) (fun c_12 => ?_) (fun c_12 => ?_)
      · refine lv_aload_n hx hb d_B_writeBytes_49 rfl (lv_at hl 0 rfl) ?_
        refine lv_bipush (v := 10) hx hb d_B_writeBytes_50 (by decide) ?_
        refine goMv (va_runV (As := [.int 10]) (rest := []) ⟨hx, hb, hml, hown, hts⟩ (c_B_append l D cI cL cO h0 q1 q2 q3 q4 q5 o f ee t b1 ic bc1 sa gn fr 10 hbc H.size) (cwV 1 hts (gBIG (m4 k_ml_B_55 k_im_B_append k_sel_B_append k_ini_B) k_co_B_append) rfl rfl rfl (by decide +kernel) ⟨Nat.le_of_ble_eq_true rfl, Nat.le_of_ble_eq_true rfl⟩) ⟨PM.bl, va_recv hK.1 hP (ci := 0) (q0 := 0) rfl rfl, PM.pre hP hD hK⟩ rfl rfl hl.1 rfl (lv_room (Nat.le_of_ble_eq_true rfl)) d_B_writeBytes_52 ⟨Nat.le_of_ble_eq_true rfl, Nat.le_of_ble_eq_true rfl⟩) hD hS hA (fun u H locs hw hP hD hS => ?_)
        obtain ⟨b_52, bc_52⟩ := u
        have e_52 : (b_52, bc_52) = apF 10 (b1, bc1) ∧ ¬ bc_52 < 0 := hw
        have hP : va_P D vwCl ((wB cI h0 q1 q2 q3 q4 q5 o f ee t b_52 ic bc_52 sa gn) ++ fr) H := hP
        have hD : va_D A ((wB cI h0 q1 q2 q3 q4 q5 o f ee t b_52 ic bc_52 sa gn) ++ fr) := hD
        rw [hQ]; exact retMv (w1 := fun u : By => ((wB cI h0 q1 q2 q3 q4 q5 o f ee t u.1 ic u.2 sa gn) ++ fr)) (b_52, bc_52) hx hb hr hlocks hP hD hS ⟨by rw [e_52.1, ← hF]; simp [wrL, c_12], e_52.2⟩ d_B_writeBytes_55
      · refine lv_iload_n hx hb d_B_writeBytes_15 rfl (lv_at hl 1 rfl) ?_
        refine lv_bipush (v := 60) hx hb d_B_writeBytes_16 (by decide) ?_
        refine lv_icmp_ge (tgt := 49) hx hb d_B_writeBytes_18 (by decide) (fun c_18 => ?_) (fun c_18 => ?_)
        · refine lv_aload_n hx hb d_B_writeBytes_49 rfl (lv_at hl 0 rfl) ?_
          refine lv_bipush (v := 10) hx hb d_B_writeBytes_50 (by decide) ?_
          refine goMv (va_runV (As := [.int 10]) (rest := []) ⟨hx, hb, hml, hown, hts⟩ (c_B_append l D cI cL cO h0 q1 q2 q3 q4 q5 o f ee t b1 ic bc1 sa gn fr 10 hbc H.size) (cwV 1 hts (gBIG (m4 k_ml_B_55 k_im_B_append k_sel_B_append k_ini_B) k_co_B_append) rfl rfl rfl (by decide +kernel) ⟨Nat.le_of_ble_eq_true rfl, Nat.le_of_ble_eq_true rfl⟩) ⟨PM.bl, va_recv hK.1 hP (ci := 0) (q0 := 0) rfl rfl, PM.pre hP hD hK⟩ rfl rfl hl.1 rfl (lv_room (Nat.le_of_ble_eq_true rfl)) d_B_writeBytes_52 ⟨Nat.le_of_ble_eq_true rfl, Nat.le_of_ble_eq_true rfl⟩) hD hS hA (fun u H locs hw hP hD hS => ?_)
          obtain ⟨b_52, bc_52⟩ := u
          have e_52 : (b_52, bc_52) = apF 10 (b1, bc1) ∧ ¬ bc_52 < 0 := hw
          have hP : va_P D vwCl ((wB cI h0 q1 q2 q3 q4 q5 o f ee t b_52 ic bc_52 sa gn) ++ fr) H := hP
          have hD : va_D A ((wB cI h0 q1 q2 q3 q4 q5 o f ee t b_52 ic bc_52 sa gn) ++ fr) := hD
          rw [hQ]; exact retMv (w1 := fun u : By => ((wB cI h0 q1 q2 q3 q4 q5 o f ee t u.1 ic u.2 sa gn) ++ fr)) (b_52, bc_52) hx hb hr hlocks hP hD hS ⟨by rw [e_52.1, ← hF]; simp [wrL, c_12, c_18], e_52.2⟩ d_B_writeBytes_55
        · refine lv_aload_n hx hb d_B_writeBytes_21 rfl (lv_at hl 0 rfl) ?_
          refine lv_aload_n hx hb d_B_writeBytes_22 rfl (lv_at hl 0 rfl) ?_
          refine va_get (ci := 0) (v := .ref q1) (C := R_B) (T := T_B) (N := 9) hx hb ht in_B hown hK.1 hP 0 rfl rfl 0 (by decide) (ht _ k_fl_B_9) (fun _ h9 => h9) rfl d_B_writeBytes_23 ?_
          refine lv_iload_n hx hb d_B_writeBytes_26 rfl (lv_at hl 1 rfl) ?_
          refine va_iald hx hb hK.1 hP 1 0 rfl rfl (in_of (N := 60) (by decide) (nn_of hi.1) c_18) d_B_writeBytes_27 ?_
          refine lv_aload_n hx hb d_B_writeBytes_28 rfl (lv_at hl 0 rfl) ?_
          refine va_get (ci := 0) (v := .ref q2) (C := R_B) (T := T_B) (N := 9) hx hb ht in_B hown hK.1 hP 0 rfl rfl 1 (by decide) (ht _ k_fl_B_15) (fun _ h9 => h9) rfl d_B_writeBytes_29 ?_
          refine lv_iload_n hx hb d_B_writeBytes_32 rfl (lv_at hl 1 rfl) ?_
          refine va_iald hx hb hK.1 hP 2 0 rfl rfl (in_of (N := 60) (by decide) (nn_of hi.1) c_18) d_B_writeBytes_33 ?_
          refine lv_aload_n hx hb d_B_writeBytes_34 rfl (lv_at hl 0 rfl) ?_
          refine va_get (ci := 0) (v := .ref q3) (C := R_B) (T := T_B) (N := 9) hx hb ht in_B hown hK.1 hP 0 rfl rfl 2 (by decide) (ht _ k_fl_B_18) (fun _ h9 => h9) rfl d_B_writeBytes_35 ?_
          refine lv_iload_n hx hb d_B_writeBytes_38 rfl (lv_at hl 1 rfl) ?_
          refine va_iald hx hb hK.1 hP 3 0 rfl rfl (in_of (N := 60) (by decide) (nn_of hi.1) c_18) d_B_writeBytes_39 ?_
          refine goMv (va_runV (As := [.int (o i.toNatClampNeg), .int (f i.toNatClampNeg), .int (ee i.toNatClampNeg)]) (rest := []) ⟨hx, hb, hml, hown, hts⟩ (c_B_writeInstruction l D cI cL cO h0 q1 q2 q3 q4 q5 o f ee t b1 ic bc1 sa gn fr (o i.toNatClampNeg) (f i.toNatClampNeg) (ee i.toNatClampNeg) hbc H.size) (cwV 3 hts (gBIG (m4 k_ml_B_51 k_im_B_writeInstruction k_sel_B_writeInstruction k_ini_B) k_co_B_writeInstruction) rfl rfl rfl (by decide +kernel) ⟨Nat.le_of_ble_eq_true rfl, Nat.le_of_ble_eq_true rfl⟩) ⟨PM.bl, va_recv hK.1 hP (ci := 0) (q0 := 0) rfl rfl, PM.pre hP hD hK⟩ rfl rfl hl.1 rfl (lv_room (Nat.le_of_ble_eq_true rfl)) d_B_writeBytes_40 ⟨Nat.le_of_ble_eq_true rfl, Nat.le_of_ble_eq_true rfl⟩) hD hS hA (fun u H locs hw hP hD hS => ?_)
          obtain ⟨b_40, bc_40⟩ := u
          have e_40 : (b_40, bc_40) = wrI t ic (o i.toNatClampNeg) (f i.toNatClampNeg) (ee i.toNatClampNeg) (b1, bc1) ∧ ¬ bc_40 < 0 := hw
          have hP : va_P D vwCl ((wB cI h0 q1 q2 q3 q4 q5 o f ee t b_40 ic bc_40 sa gn) ++ fr) H := hP
          have hD : va_D A ((wB cI h0 q1 q2 q3 q4 q5 o f ee t b_40 ic bc_40 sa gn) ++ fr) := hD
          refine lv_iinc (v := i + 1) (lv' := [(1, .int (i + 1)), (0, .ref h0)]) hx hb d_B_writeBytes_43 hl (k := 1) rfl rfl (by decide) rfl (fun ls hl => ?_)
          refine lv_goto (tgt := 7) hx hb d_B_writeBytes_46 (by decide) ?_
          exact ih (i + 1) b_40 bc_40 _ _ ls (by rw [i32_1 (by omega)]; omega) (by rw [i32_1 (by omega)]; have := i_lt c_18; have h60 : (60 : Int32).toInt = 60 := (by decide); omega) e_40.2 (by rw [e_40.1, ← hF]; simp [wrL, c_12, c_18]) hP hD hS (lv_sub hl [1, 0] rfl)
  exact lp 61 0 b 0 _ _ ls (by decide) (by decide) (by decide) rfl hP hD hS (lv_sub hl [1, 0] rfl)

abbrev w_B_becomeRows : List Cond := .code y_B_becomeRows b_B_becomeRows 1 none :: BIG
set_option maxHeartbeats 4000000 in
set_option maxRecDepth 100000 in
theorem c_B_becomeRows (l : Launch) (D : va_G) (cI cL cO : ClassId) (h0 : Nat) (q1 : Nat) (q2 : Nat) (q3 : Nat) (q4 : Nat) (q5 : Nat) (o : Fn) (f : Fn) (ee : Fn) (t : Fn) (b : Fn) (ic : Int32) (bc : Int32) (sa : Int32) (gn : Int32) (fr : va_W) : CMv l y_B_becomeRows w_B_becomeRows ({ frames := 0, cells := 0, slots := 0, locals := 0 }) D cI cL cO [.ref h0] ((wB cI h0 q1 q2 q3 q4 q5 o f ee t b ic bc sa gn) ++ fr) (fun u : Int32 × Int32 × Int32 => u = (0, 0, -1)) (fun u : Int32 × Int32 × Int32 => ((wB cI h0 q1 q2 q3 q4 q5 o f ee t b ic u.1 u.2.1 u.2.2) ++ fr)) 0 0 := by
  refine ofMv (cc := b_B_becomeRows) (maxL := 1) (ret := none) (by decide) rfl (Nat.le_of_ble_eq_true rfl) ?_
  intro p e s m below meth c A ls H Q hQ hx hb hr hlocks hin hts hown hml hP hK hD hS hA hl
  have hl : lv_has ls 1 [(0, .ref h0)] := hl
  have hown : s.vm.findClass R_B = some m.cls := hown
  have ht : ∀ w ∈ BIG, w.before _ s = true := fun w h => hts w (List.mem_cons_of_mem _ h)
  refine lv_aload_n hx hb d_B_becomeRows_0 rfl (lv_at hl 0 rfl) ?_
  refine lv_iconst (v := 0) hx hb d_B_becomeRows_1 (by decide) ?_
  refine va_put (ci := 0) (v := .int 0) (ty := .int) (C := R_B) (T := T_B) (N := 9) hx hb ht in_B t_B t_B_ok n_B hown hK.1 hP hD hS 0 rfl rfl 7 (by decide) (ht _ k_fl_B_27) (fun _ h9 => h9) rfl (by decide +kernel) rfl rfl (Nat.le_of_ble_eq_true rfl) d_B_becomeRows_2 (fun H locs hP hD hS => ?_)
  have hP : va_P D vwCl ((wB cI h0 q1 q2 q3 q4 q5 o f ee t b ic bc 0 gn) ++ fr) H := hP
  have hD : va_D A ((wB cI h0 q1 q2 q3 q4 q5 o f ee t b ic bc 0 gn) ++ fr) := hD
  refine lv_aload_n hx hb d_B_becomeRows_5 rfl (lv_at hl 0 rfl) ?_
  refine lv_iconst (v := (-1)) hx hb d_B_becomeRows_6 (by decide) ?_
  refine va_put (ci := 0) (v := .int (-1)) (ty := .int) (C := R_B) (T := T_B) (N := 9) hx hb ht in_B t_B t_B_ok n_B hown hK.1 hP hD hS 0 rfl rfl 8 (by decide) (ht _ k_fl_B_31) (fun _ h9 => h9) rfl (by decide +kernel) rfl rfl (Nat.le_of_ble_eq_true rfl) d_B_becomeRows_7 (fun H locs hP hD hS => ?_)
  have hP : va_P D vwCl ((wB cI h0 q1 q2 q3 q4 q5 o f ee t b ic bc 0 (-1)) ++ fr) H := hP
  have hD : va_D A ((wB cI h0 q1 q2 q3 q4 q5 o f ee t b ic bc 0 (-1)) ++ fr) := hD
  refine lv_aload_n hx hb d_B_becomeRows_10 rfl (lv_at hl 0 rfl) ?_
  refine lv_iconst (v := 0) hx hb d_B_becomeRows_11 (by decide) ?_
  refine va_put (ci := 0) (v := .int 0) (ty := .int) (C := R_B) (T := T_B) (N := 9) hx hb ht in_B t_B t_B_ok n_B hown hK.1 hP hD hS 0 rfl rfl 6 (by decide) (ht _ k_fl_B_41) (fun _ h9 => h9) rfl (by decide +kernel) rfl rfl (Nat.le_of_ble_eq_true rfl) d_B_becomeRows_12 (fun H locs hP hD hS => ?_)
  have hP : va_P D vwCl ((wB cI h0 q1 q2 q3 q4 q5 o f ee t b ic 0 0 (-1)) ++ fr) H := hP
  have hD : va_D A ((wB cI h0 q1 q2 q3 q4 q5 o f ee t b ic 0 0 (-1)) ++ fr) := hD
  rw [hQ]; exact retMv (w1 := fun u : Int32 × Int32 × Int32 => ((wB cI h0 q1 q2 q3 q4 q5 o f ee t b ic u.1 u.2.1 u.2.2) ++ fr)) (0, 0, (-1)) hx hb hr hlocks hP hD hS rfl d_B_becomeRows_15

abbrev w_B_overwrite : List Cond := .code y_B_overwrite b_B_overwrite 3 none :: BIG
set_option maxHeartbeats 4000000 in
set_option maxRecDepth 100000 in
theorem c_B_overwrite (l : Launch) (D : va_G) (cI cL cO : ClassId) (h0 : Nat) (q1 : Nat) (q2 : Nat) (q3 : Nat) (q4 : Nat) (q5 : Nat) (o : Fn) (f : Fn) (ee : Fn) (t : Fn) (b : Fn) (ic : Int32) (bc : Int32) (sa : Int32) (gn : Int32) (fr : va_W) (i : Int32) (v : Int32) : CMv l y_B_overwrite w_B_overwrite ({ frames := 1, cells := 0, slots := 0, locals := 21 }) D cI cL cO [.ref h0, .int i, .int v] ((wB cI h0 q1 q2 q3 q4 q5 o f ee t b ic bc sa gn) ++ fr) (fun u : Fn => u = ovF b bc i v) (fun u : Fn => ((wB cI h0 q1 q2 q3 q4 q5 o f ee t u ic bc sa gn) ++ fr)) 0 0 := by
  refine ofMv (cc := b_B_overwrite) (maxL := 3) (ret := none) (by decide) rfl (Nat.le_of_ble_eq_true rfl) ?_
  intro p e s m below meth c A ls H Q hQ hx hb hr hlocks hin hts hown hml hP hK hD hS hA hl
  have hl : lv_has ls 3 [(0, .ref h0), (1, .int i), (2, .int v)] := hl
  have hown : s.vm.findClass R_B = some m.cls := hown
  have ht : ∀ w ∈ BIG, w.before _ s = true := fun w h => hts w (List.mem_cons_of_mem _ h)
  refine lv_aload_n hx hb d_B_overwrite_0 rfl (lv_at hl 0 rfl) ?_
  refine lv_iload_n hx hb d_B_overwrite_1 rfl (lv_at hl 1 rfl) ?_
  refine goRi (va_runV (As := [.int i]) (rest := []) ⟨hx, hb, hml, hown, hts⟩ (c_B_hasByte l D cI cL cO h0 q1 q2 q3 q4 q5 o f ee t b ic bc sa gn i) (cwV 1 hts (gBIG (m4 k_ml_B_81 k_im_B_hasByte k_sel_B_hasByte k_ini_B) k_co_B_hasByte) rfl rfl rfl (by decide +kernel) ⟨Nat.le_of_ble_eq_true rfl, Nat.le_of_ble_eq_true rfl⟩) ⟨PR.bl, va_recv hK.1 ((P_app.mp hP).1) (ci := 0) (q0 := 0) rfl rfl, PR.pre ((P_app.mp hP).1) hK⟩ rfl rfl hl.1 rfl (lv_room (Nat.le_of_ble_eq_true rfl)) d_B_overwrite_2 ⟨Nat.le_of_ble_eq_true rfl, Nat.le_of_ble_eq_true rfl⟩) ?_
  refine lv_if_eq (tgt := 15) hx hb d_B_overwrite_5 (by decide) (fun c_5 => ?_) (fun c_5 => ?_)
  · rw [hQ]; exact retMv (w1 := fun u : Fn => ((wB cI h0 q1 q2 q3 q4 q5 o f ee t u ic bc sa gn) ++ fr)) b hx hb hr hlocks hP hD hS (by simp [ovF, c_5]) d_B_overwrite_15
  · refine lv_aload_n hx hb d_B_overwrite_8 rfl (lv_at hl 0 rfl) ?_
    refine va_get (ci := 0) (v := .ref q5) (C := R_B) (T := T_B) (N := 9) hx hb ht in_B hown hK.1 hP 0 rfl rfl 4 (by decide) (ht _ k_fl_B_24) (fun _ h9 => h9) rfl d_B_overwrite_9 ?_
    refine lv_iload_n hx hb d_B_overwrite_12 rfl (lv_at hl 1 rfl) ?_
    refine lv_iload_n hx hb d_B_overwrite_13 rfl (lv_at hl 2 rfl) ?_
    refine va_iast hx hb hK.1 hP hD hS 5 0 rfl rfl (hasF_in c_5) d_B_overwrite_14 (fun H locs hP hD hS => ?_)
    have hP : va_P D vwCl ((wB cI h0 q1 q2 q3 q4 q5 o f ee t (upd b i.toNatClampNeg v) ic bc sa gn) ++ fr) H := hP
    have hD : va_D A ((wB cI h0 q1 q2 q3 q4 q5 o f ee t (upd b i.toNatClampNeg v) ic bc sa gn) ++ fr) := hD
    rw [hQ]; exact retMv (w1 := fun u : Fn => ((wB cI h0 q1 q2 q3 q4 q5 o f ee t u ic bc sa gn) ++ fr)) (upd b i.toNatClampNeg v) hx hb hr hlocks hP hD hS (by simp [ovF, c_5]) d_B_overwrite_15

abbrev w_B_addInstruction : List Cond := .code y_B_addInstruction b_B_addInstruction 5 none :: BIG
set_option maxHeartbeats 4000000 in
set_option maxRecDepth 100000 in
theorem c_B_addInstruction (l : Launch) (D : va_G) (cI cL cO : ClassId) (h0 : Nat) (q1 : Nat) (q2 : Nat) (q3 : Nat) (q4 : Nat) (q5 : Nat) (o : Fn) (f : Fn) (ee : Fn) (t : Fn) (b : Fn) (ic : Int32) (bc : Int32) (sa : Int32) (gn : Int32) (fr : va_W) (op : Int32) (a : Int32) (x : Int32) (hic : ¬ ic < 0) : CMv l y_B_addInstruction w_B_addInstruction ({ frames := 2, cells := 0, slots := 0, locals := 41 }) D cI cL cO [.ref h0, .int op, .int a, .int x] ((wB cI h0 q1 q2 q3 q4 q5 o f ee t b ic bc sa gn) ++ fr) (fun u : Fn × Fn × Fn × Fn × Int32 => u = (if ic < 60 then (upd o ic.toNatClampNeg op, upd f ic.toNatClampNeg a, upd ee ic.toNatClampNeg x, upd t (ic + 1).toNatClampNeg (t ic.toNatClampNeg + bytesF op x), ic + 1) else (o, f, ee, t, ic))) (fun u : Fn × Fn × Fn × Fn × Int32 => ((wB cI h0 q1 q2 q3 q4 q5 u.1 u.2.1 u.2.2.1 u.2.2.2.1 b u.2.2.2.2 bc sa gn) ++ fr)) 0 0 := by
  refine ofMv (cc := b_B_addInstruction) (maxL := 5) (ret := none) (by decide) rfl (Nat.le_of_ble_eq_true rfl) ?_
  intro p e s m below meth c A ls H Q hQ hx hb hr hlocks hin hts hown hml hP hK hD hS hA hl
  have hl : lv_has ls 5 [(0, .ref h0), (1, .int op), (2, .int a), (3, .int x)] := hl
  have hown : s.vm.findClass R_B = some m.cls := hown
  have ht : ∀ w ∈ BIG, w.before _ s = true := fun w h => hts w (List.mem_cons_of_mem _ h)
  refine lv_aload_n hx hb d_B_addInstruction_0 rfl (lv_at hl 0 rfl) ?_
  refine va_get (ci := 0) (v := .int ic) (C := R_B) (T := T_B) (N := 9) hx hb ht in_B hown hK.1 hP 0 rfl rfl 5 (by decide) (ht _ k_fl_B_34) (fun _ h9 => h9) rfl d_B_addInstruction_1 ?_
  refine lv_istore (lv' := [(4, .int ic), (0, .ref h0), (1, .int op), (2, .int a), (3, .int x)]) hx hb d_B_addInstruction_4 hl (by decide) rfl (fun ls hl => ?_)
  refine lv_iload hx hb d_B_addInstruction_6 (lv_at hl 0 rfl) ?_
  refine lv_bipush (v := 60) hx hb d_B_addInstruction_8 (by decide) ?_
  refine lv_icmp_lt (tgt := 14) hx hb d_B_addInstruction_10 (by decide) (fun c_10 => ?_) (fun c_10 => ?_)
  · refine lv_aload_n hx hb d_B_addInstruction_14 rfl (lv_at hl 1 rfl) ?_
    refine va_get (ci := 0) (v := .ref q1) (C := R_B) (T := T_B) (N := 9) hx hb ht in_B hown hK.1 hP 0 rfl rfl 0 (by decide) (ht _ k_fl_B_9) (fun _ h9 => h9) rfl d_B_addInstruction_15 ?_
    refine lv_iload hx hb d_B_addInstruction_18 (lv_at hl 0 rfl) ?_
    refine lv_iload_n hx hb d_B_addInstruction_20 rfl (lv_at hl 2 rfl) ?_
    refine va_iast hx hb hK.1 hP hD hS 1 0 rfl rfl (in_lt (N := 60) (by decide) hic c_10) d_B_addInstruction_21 (fun H locs hP hD hS => ?_)
    have hP : va_P D vwCl ((wB cI h0 q1 q2 q3 q4 q5 (upd o ic.toNatClampNeg op) f ee t b ic bc sa gn) ++ fr) H := hP
    have hD : va_D A ((wB cI h0 q1 q2 q3 q4 q5 (upd o ic.toNatClampNeg op) f ee t b ic bc sa gn) ++ fr) := hD
    refine lv_aload_n hx hb d_B_addInstruction_22 rfl (lv_at hl 1 rfl) ?_
    refine va_get (ci := 0) (v := .ref q2) (C := R_B) (T := T_B) (N := 9) hx hb ht in_B hown hK.1 hP 0 rfl rfl 1 (by decide) (ht _ k_fl_B_15) (fun _ h9 => h9) rfl d_B_addInstruction_23 ?_
    refine lv_iload hx hb d_B_addInstruction_26 (lv_at hl 0 rfl) ?_
    refine lv_iload_n hx hb d_B_addInstruction_28 rfl (lv_at hl 3 rfl) ?_
    refine va_iast hx hb hK.1 hP hD hS 2 0 rfl rfl (in_lt (N := 60) (by decide) hic c_10) d_B_addInstruction_29 (fun H locs hP hD hS => ?_)
    have hP : va_P D vwCl ((wB cI h0 q1 q2 q3 q4 q5 (upd o ic.toNatClampNeg op) (upd f ic.toNatClampNeg a) ee t b ic bc sa gn) ++ fr) H := hP
    have hD : va_D A ((wB cI h0 q1 q2 q3 q4 q5 (upd o ic.toNatClampNeg op) (upd f ic.toNatClampNeg a) ee t b ic bc sa gn) ++ fr) := hD
    refine lv_aload_n hx hb d_B_addInstruction_30 rfl (lv_at hl 1 rfl) ?_
    refine va_get (ci := 0) (v := .ref q3) (C := R_B) (T := T_B) (N := 9) hx hb ht in_B hown hK.1 hP 0 rfl rfl 2 (by decide) (ht _ k_fl_B_18) (fun _ h9 => h9) rfl d_B_addInstruction_31 ?_
    refine lv_iload hx hb d_B_addInstruction_34 (lv_at hl 0 rfl) ?_
    refine lv_iload_n hx hb d_B_addInstruction_36 rfl (lv_at hl 4 rfl) ?_
    refine va_iast hx hb hK.1 hP hD hS 3 0 rfl rfl (in_lt (N := 60) (by decide) hic c_10) d_B_addInstruction_37 (fun H locs hP hD hS => ?_)
    have hP : va_P D vwCl ((wB cI h0 q1 q2 q3 q4 q5 (upd o ic.toNatClampNeg op) (upd f ic.toNatClampNeg a) (upd ee ic.toNatClampNeg x) t b ic bc sa gn) ++ fr) H := hP
    have hD : va_D A ((wB cI h0 q1 q2 q3 q4 q5 (upd o ic.toNatClampNeg op) (upd f ic.toNatClampNeg a) (upd ee ic.toNatClampNeg x) t b ic bc sa gn) ++ fr) := hD
    refine lv_aload_n hx hb d_B_addInstruction_38 rfl (lv_at hl 1 rfl) ?_
    refine va_get (ci := 0) (v := .ref q4) (C := R_B) (T := T_B) (N := 9) hx hb ht in_B hown hK.1 hP 0 rfl rfl 3 (by decide) (ht _ k_fl_B_21) (fun _ h9 => h9) rfl d_B_addInstruction_39 ?_
    refine lv_iload hx hb d_B_addInstruction_42 (lv_at hl 0 rfl) ?_
    refine lv_iconst (v := 1) hx hb d_B_addInstruction_44 (by decide) ?_
    refine lv_iadd hx hb d_B_addInstruction_45 ?_
    refine lv_aload_n hx hb d_B_addInstruction_46 rfl (lv_at hl 1 rfl) ?_
    refine va_get (ci := 0) (v := .ref q4) (C := R_B) (T := T_B) (N := 9) hx hb ht in_B hown hK.1 hP 0 rfl rfl 3 (by decide) (ht _ k_fl_B_21) (fun _ h9 => h9) rfl d_B_addInstruction_47 ?_
    refine lv_iload hx hb d_B_addInstruction_50 (lv_at hl 0 rfl) ?_
    refine va_iald hx hb hK.1 hP 4 0 rfl rfl (in_lt61 hic c_10) d_B_addInstruction_52 ?_
    refine lv_iload_n hx hb d_B_addInstruction_53 rfl (lv_at hl 2 rfl) ?_
    refine lv_iload_n hx hb d_B_addInstruction_54 rfl (lv_at hl 4 rfl) ?_
    refine goRi (va_runS (As := [.int op, .int x]) (rest := [.int (t ic.toNatClampNeg), .int (ic + 1), .ref q4]) ⟨hx, hb, hml, hown, hts⟩ (c_B_bytesFor l D cI cL cO op x) (cwS 2 hts (gBIG (m3 k_ml_B_37 k_st_B_bytesFor k_ini_B) k_co_B_bytesFor) rfl rfl rfl (by decide +kernel) ⟨Nat.le_of_ble_eq_true rfl, Nat.le_of_ble_eq_true rfl⟩) ⟨PR.bl, PR.pre P_nil hK⟩ rfl rfl hl.1 rfl (lv_room (Nat.le_of_ble_eq_true rfl)) d_B_addInstruction_55 ⟨Nat.le_of_ble_eq_true rfl, Nat.le_of_ble_eq_true rfl⟩) ?_
    refine lv_iadd hx hb d_B_addInstruction_58 ?_
    refine va_iast hx hb hK.1 hP hD hS 4 0 rfl rfl (in_lt1 hic c_10) d_B_addInstruction_59 (fun H locs hP hD hS => ?_)
    have hP : va_P D vwCl ((wB cI h0 q1 q2 q3 q4 q5 (upd o ic.toNatClampNeg op) (upd f ic.toNatClampNeg a) (upd ee ic.toNatClampNeg x) (upd t (ic + 1).toNatClampNeg ((t ic.toNatClampNeg) + (bytesF op x))) b ic bc sa gn) ++ fr) H := hP
    have hD : va_D A ((wB cI h0 q1 q2 q3 q4 q5 (upd o ic.toNatClampNeg op) (upd f ic.toNatClampNeg a) (upd ee ic.toNatClampNeg x) (upd t (ic + 1).toNatClampNeg ((t ic.toNatClampNeg) + (bytesF op x))) b ic bc sa gn) ++ fr) := hD
    refine lv_aload_n hx hb d_B_addInstruction_60 rfl (lv_at hl 1 rfl) ?_
    refine lv_iload hx hb d_B_addInstruction_61 (lv_at hl 0 rfl) ?_
    refine lv_iconst (v := 1) hx hb d_B_addInstruction_63 (by decide) ?_
    refine lv_iadd hx hb d_B_addInstruction_64 ?_
    refine va_put (ci := 0) (v := .int (ic + 1)) (ty := .int) (C := R_B) (T := T_B) (N := 9) hx hb ht in_B t_B t_B_ok n_B hown hK.1 hP hD hS 0 rfl rfl 5 (by decide) (ht _ k_fl_B_34) (fun _ h9 => h9) rfl (by decide +kernel) rfl rfl (Nat.le_of_ble_eq_true rfl) d_B_addInstruction_65 (fun H locs hP hD hS => ?_)
    have hP : va_P D vwCl ((wB cI h0 q1 q2 q3 q4 q5 (upd o ic.toNatClampNeg op) (upd f ic.toNatClampNeg a) (upd ee ic.toNatClampNeg x) (upd t (ic + 1).toNatClampNeg ((t ic.toNatClampNeg) + (bytesF op x))) b (ic + 1) bc sa gn) ++ fr) H := hP
    have hD : va_D A ((wB cI h0 q1 q2 q3 q4 q5 (upd o ic.toNatClampNeg op) (upd f ic.toNatClampNeg a) (upd ee ic.toNatClampNeg x) (upd t (ic + 1).toNatClampNeg ((t ic.toNatClampNeg) + (bytesF op x))) b (ic + 1) bc sa gn) ++ fr) := hD
    rw [hQ]; exact retMv (w1 := fun u : Fn × Fn × Fn × Fn × Int32 => ((wB cI h0 q1 q2 q3 q4 q5 u.1 u.2.1 u.2.2.1 u.2.2.2.1 b u.2.2.2.2 bc sa gn) ++ fr)) (upd o ic.toNatClampNeg op, upd f ic.toNatClampNeg a, upd ee ic.toNatClampNeg x, upd t (ic + 1).toNatClampNeg ((t ic.toNatClampNeg) + (bytesF op x)), ic + 1) hx hb hr hlocks hP hD hS (by simp [c_10]) d_B_addInstruction_68
  · rw [hQ]; exact retMv (w1 := fun u : Fn × Fn × Fn × Fn × Int32 => ((wB cI h0 q1 q2 q3 q4 q5 u.1 u.2.1 u.2.2.1 u.2.2.2.1 b u.2.2.2.2 bc sa gn) ++ fr)) (o, f, ee, t, ic) hx hb hr hlocks hP hD hS (by simp [c_10]) d_B_addInstruction_13
end
section
abbrev w_Ar_fill : List Cond := .code y_Ar_fill b_Ar_fill 4 none :: BIG
set_option maxHeartbeats 4000000 in
set_option maxRecDepth 100000 in
theorem c_Ar_fill (l : Launch) (D : va_G) (cI cL cO : ClassId) (a0 : Nat) (f : Fn) (fr : va_W) (v : Int32) : CMv l y_Ar_fill w_Ar_fill ({ frames := 0, cells := 0, slots := 0, locals := 0 }) D cI cL cO [.ref a0, .int v] ((wI3 cI a0 f) ++ fr) (fun u : Fn => u = fun _ => v) (fun u : Fn => ((wI3 cI a0 u) ++ fr)) 0 0 := by
  refine ofMv (cc := b_Ar_fill) (maxL := 4) (ret := none) (by decide) rfl (Nat.le_of_ble_eq_true rfl) ?_
  intro p e s m below meth c A ls H Q hQ hx hb hr hlocks hin hts hown hml hP hK hD hS hA hl
  have hl : lv_has ls 4 [(0, .ref a0), (1, .int v)] := hl
  have hown : s.vm.findClass R_Ar = some m.cls := hown
  have ht : ∀ w ∈ BIG, w.before _ s = true := fun w h => hts w (List.mem_cons_of_mem _ h)
  refine lv_iconst (v := 0) hx hb d_Ar_fill_0 (by decide) ?_
  refine lv_istore_n (lv' := [(2, .int 0), (0, .ref a0), (1, .int v)]) hx hb d_Ar_fill_1 rfl hl (by decide) rfl (fun ls hl => ?_)
  refine lv_aload_n hx hb d_Ar_fill_2 rfl (lv_at hl 1 rfl) ?_
  refine va_alen (v := 300) hx hb hK.1 hP 0 0 rfl rfl rfl d_Ar_fill_3 ?_
  refine lv_istore_n (lv' := [(3, .int 300), (2, .int 0), (0, .ref a0), (1, .int v)]) hx hb d_Ar_fill_4 rfl hl (by decide) rfl (fun ls hl => ?_)
  have lp : ∀ (n : Nat) (i : Int32) (f1 : Fn) (H : Heap) (locs : List Loc) (ls : Array Slot), (i.toInt + (n : Int) = 301) → (0 ≤ i.toInt ∧ i.toInt ≤ 300) → (∀ j : Nat, (j : Int) < i.toInt → f1 j = v) → va_P D vwCl ((wI3 cI a0 f1) ++ fr) H → va_D A ((wI3 cI a0 f1) ++ fr) → va_S A s.heap H locs → lv_has ls 4 [(0, .ref a0), (1, .int v), (2, .int i), (3, .int 300)] → W p l e ({ frames := 0, cells := 0, slots := 0, locals := 0 } : Room) s m ([.ref a0, .int v] : List Value).toArray below meth c H locs 0 0 Q (F0 m 5 ls []) := by
    intro n
    induction n with
    | zero =>
      intro i f1 H locs ls hn hi hf hP hD hS hl
      exact absurd hn (by omega)
    | succ n ih =>
      intro i f1 H locs ls hn hi hf hP hD hS hl
      refine lv_iload_n hx hb d_Ar_fill_5 rfl (lv_at hl 2 rfl) ?_
      refine lv_iload_n hx hb d_Ar_fill_6 rfl (lv_at hl 3 rfl) ?_
      refine lv_icmp_ge (tgt := 20) hx hb d_Ar_fill_7 (by decide) (fun c_7 => ?_) (fun c_7 => ?_)
      · have hP := P_ai (g := fun _ => v) (fun j hj => hf j (by have := i_le c_7; omega)) hP
        have hP : va_P D vwCl ((wI3 cI a0 (fun _ => v)) ++ fr) H := hP
        have hD : va_D A ((wI3 cI a0 (fun _ => v)) ++ fr) := D_ai hD
        rw [hQ]; exact retMv (w1 := fun u : Fn => ((wI3 cI a0 u) ++ fr)) (fun _ => v) hx hb hr hlocks hP hD hS rfl d_Ar_fill_20
      · refine lv_aload_n hx hb d_Ar_fill_10 rfl (lv_at hl 0 rfl) ?_
        refine lv_iload_n hx hb d_Ar_fill_11 rfl (lv_at hl 2 rfl) ?_
        refine lv_iload_n hx hb d_Ar_fill_12 rfl (lv_at hl 1 rfl) ?_
        refine va_iast hx hb hK.1 hP hD hS 0 0 rfl rfl (in_of (N := 300) (by decide) (nn_of hi.1) c_7) d_Ar_fill_13 (fun H locs hP hD hS => ?_)
        have hP : va_P D vwCl ((wI3 cI a0 (upd f1 i.toNatClampNeg v)) ++ fr) H := hP
        have hD : va_D A ((wI3 cI a0 (upd f1 i.toNatClampNeg v)) ++ fr) := hD
        refine lv_iinc (v := i + 1) (lv' := [(2, .int (i + 1)), (0, .ref a0), (1, .int v), (3, .int 300)]) hx hb d_Ar_fill_14 hl (k := 2) rfl rfl (by decide) rfl (fun ls hl => ?_)
        refine lv_goto (tgt := 5) hx hb d_Ar_fill_17 (by decide) ?_
        exact ih (i + 1) (upd f1 i.toNatClampNeg v) _ _ ls (by rw [i32_1 (by omega)]; omega) (by rw [i32_1 (by omega)]; have := i_lt c_7; have h3 : (300 : Int32).toInt = 300 := (by decide); omega) (fill_s hi.1 (by omega) hf) hP hD hS (lv_sub hl [1, 2, 0, 3] rfl)
  exact lp 301 0 f _ _ ls (by decide) (by decide) (fun j hj => absurd hj (by simp)) hP hD hS (lv_sub hl [2, 3, 1, 0] rfl)

abbrev w_Ar_fill2 : List Cond := .code y_Ar_fill2 b_Ar_fill2 5 none :: BIG
set_option maxHeartbeats 4000000 in
set_option maxRecDepth 100000 in
theorem c_Ar_fill2 (l : Launch) (D : va_G) (cI cL cO : ClassId) (a0 : Nat) (f : FL) (fr : va_W) (v : Int64) : CMv l y_Ar_fill2 w_Ar_fill2 ({ frames := 0, cells := 0, slots := 0, locals := 0 }) D cI cL cO [.ref a0, .long v] ((wL4 cL a0 f) ++ fr) (fun u : FL => u = fun _ => v) (fun u : FL => ((wL4 cL a0 u) ++ fr)) 0 0 := by
  refine ofMv (cc := b_Ar_fill2) (maxL := 5) (ret := none) (by decide) rfl (Nat.le_of_ble_eq_true rfl) ?_
  intro p e s m below meth c A ls H Q hQ hx hb hr hlocks hin hts hown hml hP hK hD hS hA hl
  have hl : lv_has ls 5 [(0, .ref a0), (1, .long v)] := hl
  have hown : s.vm.findClass R_Ar = some m.cls := hown
  have ht : ∀ w ∈ BIG, w.before _ s = true := fun w h => hts w (List.mem_cons_of_mem _ h)
  refine lv_iconst (v := 0) hx hb d_Ar_fill2_0 (by decide) ?_
  refine lv_istore_n (lv' := [(3, .int 0), (0, .ref a0), (1, .long v)]) hx hb d_Ar_fill2_1 rfl hl (by decide) rfl (fun ls hl => ?_)
  refine lv_aload_n hx hb d_Ar_fill2_2 rfl (lv_at hl 1 rfl) ?_
  refine va_alen (v := 4) hx hb hK.1 hP 0 1 rfl rfl rfl d_Ar_fill2_3 ?_
  refine lv_istore (lv' := [(4, .int 4), (3, .int 0), (0, .ref a0), (1, .long v)]) hx hb d_Ar_fill2_4 hl (by decide) rfl (fun ls hl => ?_)
  have lp : ∀ (n : Nat) (i : Int32) (f1 : FL) (H : Heap) (locs : List Loc) (ls : Array Slot), (i.toInt + (n : Int) = 5) → (0 ≤ i.toInt ∧ i.toInt ≤ 4) → (∀ j : Nat, (j : Int) < i.toInt → f1 j = v) → va_P D vwCl ((wL4 cL a0 f1) ++ fr) H → va_D A ((wL4 cL a0 f1) ++ fr) → va_S A s.heap H locs → lv_has ls 5 [(0, .ref a0), (1, .long v), (3, .int i), (4, .int 4)] → W p l e ({ frames := 0, cells := 0, slots := 0, locals := 0 } : Room) s m ([.ref a0, .long v] : List Value).toArray below meth c H locs 0 0 Q (F0 m 6 ls []) := by
    intro n
    induction n with
    | zero =>
      intro i f1 H locs ls hn hi hf hP hD hS hl
      exact absurd hn (by omega)
    | succ n ih =>
      intro i f1 H locs ls hn hi hf hP hD hS hl
      refine lv_iload_n hx hb d_Ar_fill2_6 rfl (lv_at hl 2 rfl) ?_
      refine lv_iload hx hb d_Ar_fill2_7 (lv_at hl 3 rfl) ?_
      refine lv_icmp_ge (tgt := 22) hx hb d_Ar_fill2_9 (by decide) (fun c_9 => ?_) (fun c_9 => ?_)
      · have hP := P_al (g := fun _ => v) (fun j hj => hf j (by have := i_le4 c_9; omega)) hP
        have hP : va_P D vwCl ((wL4 cL a0 (fun _ => v)) ++ fr) H := hP
        have hD : va_D A ((wL4 cL a0 (fun _ => v)) ++ fr) := D_ai hD
        rw [hQ]; exact retMv (w1 := fun u : FL => ((wL4 cL a0 u) ++ fr)) (fun _ => v) hx hb hr hlocks hP hD hS rfl d_Ar_fill2_22
      · refine lv_aload_n hx hb d_Ar_fill2_12 rfl (lv_at hl 0 rfl) ?_
        refine lv_iload_n hx hb d_Ar_fill2_13 rfl (lv_at hl 2 rfl) ?_
        refine lv_lload_n hx hb d_Ar_fill2_14 rfl (lv_at hl 1 rfl) ?_
        refine va_last hx hb hK.1 hP hD hS 0 1 rfl rfl (in_of (N := 4) (by decide) (nn_of hi.1) c_9) d_Ar_fill2_15 (fun H locs hP hD hS => ?_)
        have hP : va_P D vwCl ((wL4 cL a0 (vp_updL f1 i.toNatClampNeg v)) ++ fr) H := hP
        have hD : va_D A ((wL4 cL a0 (vp_updL f1 i.toNatClampNeg v)) ++ fr) := hD
        refine lv_iinc (v := i + 1) (lv' := [(3, .int (i + 1)), (0, .ref a0), (1, .long v), (4, .int 4)]) hx hb d_Ar_fill2_16 hl (k := 2) rfl rfl (by decide) rfl (fun ls hl => ?_)
        refine lv_goto (tgt := 6) hx hb d_Ar_fill2_19 (by decide) ?_
        exact ih (i + 1) (vp_updL f1 i.toNatClampNeg v) _ _ ls (by rw [i32_1 (by omega)]; omega) (by rw [i32_1 (by omega)]; have := i_lt c_9; have h3 : (4 : Int32).toInt = 4 := (by decide); omega) (fill_l hi.1 (by omega) hf) hP hD hS (lv_sub hl [1, 2, 0, 3] rfl)
  exact lp 5 0 f _ _ ls (by decide) (by decide) (fun j hj => absurd hj (by simp)) hP hD hS (lv_sub hl [2, 3, 1, 0] rfl)
end
section
abbrev w_K_standsWhole : List Cond := .code y_K_standsWhole b_K_standsWhole 4 (some .boolean) :: BIG
set_option maxHeartbeats 4000000 in
set_option maxRecDepth 100000 in
theorem c_K_standsWhole (l : Launch) (D : va_G) (cI cL cO : ClassId) (h0 : Nat) (q1 : Nat) (q2 : Nat) (q3 : Nat) (q4 : Nat) (q5 : Nat) (o : Fn) (f : Fn) (ee : Fn) (t : Fn) (b : Fn) (ic : Int32) (bc : Int32) (sa : Int32) (gn : Int32) (at1 : Int32) (cd : Int32) : CRi l y_K_standsWhole w_K_standsWhole ({ frames := 2, cells := 0, slots := 0, locals := 42 }) D cI cL cO [.ref h0, .int at1, .int cd] (wB cI h0 q1 q2 q3 q4 q5 o f ee t b ic bc sa gn) (wholeF b bc at1 cd) := by
  refine ofR (cc := b_K_standsWhole) (maxL := 4) (ret := (some .boolean)) (by decide) rfl (Nat.le_of_ble_eq_true rfl) ?_
  intro p e s m below meth c ls Q hQ hx hb hr hlocks hts hown hml hP hK hl
  have hl : lv_has ls 4 [(0, .ref h0), (1, .int at1), (2, .int cd)] := hl
  have hown : s.vm.findClass R_K = some m.cls := hown
  have ht : ∀ w ∈ BIG, w.before _ s = true := fun w h => hts w (List.mem_cons_of_mem _ h)
  refine lv_iload_n hx hb d_K_standsWhole_0 rfl (lv_at hl 1 rfl) ?_
  refine lv_iload_n hx hb d_K_standsWhole_1 rfl (lv_at hl 2 rfl) ?_
  refine goRi (va_runSN (As := [.int cd]) (rest := [.int at1]) ⟨hx, hb, hml, hown, hts⟩ (c_M_lengthOf l D cI cL cO cd) ⟨va_cnB 1 hts (gB0 k_co_M_lengthOf) rfl rfl rfl (hK.2 _ n_ml_K_38) (ht _ k_ini_M) (by decide +kernel) ⟨Nat.le_of_ble_eq_true rfl, Nat.le_of_ble_eq_true rfl⟩, ht _ k_st_M_lengthOf, trivial⟩ ⟨PR.bl, PR.pre P_nil hK⟩ rfl rfl hl.1 rfl (lv_room (Nat.le_of_ble_eq_true rfl)) d_K_standsWhole_2 ⟨Nat.le_of_ble_eq_true rfl, Nat.le_of_ble_eq_true rfl⟩) ?_
  refine lv_iadd hx hb d_K_standsWhole_5 ?_
  refine lv_aload_n hx hb d_K_standsWhole_6 rfl (lv_at hl 0 rfl) ?_
  refine va_getN (ci := 0) (v := .int bc) (C := R_B) (T := T_B) (N := 9) hx hb ht in_B hown hK.1 hP 0 rfl rfl 6 (by decide) (va_Nw.use rfl (hK.2 _ n_fl_K_28)) (fun _ h9 => h9) rfl d_K_standsWhole_7 ?_
  refine lv_icmp_le (tgt := 15) hx hb d_K_standsWhole_10 (by decide) (fun c_10 => ?_) (fun c_10 => ?_)
  · refine lv_iload_n hx hb d_K_standsWhole_15 rfl (lv_at hl 2 rfl) ?_
    refine lv_iconst (v := 1) hx hb d_K_standsWhole_16 (by decide) ?_
    refine lv_icmp_eq (tgt := 25) hx hb d_K_standsWhole_17 (by decide) (fun c_17 => ?_) (fun c_17 => ?_)
    · refine lv_iconst (v := 1) hx hb d_K_standsWhole_25 (by decide) ?_
      refine lv_goto (tgt := 30) hx hb d_K_standsWhole_26 (by decide) ?_
      refine lv_istore_n (lv' := [(3, .int 1), (0, .ref h0), (1, .int at1), (2, .int cd)]) hx hb d_K_standsWhole_30 rfl hl (by decide) rfl (fun ls hl => ?_)
      refine lv_iload_n hx hb d_K_standsWhole_31 rfl (lv_at hl 0 rfl) ?_
      refine lv_if_eq (tgt := 48) hx hb d_K_standsWhole_32 (by decide) (fun c_32 => ?_) (fun c_32 => ?_)
      · exact absurd c_32 (by decide)
      · refine lv_aload_n hx hb d_K_standsWhole_35 rfl (lv_at hl 1 rfl) ?_
        refine lv_iload_n hx hb d_K_standsWhole_36 rfl (lv_at hl 2 rfl) ?_
        refine lv_iconst (v := 1) hx hb d_K_standsWhole_37 (by decide) ?_
        refine lv_iadd hx hb d_K_standsWhole_38 ?_
        refine goRi (va_runVN (As := [.int (at1 + 1)]) (rest := []) ⟨hx, hb, hml, hown, hts⟩ (c_B_read l D cI cL cO h0 q1 q2 q3 q4 q5 o f ee t b ic bc sa gn (at1 + 1)) ⟨va_cnB 1 hts (gB0 k_co_B_read) rfl rfl rfl (hK.2 _ n_ml_K_34) (ht _ k_ini_B) (by decide +kernel) ⟨Nat.le_of_ble_eq_true rfl, Nat.le_of_ble_eq_true rfl⟩, ht _ k_im_B_read, ht _ k_sel_B_read⟩ ⟨PR.bl, va_recv hK.1 hP (ci := 0) (q0 := 0) rfl rfl, PR.pre hP hK⟩ rfl rfl hl.1 rfl (lv_room (Nat.le_of_ble_eq_true rfl)) d_K_standsWhole_39 ⟨Nat.le_of_ble_eq_true rfl, Nat.le_of_ble_eq_true rfl⟩) ?_
        refine goRi (va_runSN (As := [.int (rdF b bc (at1 + 1))]) (rest := []) ⟨hx, hb, hml, hown, hts⟩ (c_M_isRegister l D cI cL cO (rdF b bc (at1 + 1))) ⟨va_cnB 1 hts (gB0 k_co_M_isRegister) rfl rfl rfl (hK.2 _ n_ml_K_65) (ht _ k_ini_M) (by decide +kernel) ⟨Nat.le_of_ble_eq_true rfl, Nat.le_of_ble_eq_true rfl⟩, ht _ k_st_M_isRegister, trivial⟩ ⟨PR.bl, PR.pre P_nil hK⟩ rfl rfl hl.1 rfl (lv_room (Nat.le_of_ble_eq_true rfl)) d_K_standsWhole_42 ⟨Nat.le_of_ble_eq_true rfl, Nat.le_of_ble_eq_true rfl⟩) ?_
        refine lv_if_eq (tgt := 52) hx hb d_K_standsWhole_45 (by decide) (fun c_45 => ?_) (fun c_45 => ?_)
        · refine lv_iconst (v := 0) hx hb d_K_standsWhole_52 (by decide) ?_
          rw [hQ]; exact retRz hx hb hr hlocks rfl (by first | (simp only [wholeF, if_pos c_10, if_pos c_17, if_pos c_45]; done) | simp [wholeF, c_10, c_17, c_45]) d_K_standsWhole_53
        · refine lv_iconst (v := 1) hx hb d_K_standsWhole_48 (by decide) ?_
          refine lv_goto (tgt := 53) hx hb d_K_standsWhole_49 (by decide) ?_
          rw [hQ]; exact retRz hx hb hr hlocks rfl (by first | (simp only [wholeF, if_pos c_10, if_pos c_17, if_neg c_45]; done) | simp [wholeF, c_10, c_17, c_45]) d_K_standsWhole_53
    · refine lv_iload_n hx hb d_K_standsWhole_20 rfl (lv_at hl 2 rfl) ?_
      refine lv_iconst (v := 2) hx hb d_K_standsWhole_21 (by decide) ?_
      refine lv_icmp_ne (tgt := 29) hx hb d_K_standsWhole_22 (by decide) (fun c_22 => ?_) (fun c_22 => ?_)
      · refine lv_iconst (v := 0) hx hb d_K_standsWhole_29 (by decide) ?_
        refine lv_istore_n (lv' := [(3, .int 0), (0, .ref h0), (1, .int at1), (2, .int cd)]) hx hb d_K_standsWhole_30 rfl hl (by decide) rfl (fun ls hl => ?_)
        refine lv_iload_n hx hb d_K_standsWhole_31 rfl (lv_at hl 0 rfl) ?_
        refine lv_if_eq (tgt := 48) hx hb d_K_standsWhole_32 (by decide) (fun c_32 => ?_) (fun c_32 => ?_)
        · refine lv_iconst (v := 1) hx hb d_K_standsWhole_48 (by decide) ?_
          refine lv_goto (tgt := 53) hx hb d_K_standsWhole_49 (by decide) ?_
          rw [hQ]; exact retRz hx hb hr hlocks rfl (by first | (simp only [wholeF, if_pos c_10, if_neg c_17, if_neg c_22]; done) | simp [wholeF, c_10, c_17, c_22]) d_K_standsWhole_53
        · exact absurd c_32 (by decide)
      · refine lv_iconst (v := 1) hx hb d_K_standsWhole_25 (by decide) ?_
        refine lv_goto (tgt := 30) hx hb d_K_standsWhole_26 (by decide) ?_
        refine lv_istore_n (lv' := [(3, .int 1), (0, .ref h0), (1, .int at1), (2, .int cd)]) hx hb d_K_standsWhole_30 rfl hl (by decide) rfl (fun ls hl => ?_)
        refine lv_iload_n hx hb d_K_standsWhole_31 rfl (lv_at hl 0 rfl) ?_
        refine lv_if_eq (tgt := 48) hx hb d_K_standsWhole_32 (by decide) (fun c_32 => ?_) (fun c_32 => ?_)
        · exact absurd c_32 (by decide)
        · refine lv_aload_n hx hb d_K_standsWhole_35 rfl (lv_at hl 1 rfl) ?_
          refine lv_iload_n hx hb d_K_standsWhole_36 rfl (lv_at hl 2 rfl) ?_
          refine lv_iconst (v := 1) hx hb d_K_standsWhole_37 (by decide) ?_
          refine lv_iadd hx hb d_K_standsWhole_38 ?_
          refine goRi (va_runVN (As := [.int (at1 + 1)]) (rest := []) ⟨hx, hb, hml, hown, hts⟩ (c_B_read l D cI cL cO h0 q1 q2 q3 q4 q5 o f ee t b ic bc sa gn (at1 + 1)) ⟨va_cnB 1 hts (gB0 k_co_B_read) rfl rfl rfl (hK.2 _ n_ml_K_34) (ht _ k_ini_B) (by decide +kernel) ⟨Nat.le_of_ble_eq_true rfl, Nat.le_of_ble_eq_true rfl⟩, ht _ k_im_B_read, ht _ k_sel_B_read⟩ ⟨PR.bl, va_recv hK.1 hP (ci := 0) (q0 := 0) rfl rfl, PR.pre hP hK⟩ rfl rfl hl.1 rfl (lv_room (Nat.le_of_ble_eq_true rfl)) d_K_standsWhole_39 ⟨Nat.le_of_ble_eq_true rfl, Nat.le_of_ble_eq_true rfl⟩) ?_
          refine goRi (va_runSN (As := [.int (rdF b bc (at1 + 1))]) (rest := []) ⟨hx, hb, hml, hown, hts⟩ (c_M_isRegister l D cI cL cO (rdF b bc (at1 + 1))) ⟨va_cnB 1 hts (gB0 k_co_M_isRegister) rfl rfl rfl (hK.2 _ n_ml_K_65) (ht _ k_ini_M) (by decide +kernel) ⟨Nat.le_of_ble_eq_true rfl, Nat.le_of_ble_eq_true rfl⟩, ht _ k_st_M_isRegister, trivial⟩ ⟨PR.bl, PR.pre P_nil hK⟩ rfl rfl hl.1 rfl (lv_room (Nat.le_of_ble_eq_true rfl)) d_K_standsWhole_42 ⟨Nat.le_of_ble_eq_true rfl, Nat.le_of_ble_eq_true rfl⟩) ?_
          refine lv_if_eq (tgt := 52) hx hb d_K_standsWhole_45 (by decide) (fun c_45 => ?_) (fun c_45 => ?_)
          · refine lv_iconst (v := 0) hx hb d_K_standsWhole_52 (by decide) ?_
            rw [hQ]; exact retRz hx hb hr hlocks rfl (by first | (simp only [wholeF, if_pos c_10, if_neg c_17, if_pos c_22, if_pos c_45]; done) | simp [wholeF, c_10, c_17, c_22, c_45]) d_K_standsWhole_53
          · refine lv_iconst (v := 1) hx hb d_K_standsWhole_48 (by decide) ?_
            refine lv_goto (tgt := 53) hx hb d_K_standsWhole_49 (by decide) ?_
            rw [hQ]; exact retRz hx hb hr hlocks rfl (by first | (simp only [wholeF, if_pos c_10, if_neg c_17, if_pos c_22, if_neg c_45]; done) | simp [wholeF, c_10, c_17, c_22, c_45]) d_K_standsWhole_53
  · refine lv_iconst (v := 0) hx hb d_K_standsWhole_13 (by decide) ?_
    rw [hQ]; exact retRz hx hb hr hlocks rfl (by first | (simp only [wholeF, if_neg c_10]; done) | simp [wholeF, c_10]) d_K_standsWhole_14

abbrev w_K_verdictOnEnd : List Cond := .code y_K_verdictOnEnd b_K_verdictOnEnd 4 (some .int) :: BIG
set_option maxHeartbeats 4000000 in
set_option maxRecDepth 100000 in
theorem c_K_verdictOnEnd (l : Launch) (D : va_G) (cI cL cO : ClassId) (k0 : Nat) (k1 : Nat) (h0 : Nat) (q1 : Nat) (q2 : Nat) (q3 : Nat) (q4 : Nat) (q5 : Nat) (o : Fn) (f : Fn) (ee : Fn) (t : Fn) (b : Fn) (ic : Int32) (bc : Int32) (sa : Int32) (gn : Int32) (at1 : Int32) (dp : Int32) : CRi l y_K_verdictOnEnd w_K_verdictOnEnd ({ frames := 1, cells := 0, slots := 0, locals := 20 }) D cI cL cO [.ref k0, .ref h0, .int at1, .int dp] ((wK k0 k1) ++ (wB cI h0 q1 q2 q3 q4 q5 o f ee t b ic bc sa gn)) (endF bc at1 dp) := by
  refine ofR (cc := b_K_verdictOnEnd) (maxL := 4) (ret := (some .int)) (by decide) rfl (Nat.le_of_ble_eq_true rfl) ?_
  intro p e s m below meth c ls Q hQ hx hb hr hlocks hts hown hml hP hK hl
  have hl : lv_has ls 4 [(0, .ref k0), (1, .ref h0), (2, .int at1), (3, .int dp)] := hl
  have hown : s.vm.findClass R_K = some m.cls := hown
  have ht : ∀ w ∈ BIG, w.before _ s = true := fun w h => hts w (List.mem_cons_of_mem _ h)
  refine lv_iload_n hx hb d_K_verdictOnEnd_0 rfl (lv_at hl 3 rfl) ?_
  refine lv_if_eq (tgt := 9) hx hb d_K_verdictOnEnd_1 (by decide) (fun c_1 => ?_) (fun c_1 => ?_)
  · refine lv_iload_n hx hb d_K_verdictOnEnd_9 rfl (lv_at hl 2 rfl) ?_
    refine lv_iconst (v := 1) hx hb d_K_verdictOnEnd_10 (by decide) ?_
    refine lv_iadd hx hb d_K_verdictOnEnd_11 ?_
    refine lv_aload_n hx hb d_K_verdictOnEnd_12 rfl (lv_at hl 1 rfl) ?_
    refine va_getN (ci := 0) (v := .int bc) (C := R_B) (T := T_B) (N := 9) hx hb ht in_B hown hK.1 hP 1 rfl rfl 6 (by decide) (va_Nw.use rfl (hK.2 _ n_fl_K_28)) (fun _ h9 => h9) rfl d_K_verdictOnEnd_13 ?_
    refine lv_icmp_ge (tgt := 28) hx hb d_K_verdictOnEnd_16 (by decide) (fun c_16 => ?_) (fun c_16 => ?_)
    · refine lv_iconst (v := 0) hx hb d_K_verdictOnEnd_28 (by decide) ?_
      rw [hQ]; exact retRi hx hb hr hlocks (by first | (simp only [endF, if_pos c_1, if_pos c_16]; done) | simp [endF, c_1, c_16]) d_K_verdictOnEnd_29
    · refine lv_iload_n hx hb d_K_verdictOnEnd_19 rfl (lv_at hl 2 rfl) ?_
      refine lv_iconst (v := 1) hx hb d_K_verdictOnEnd_20 (by decide) ?_
      refine lv_iadd hx hb d_K_verdictOnEnd_21 ?_
      refine goRi (va_runS (As := [.int (at1 + 1)]) (rest := []) ⟨hx, hb, hml, hown, hts⟩ (c_K_wrongAt l D cI cL cO (at1 + 1)) (cwS 1 hts (gBIG (m3 k_ml_K_48 k_st_K_wrongAt k_ini_K) k_co_K_wrongAt) rfl rfl rfl (by decide +kernel) ⟨Nat.le_of_ble_eq_true rfl, Nat.le_of_ble_eq_true rfl⟩) ⟨PR.bl, PR.pre P_nil hK⟩ rfl rfl hl.1 rfl (lv_room (Nat.le_of_ble_eq_true rfl)) d_K_verdictOnEnd_22 ⟨Nat.le_of_ble_eq_true rfl, Nat.le_of_ble_eq_true rfl⟩) ?_
      refine lv_goto (tgt := 29) hx hb d_K_verdictOnEnd_25 (by decide) ?_
      rw [hQ]; exact retRi hx hb hr hlocks (by first | (simp only [endF, if_pos c_1, if_neg c_16]; done) | simp [endF, c_1, c_16]) d_K_verdictOnEnd_29
  · refine lv_iload_n hx hb d_K_verdictOnEnd_4 rfl (lv_at hl 2 rfl) ?_
    refine goRi (va_runS (As := [.int at1]) (rest := []) ⟨hx, hb, hml, hown, hts⟩ (c_K_wrongAt l D cI cL cO at1) (cwS 1 hts (gBIG (m3 k_ml_K_48 k_st_K_wrongAt k_ini_K) k_co_K_wrongAt) rfl rfl rfl (by decide +kernel) ⟨Nat.le_of_ble_eq_true rfl, Nat.le_of_ble_eq_true rfl⟩) ⟨PR.bl, PR.pre P_nil hK⟩ rfl rfl hl.1 rfl (lv_room (Nat.le_of_ble_eq_true rfl)) d_K_verdictOnEnd_5 ⟨Nat.le_of_ble_eq_true rfl, Nat.le_of_ble_eq_true rfl⟩) ?_
    rw [hQ]; exact retRi hx hb hr hlocks (by first | (simp only [endF, if_neg c_1]; done) | simp [endF, c_1]) d_K_verdictOnEnd_8

abbrev w_K_isGoal : List Cond := .code y_K_isGoal b_K_isGoal 2 (some .boolean) :: BIG
set_option maxHeartbeats 4000000 in
set_option maxRecDepth 100000 in
theorem c_K_isGoal (l : Launch) (D : va_G) (cI cL cO : ClassId) (k0 : Nat) (k1 : Nat) (dd : Fn) (i : Int32) : CRi l y_K_isGoal w_K_isGoal ({ frames := 0, cells := 0, slots := 0, locals := 0 }) D cI cL cO [.ref k0, .int i] ((wK k0 k1) ++ (wI3 cI k1 dd)) (goalF dd i) := by
  refine ofR (cc := b_K_isGoal) (maxL := 2) (ret := (some .boolean)) (by decide) rfl (Nat.le_of_ble_eq_true rfl) ?_
  intro p e s m below meth c ls Q hQ hx hb hr hlocks hts hown hml hP hK hl
  have hl : lv_has ls 2 [(0, .ref k0), (1, .int i)] := hl
  have hown : s.vm.findClass R_K = some m.cls := hown
  have ht : ∀ w ∈ BIG, w.before _ s = true := fun w h => hts w (List.mem_cons_of_mem _ h)
  refine lv_iload_n hx hb d_K_isGoal_0 rfl (lv_at hl 1 rfl) ?_
  refine lv_if_lt (tgt := 24) hx hb d_K_isGoal_1 (by decide) (fun c_1 => ?_) (fun c_1 => ?_)
  · refine lv_iconst (v := 0) hx hb d_K_isGoal_24 (by decide) ?_
    rw [hQ]; exact retRz hx hb hr hlocks rfl (by first | (simp only [goalF, if_pos c_1]; done) | simp [goalF, c_1]) d_K_isGoal_25
  · refine lv_iload_n hx hb d_K_isGoal_4 rfl (lv_at hl 1 rfl) ?_
    refine lv_sipush (v := 300) hx hb d_K_isGoal_5 (by decide) ?_
    refine lv_icmp_ge (tgt := 24) hx hb d_K_isGoal_8 (by decide) (fun c_8 => ?_) (fun c_8 => ?_)
    · refine lv_iconst (v := 0) hx hb d_K_isGoal_24 (by decide) ?_
      rw [hQ]; exact retRz hx hb hr hlocks rfl (by first | (simp only [goalF, if_neg c_1, if_pos c_8]; done) | simp [goalF, c_1, c_8]) d_K_isGoal_25
    · refine lv_aload_n hx hb d_K_isGoal_11 rfl (lv_at hl 0 rfl) ?_
      refine va_get (ci := 1) (v := .ref k1) (C := R_K) (T := T_K) (N := 1) hx hb ht in_K hown hK.1 hP 0 rfl rfl 0 (by decide) (ht _ k_fl_K_9) (fun _ h9 => h9) rfl d_K_isGoal_12 ?_
      refine lv_iload_n hx hb d_K_isGoal_15 rfl (lv_at hl 1 rfl) ?_
      refine va_iald hx hb hK.1 hP 1 0 rfl rfl (in_of (N := 300) (by decide) c_1 c_8) d_K_isGoal_16 ?_
      refine lv_if_ne (tgt := 24) hx hb d_K_isGoal_17 (by decide) (fun c_17 => ?_) (fun c_17 => ?_)
      · refine lv_iconst (v := 0) hx hb d_K_isGoal_24 (by decide) ?_
        rw [hQ]; exact retRz hx hb hr hlocks rfl (by first | (simp only [goalF, if_neg c_1, if_neg c_8, if_neg c_17]; done) | simp [goalF, c_1, c_8, c_17]) d_K_isGoal_25
      · refine lv_iconst (v := 1) hx hb d_K_isGoal_20 (by decide) ?_
        refine lv_goto (tgt := 25) hx hb d_K_isGoal_21 (by decide) ?_
        rw [hQ]; exact retRz hx hb hr hlocks rfl (by first | (simp only [goalF, if_neg c_1, if_neg c_8, if_pos c_17]; done) | simp [goalF, c_1, c_8, c_17]) d_K_isGoal_25

abbrev w_K_verdictOnBranches : List Cond := .code y_K_verdictOnBranches b_K_verdictOnBranches 4 (some .int) :: BIG
set_option maxHeartbeats 4000000 in
set_option maxRecDepth 100000 in
theorem c_K_verdictOnBranches (l : Launch) (D : va_G) (cI cL cO : ClassId) (k0 : Nat) (k1 : Nat) (dd : Fn) (h0 : Nat) (q1 : Nat) (q2 : Nat) (q3 : Nat) (q4 : Nat) (q5 : Nat) (o : Fn) (f : Fn) (ee : Fn) (t : Fn) (b : Fn) (ic : Int32) (bc : Int32) (sa : Int32) (gn : Int32) : CRi l y_K_verdictOnBranches w_K_verdictOnBranches ({ frames := 3, cells := 0, slots := 0, locals := 63 }) D cI cL cO [.ref k0, .ref h0] ((wK k0 k1) ++ ((wI3 cI k1 dd) ++ (wB cI h0 q1 q2 q3 q4 q5 o f ee t b ic bc sa gn))) (vbL b bc dd 301 0) := by
  refine ofR (cc := b_K_verdictOnBranches) (maxL := 4) (ret := (some .int)) (by decide) rfl (Nat.le_of_ble_eq_true rfl) ?_
  intro p e s m below meth c ls Q hQ hx hb hr hlocks hts hown hml hP hK hl
  have hl : lv_has ls 4 [(0, .ref k0), (1, .ref h0)] := hl
  have hown : s.vm.findClass R_K = some m.cls := hown
  have ht : ∀ w ∈ BIG, w.before _ s = true := fun w h => hts w (List.mem_cons_of_mem _ h)
  refine lv_iconst (v := 0) hx hb d_K_verdictOnBranches_0 (by decide) ?_
  refine lv_istore_n (lv' := [(2, .int 0), (0, .ref k0), (1, .ref h0)]) hx hb d_K_verdictOnBranches_1 rfl hl (by decide) rfl (fun ls hl => ?_)
  have lp : ∀ (n : Nat) (i : Int32) (ls : Array Slot), (i.toInt + (n : Int) = 301) → (0 ≤ i.toInt ∧ i.toInt ≤ 300) → (vbL b bc dd n i = vbL b bc dd 301 0) → lv_has ls 4 [(0, .ref k0), (1, .ref h0), (2, .int i)] → W p l e ({ frames := 3, cells := 0, slots := 0, locals := 63 } : Room) s m ([.ref k0, .ref h0] : List Value).toArray below meth c s.heap [] 0 0 Q (F0 m 2 ls []) := by
    intro n
    induction n with
    | zero =>
      intro i ls hn hi hF hl
      exact absurd hn (by omega)
    | succ n ih =>
      intro i ls hn hi hF hl
      refine lv_iload_n hx hb d_K_verdictOnBranches_2 rfl (lv_at hl 2 rfl) ?_
      refine lv_aload_n hx hb d_K_verdictOnBranches_3 rfl (lv_at hl 1 rfl) ?_
      refine va_getN (ci := 0) (v := .int bc) (C := R_B) (T := T_B) (N := 9) hx hb ht in_B hown hK.1 hP 2 rfl rfl 6 (by decide) (va_Nw.use rfl (hK.2 _ n_fl_K_28)) (fun _ h9 => h9) rfl d_K_verdictOnBranches_4 ?_
      refine lv_icmp_ge (tgt := 86) hx hb d_K_verdictOnBranches_7 (by decide) (fun c_7 => ?_) (fun c_7 => ?_)
      · refine lv_iconst (v := 0) hx hb d_K_verdictOnBranches_86 (by decide) ?_
        rw [hQ]; exact retRi hx hb hr hlocks (by rw [← hF]; first | (simp only [vbL, if_pos c_7]; done) | simp [vbL, c_7]) d_K_verdictOnBranches_87
      · refine lv_iload_n hx hb d_K_verdictOnBranches_10 rfl (lv_at hl 2 rfl) ?_
        refine lv_sipush (v := 300) hx hb d_K_verdictOnBranches_11 (by decide) ?_
        refine lv_icmp_ge (tgt := 86) hx hb d_K_verdictOnBranches_14 (by decide) (fun c_14 => ?_) (fun c_14 => ?_)
        · refine lv_iconst (v := 0) hx hb d_K_verdictOnBranches_86 (by decide) ?_
          rw [hQ]; exact retRi hx hb hr hlocks (by rw [← hF]; first | (simp only [vbL, if_neg c_7, if_pos c_14]; done) | simp [vbL, c_7, c_14]) d_K_verdictOnBranches_87
        · refine lv_aload_n hx hb d_K_verdictOnBranches_17 rfl (lv_at hl 0 rfl) ?_
          refine va_get (ci := 1) (v := .ref k1) (C := R_K) (T := T_K) (N := 1) hx hb ht in_K hown hK.1 hP 0 rfl rfl 0 (by decide) (ht _ k_fl_K_9) (fun _ h9 => h9) rfl d_K_verdictOnBranches_18 ?_
          refine lv_iload_n hx hb d_K_verdictOnBranches_21 rfl (lv_at hl 2 rfl) ?_
          refine va_iald hx hb hK.1 hP 1 0 rfl rfl (in_of (N := 300) (by decide) (nn_of hi.1) c_14) d_K_verdictOnBranches_22 ?_
          refine lv_iconst (v := (-1)) hx hb d_K_verdictOnBranches_23 (by decide) ?_
          refine lv_icmp_eq (tgt := 41) hx hb d_K_verdictOnBranches_24 (by decide) (fun c_24 => ?_) (fun c_24 => ?_)
          · refine lv_iconst (v := 0) hx hb d_K_verdictOnBranches_41 (by decide) ?_
            refine lv_istore_n (lv' := [(3, .int 0), (0, .ref k0), (1, .ref h0), (2, .int i)]) hx hb d_K_verdictOnBranches_42 rfl hl (by decide) rfl (fun ls hl => ?_)
            refine lv_iload_n hx hb d_K_verdictOnBranches_43 rfl (lv_at hl 0 rfl) ?_
            refine lv_if_eq (tgt := 80) hx hb d_K_verdictOnBranches_44 (by decide) (fun c_44 => ?_) (fun c_44 => ?_)
            · refine lv_iinc (v := i + 1) (lv' := [(2, .int (i + 1)), (3, .int 0), (0, .ref k0), (1, .ref h0)]) hx hb d_K_verdictOnBranches_80 hl (k := 3) rfl rfl (by decide) rfl (fun ls hl => ?_)
              refine lv_goto (tgt := 2) hx hb d_K_verdictOnBranches_83 (by decide) ?_
              exact ih (i + 1) ls (by rw [i32_1 (by omega)]; omega) (by rw [i32_1 (by omega)]; have := i_lt c_14; have h3 : (300 : Int32).toInt = 300 := (by decide); omega) (by rw [← hF]; first | (simp only [vbL, if_neg c_7, if_neg c_14, if_pos c_24]; done) | simp [vbL, c_7, c_14, c_24]) (lv_sub hl [2, 3, 0] rfl)
            · exact absurd c_44 (by decide)
          · refine lv_aload_n hx hb d_K_verdictOnBranches_27 rfl (lv_at hl 1 rfl) ?_
            refine lv_iload_n hx hb d_K_verdictOnBranches_28 rfl (lv_at hl 2 rfl) ?_
            refine goRi (va_runVN (As := [.int i]) (rest := []) ⟨hx, hb, hml, hown, hts⟩ (c_B_read l D cI cL cO h0 q1 q2 q3 q4 q5 o f ee t b ic bc sa gn i) ⟨va_cnB 1 hts (gB0 k_co_B_read) rfl rfl rfl (hK.2 _ n_ml_K_34) (ht _ k_ini_B) (by decide +kernel) ⟨Nat.le_of_ble_eq_true rfl, Nat.le_of_ble_eq_true rfl⟩, ht _ k_im_B_read, ht _ k_sel_B_read⟩ ⟨PR.bl, va_recv hK.1 ((P_app.mp (P_app.mp hP).2).2) (ci := 0) (q0 := 0) rfl rfl, PR.pre ((P_app.mp (P_app.mp hP).2).2) hK⟩ rfl rfl hl.1 rfl (lv_room (Nat.le_of_ble_eq_true rfl)) d_K_verdictOnBranches_29 ⟨Nat.le_of_ble_eq_true rfl, Nat.le_of_ble_eq_true rfl⟩) ?_
            refine lv_bipush (v := 9) hx hb d_K_verdictOnBranches_32 (by decide) ?_
            refine lv_icmp_ne (tgt := 41) hx hb d_K_verdictOnBranches_34 (by decide) (fun c_34 => ?_) (fun c_34 => ?_)
            · refine lv_iconst (v := 0) hx hb d_K_verdictOnBranches_41 (by decide) ?_
              refine lv_istore_n (lv' := [(3, .int 0), (0, .ref k0), (1, .ref h0), (2, .int i)]) hx hb d_K_verdictOnBranches_42 rfl hl (by decide) rfl (fun ls hl => ?_)
              refine lv_iload_n hx hb d_K_verdictOnBranches_43 rfl (lv_at hl 0 rfl) ?_
              refine lv_if_eq (tgt := 80) hx hb d_K_verdictOnBranches_44 (by decide) (fun c_44 => ?_) (fun c_44 => ?_)
              · refine lv_iinc (v := i + 1) (lv' := [(2, .int (i + 1)), (3, .int 0), (0, .ref k0), (1, .ref h0)]) hx hb d_K_verdictOnBranches_80 hl (k := 3) rfl rfl (by decide) rfl (fun ls hl => ?_)
                refine lv_goto (tgt := 2) hx hb d_K_verdictOnBranches_83 (by decide) ?_
                exact ih (i + 1) ls (by rw [i32_1 (by omega)]; omega) (by rw [i32_1 (by omega)]; have := i_lt c_14; have h3 : (300 : Int32).toInt = 300 := (by decide); omega) (by rw [← hF]; first | (simp only [vbL, if_neg c_7, if_neg c_14, if_neg c_24, if_neg c_34]; done) | simp [vbL, c_7, c_14, c_24, c_34]) (lv_sub hl [2, 3, 0] rfl)
              · exact absurd c_44 (by decide)
            · refine lv_iconst (v := 1) hx hb d_K_verdictOnBranches_37 (by decide) ?_
              refine lv_goto (tgt := 42) hx hb d_K_verdictOnBranches_38 (by decide) ?_
              refine lv_istore_n (lv' := [(3, .int 1), (0, .ref k0), (1, .ref h0), (2, .int i)]) hx hb d_K_verdictOnBranches_42 rfl hl (by decide) rfl (fun ls hl => ?_)
              refine lv_iload_n hx hb d_K_verdictOnBranches_43 rfl (lv_at hl 0 rfl) ?_
              refine lv_if_eq (tgt := 80) hx hb d_K_verdictOnBranches_44 (by decide) (fun c_44 => ?_) (fun c_44 => ?_)
              · exact absurd c_44 (by decide)
              · refine lv_aload_n hx hb d_K_verdictOnBranches_47 rfl (lv_at hl 1 rfl) ?_
                refine va_get (ci := 1) (v := .ref k1) (C := R_K) (T := T_K) (N := 1) hx hb ht in_K hown hK.1 hP 0 rfl rfl 0 (by decide) (ht _ k_fl_K_9) (fun _ h9 => h9) rfl d_K_verdictOnBranches_48 ?_
                refine lv_iload_n hx hb d_K_verdictOnBranches_51 rfl (lv_at hl 3 rfl) ?_
                refine va_iald hx hb hK.1 hP 1 0 rfl rfl (in_of (N := 300) (by decide) (nn_of hi.1) c_14) d_K_verdictOnBranches_52 ?_
                refine lv_bipush (v := 9) hx hb d_K_verdictOnBranches_53 (by decide) ?_
                refine goRi (va_runS (As := [.int 9]) (rest := [.int (dd i.toNatClampNeg)]) ⟨hx, hb, hml, hown, hts⟩ (c_K_takenBy l D cI cL cO 9) (cwS 1 hts (gBIG (m3 k_ml_K_45 k_st_K_takenBy k_ini_K) k_co_K_takenBy) rfl rfl rfl (by decide +kernel) ⟨Nat.le_of_ble_eq_true rfl, Nat.le_of_ble_eq_true rfl⟩) ⟨PR.bl, PR.pre P_nil hK⟩ rfl rfl hl.1 rfl (lv_room (Nat.le_of_ble_eq_true rfl)) d_K_verdictOnBranches_55 ⟨Nat.le_of_ble_eq_true rfl, Nat.le_of_ble_eq_true rfl⟩) ?_
                refine lv_icmp_ne (tgt := 75) hx hb d_K_verdictOnBranches_58 (by decide) (fun c_58 => ?_) (fun c_58 => ?_)
                · refine lv_iload_n hx hb d_K_verdictOnBranches_75 rfl (lv_at hl 3 rfl) ?_
                  refine goRi (va_runS (As := [.int i]) (rest := []) ⟨hx, hb, hml, hown, hts⟩ (c_K_wrongAt l D cI cL cO i) (cwS 1 hts (gBIG (m3 k_ml_K_48 k_st_K_wrongAt k_ini_K) k_co_K_wrongAt) rfl rfl rfl (by decide +kernel) ⟨Nat.le_of_ble_eq_true rfl, Nat.le_of_ble_eq_true rfl⟩) ⟨PR.bl, PR.pre P_nil hK⟩ rfl rfl hl.1 rfl (lv_room (Nat.le_of_ble_eq_true rfl)) d_K_verdictOnBranches_76 ⟨Nat.le_of_ble_eq_true rfl, Nat.le_of_ble_eq_true rfl⟩) ?_
                  rw [hQ]; exact retRi hx hb hr hlocks (by rw [← hF]; first | (simp only [vbL, if_neg c_7, if_neg c_14, if_neg c_24, if_pos c_34, if_neg c_58]; done) | simp [vbL, c_7, c_14, c_24, c_34, c_58]) d_K_verdictOnBranches_79
                · refine lv_aload_n hx hb d_K_verdictOnBranches_61 rfl (lv_at hl 1 rfl) ?_
                  refine lv_aload_n hx hb d_K_verdictOnBranches_62 rfl (lv_at hl 2 rfl) ?_
                  refine lv_iload_n hx hb d_K_verdictOnBranches_63 rfl (lv_at hl 3 rfl) ?_
                  refine lv_iconst (v := 1) hx hb d_K_verdictOnBranches_64 (by decide) ?_
                  refine lv_iadd hx hb d_K_verdictOnBranches_65 ?_
                  refine goRi (va_runVN (As := [.int (i + 1)]) (rest := [.ref k0]) ⟨hx, hb, hml, hown, hts⟩ (c_B_readTwo l D cI cL cO h0 q1 q2 q3 q4 q5 o f ee t b ic bc sa gn (i + 1)) ⟨va_cnB 1 hts (gB0 k_co_B_readTwo) rfl rfl rfl (hK.2 _ n_ml_K_58) (ht _ k_ini_B) (by decide +kernel) ⟨Nat.le_of_ble_eq_true rfl, Nat.le_of_ble_eq_true rfl⟩, ht _ k_im_B_readTwo, ht _ k_sel_B_readTwo⟩ ⟨PR.bl, va_recv hK.1 ((P_app.mp (P_app.mp hP).2).2) (ci := 0) (q0 := 0) rfl rfl, PR.pre ((P_app.mp (P_app.mp hP).2).2) hK⟩ rfl rfl hl.1 rfl (lv_room (Nat.le_of_ble_eq_true rfl)) d_K_verdictOnBranches_66 ⟨Nat.le_of_ble_eq_true rfl, Nat.le_of_ble_eq_true rfl⟩) ?_
                  refine goRi (va_runV (As := [.int (rd2F b bc (i + 1))]) (rest := []) ⟨hx, hb, hml, hown, hts⟩ (c_K_isGoal l D cI cL cO k0 k1 dd (rd2F b bc (i + 1))) (cwV 1 hts (gBIG (m4 k_ml_K_61 k_im_K_isGoal k_sel_K_isGoal k_ini_K) k_co_K_isGoal) rfl rfl rfl (by decide +kernel) ⟨Nat.le_of_ble_eq_true rfl, Nat.le_of_ble_eq_true rfl⟩) ⟨PR.bl, va_recv hK.1 (P_app.mpr ⟨(P_app.mp hP).1, (P_app.mp (P_app.mp hP).2).1⟩) (ci := 1) (q0 := 0) rfl rfl, PR.pre (P_app.mpr ⟨(P_app.mp hP).1, (P_app.mp (P_app.mp hP).2).1⟩) hK⟩ rfl rfl hl.1 rfl (lv_room (Nat.le_of_ble_eq_true rfl)) d_K_verdictOnBranches_69 ⟨Nat.le_of_ble_eq_true rfl, Nat.le_of_ble_eq_true rfl⟩) ?_
                  refine lv_if_ne (tgt := 80) hx hb d_K_verdictOnBranches_72 (by decide) (fun c_72 => ?_) (fun c_72 => ?_)
                  · refine lv_iinc (v := i + 1) (lv' := [(2, .int (i + 1)), (3, .int 1), (0, .ref k0), (1, .ref h0)]) hx hb d_K_verdictOnBranches_80 hl (k := 3) rfl rfl (by decide) rfl (fun ls hl => ?_)
                    refine lv_goto (tgt := 2) hx hb d_K_verdictOnBranches_83 (by decide) ?_
                    exact ih (i + 1) ls (by rw [i32_1 (by omega)]; omega) (by rw [i32_1 (by omega)]; have := i_lt c_14; have h3 : (300 : Int32).toInt = 300 := (by decide); omega) (by rw [← hF]; first | (simp only [vbL, if_neg c_7, if_neg c_14, if_neg c_24, if_pos c_34, if_pos c_58, if_neg c_72]; done) | simp [vbL, c_7, c_14, c_24, c_34, c_58, c_72]) (lv_sub hl [2, 3, 0] rfl)
                  · refine lv_iload_n hx hb d_K_verdictOnBranches_75 rfl (lv_at hl 3 rfl) ?_
                    refine goRi (va_runS (As := [.int i]) (rest := []) ⟨hx, hb, hml, hown, hts⟩ (c_K_wrongAt l D cI cL cO i) (cwS 1 hts (gBIG (m3 k_ml_K_48 k_st_K_wrongAt k_ini_K) k_co_K_wrongAt) rfl rfl rfl (by decide +kernel) ⟨Nat.le_of_ble_eq_true rfl, Nat.le_of_ble_eq_true rfl⟩) ⟨PR.bl, PR.pre P_nil hK⟩ rfl rfl hl.1 rfl (lv_room (Nat.le_of_ble_eq_true rfl)) d_K_verdictOnBranches_76 ⟨Nat.le_of_ble_eq_true rfl, Nat.le_of_ble_eq_true rfl⟩) ?_
                    rw [hQ]; exact retRi hx hb hr hlocks (by rw [← hF]; first | (simp only [vbL, if_neg c_7, if_neg c_14, if_neg c_24, if_pos c_34, if_pos c_58, if_pos c_72]; done) | simp [vbL, c_7, c_14, c_24, c_34, c_58, c_72]) d_K_verdictOnBranches_79
  exact lp 301 0 ls (by decide) (by decide) rfl (lv_sub hl [1, 2, 0] rfl)

abbrev w_K_verdictOnCodes : List Cond := .code y_K_verdictOnCodes b_K_verdictOnCodes 6 (some .int) :: BIG
set_option maxHeartbeats 4000000 in
set_option maxRecDepth 100000 in
theorem c_K_verdictOnCodes (l : Launch) (D : va_G) (cI cL cO : ClassId) (k0 : Nat) (k1 : Nat) (dd : Fn) (h0 : Nat) (q1 : Nat) (q2 : Nat) (q3 : Nat) (q4 : Nat) (q5 : Nat) (o : Fn) (f : Fn) (ee : Fn) (t : Fn) (b : Fn) (ic : Int32) (bc : Int32) (sa : Int32) (gn : Int32) (fr : va_W) : CMi l y_K_verdictOnCodes w_K_verdictOnCodes ({ frames := 3, cells := 0, slots := 0, locals := 65 }) D cI cL cO [.ref k0, .ref h0] ((wK k0 k1) ++ ((wI3 cI k1 dd) ++ ((wB cI h0 q1 q2 q3 q4 q5 o f ee t b ic bc sa gn) ++ fr))) (fun (r : Int32) (u : Fn) => r = (vcF b bc).1 ∧ u = (vcF b bc).2) (fun u : Fn => ((wK k0 k1) ++ ((wI3 cI k1 u) ++ ((wB cI h0 q1 q2 q3 q4 q5 o f ee t b ic bc sa gn) ++ fr)))) 0 0 := by
  refine ofMi (cc := b_K_verdictOnCodes) (maxL := 6) (ret := (some .int)) (by decide) rfl (Nat.le_of_ble_eq_true rfl) ?_
  intro p e s m below meth c A ls H Q hQ hx hb hr hlocks hin hts hown hml hP hK hD hS hA hl
  have hl : lv_has ls 6 [(0, .ref k0), (1, .ref h0)] := hl
  have hown : s.vm.findClass R_K = some m.cls := hown
  have ht : ∀ w ∈ BIG, w.before _ s = true := fun w h => hts w (List.mem_cons_of_mem _ h)
  refine lv_aload_n hx hb d_K_verdictOnCodes_0 rfl (lv_at hl 0 rfl) ?_
  refine va_get (ci := 1) (v := .ref k1) (C := R_K) (T := T_K) (N := 1) hx hb ht in_K hown hK.1 hP 0 rfl rfl 0 (by decide) (ht _ k_fl_K_9) (fun _ h9 => h9) rfl d_K_verdictOnCodes_1 ?_
  refine lv_iconst (v := (-1)) hx hb d_K_verdictOnCodes_4 (by decide) ?_
  have hP := P_sw hP
  have hD := D_sw hD
  refine goMv (va_runS (As := [.ref k1, .int (-1)]) (rest := []) ⟨hx, hb, hml, hown, hts⟩ (c_Ar_fill l D cI cL cO k1 dd ((wK k0 k1) ++ ((wB cI h0 q1 q2 q3 q4 q5 o f ee t b ic bc sa gn) ++ fr)) (-1) H.size) (va_cwS 2 hts (gBIG (m3 k_ml_K_22 k_st_Ar_fill k_ini_Ar) k_co_Ar_fill) rfl rfl rfl (by decide +kernel) ⟨Nat.le_of_ble_eq_true rfl, Nat.le_of_ble_eq_true rfl⟩) ⟨PM.bl, PM.pre hP hD hK⟩ rfl rfl hl.1 rfl (lv_room (Nat.le_of_ble_eq_true rfl)) d_K_verdictOnCodes_5 ⟨Nat.le_of_ble_eq_true rfl, Nat.le_of_ble_eq_true rfl⟩) hD hS hA (fun u H locs hw hP hD hS => ?_)
  obtain ⟨f_5, rfl⟩ : ∃ z, z = u := ⟨_, rfl⟩
  have e_5 : f_5 = fun _ => (-1) := hw
  have hP : va_P D vwCl ((wI3 cI k1 f_5) ++ ((wK k0 k1) ++ ((wB cI h0 q1 q2 q3 q4 q5 o f ee t b ic bc sa gn) ++ fr))) H := hP
  have hD : va_D A ((wI3 cI k1 f_5) ++ ((wK k0 k1) ++ ((wB cI h0 q1 q2 q3 q4 q5 o f ee t b ic bc sa gn) ++ fr))) := hD
  have hP := P_sw hP
  have hD := D_sw hD
  have hP : va_P D vwCl ((wK k0 k1) ++ ((wI3 cI k1 f_5) ++ ((wB cI h0 q1 q2 q3 q4 q5 o f ee t b ic bc sa gn) ++ fr))) H := hP
  have hD : va_D A ((wK k0 k1) ++ ((wI3 cI k1 f_5) ++ ((wB cI h0 q1 q2 q3 q4 q5 o f ee t b ic bc sa gn) ++ fr))) := hD
  refine lv_iconst (v := 0) hx hb d_K_verdictOnCodes_8 (by decide) ?_
  refine lv_istore_n (lv' := [(2, .int 0), (0, .ref k0), (1, .ref h0)]) hx hb d_K_verdictOnCodes_9 rfl hl (by decide) rfl (fun ls hl => ?_)
  refine lv_iconst (v := 0) hx hb d_K_verdictOnCodes_10 (by decide) ?_
  refine lv_istore_n (lv' := [(3, .int 0), (2, .int 0), (0, .ref k0), (1, .ref h0)]) hx hb d_K_verdictOnCodes_11 rfl hl (by decide) rfl (fun ls hl => ?_)
  have lp : ∀ (n : Nat) (dp : Int32) (at1 : Int32) (d1 : Fn) (H : Heap) (locs : List Loc) (ls : Array Slot), (305 ≤ at1.toInt + (n : Int)) → (0 ≤ at1.toInt ∧ at1.toInt ≤ 304) → (vcL b bc n at1 dp d1 = vcF b bc) → va_P D vwCl ((wK k0 k1) ++ ((wI3 cI k1 d1) ++ ((wB cI h0 q1 q2 q3 q4 q5 o f ee t b ic bc sa gn) ++ fr))) H → va_D A ((wK k0 k1) ++ ((wI3 cI k1 d1) ++ ((wB cI h0 q1 q2 q3 q4 q5 o f ee t b ic bc sa gn) ++ fr))) → va_S A s.heap H locs → lv_has ls 6 [(0, .ref k0), (1, .ref h0), (2, .int dp), (3, .int at1)] → W p l e ({ frames := 3, cells := 0, slots := 0, locals := 65 } : Room) s m ([.ref k0, .ref h0] : List Value).toArray below meth c H locs 0 0 Q (F0 m 12 ls []) := by
    intro n
    induction n with
    | zero =>
      intro dp at1 d1 H locs ls hn hi hF hP hD hS hl
      exact absurd hn (by omega)
    | succ n ih =>
      intro dp at1 d1 H locs ls hn hi hF hP hD hS hl
      refine lv_iload_n hx hb d_K_verdictOnCodes_12 rfl (lv_at hl 3 rfl) ?_
      refine lv_aload_n hx hb d_K_verdictOnCodes_13 rfl (lv_at hl 1 rfl) ?_
      refine va_getN (ci := 0) (v := .int bc) (C := R_B) (T := T_B) (N := 9) hx hb ht in_B hown hK.1 hP 2 rfl rfl 6 (by decide) (va_Nw.use rfl (hK.2 _ n_fl_K_28)) (fun _ h9 => h9) rfl d_K_verdictOnCodes_14 ?_
      refine lv_icmp_ge (tgt := 125) hx hb d_K_verdictOnCodes_17 (by decide) (fun c_17 => ?_) (fun c_17 => ?_)
      · refine lv_aload_n hx hb d_K_verdictOnCodes_125 rfl (lv_at hl 1 rfl) ?_
        refine va_getN (ci := 0) (v := .int bc) (C := R_B) (T := T_B) (N := 9) hx hb ht in_B hown hK.1 hP 2 rfl rfl 6 (by decide) (va_Nw.use rfl (hK.2 _ n_fl_K_28)) (fun _ h9 => h9) rfl d_K_verdictOnCodes_126 ?_
        refine goRi (va_runS (As := [.int bc]) (rest := []) ⟨hx, hb, hml, hown, hts⟩ (c_K_wrongAt l D cI cL cO bc) (cwS 1 hts (gBIG (m3 k_ml_K_48 k_st_K_wrongAt k_ini_K) k_co_K_wrongAt) rfl rfl rfl (by decide +kernel) ⟨Nat.le_of_ble_eq_true rfl, Nat.le_of_ble_eq_true rfl⟩) ⟨PR.bl, PR.pre P_nil hK⟩ rfl rfl hl.1 rfl (lv_room (Nat.le_of_ble_eq_true rfl)) d_K_verdictOnCodes_129 ⟨Nat.le_of_ble_eq_true rfl, Nat.le_of_ble_eq_true rfl⟩) ?_
        rw [hQ]; exact retMi (w1 := fun u : Fn => ((wK k0 k1) ++ ((wI3 cI k1 u) ++ ((wB cI h0 q1 q2 q3 q4 q5 o f ee t b ic bc sa gn) ++ fr)))) d1 hx hb hr hlocks hP hD hS ⟨(by rw [← hF]; first | (simp only [vcL, if_pos c_17]; done) | simp [vcL, c_17]), (by rw [← hF]; first | (simp only [vcL, if_pos c_17]; done) | simp [vcL, c_17])⟩ d_K_verdictOnCodes_132
      · refine lv_iload_n hx hb d_K_verdictOnCodes_20 rfl (lv_at hl 3 rfl) ?_
        refine lv_sipush (v := 300) hx hb d_K_verdictOnCodes_21 (by decide) ?_
        refine lv_icmp_ge (tgt := 125) hx hb d_K_verdictOnCodes_24 (by decide) (fun c_24 => ?_) (fun c_24 => ?_)
        · refine lv_aload_n hx hb d_K_verdictOnCodes_125 rfl (lv_at hl 1 rfl) ?_
          refine va_getN (ci := 0) (v := .int bc) (C := R_B) (T := T_B) (N := 9) hx hb ht in_B hown hK.1 hP 2 rfl rfl 6 (by decide) (va_Nw.use rfl (hK.2 _ n_fl_K_28)) (fun _ h9 => h9) rfl d_K_verdictOnCodes_126 ?_
          refine goRi (va_runS (As := [.int bc]) (rest := []) ⟨hx, hb, hml, hown, hts⟩ (c_K_wrongAt l D cI cL cO bc) (cwS 1 hts (gBIG (m3 k_ml_K_48 k_st_K_wrongAt k_ini_K) k_co_K_wrongAt) rfl rfl rfl (by decide +kernel) ⟨Nat.le_of_ble_eq_true rfl, Nat.le_of_ble_eq_true rfl⟩) ⟨PR.bl, PR.pre P_nil hK⟩ rfl rfl hl.1 rfl (lv_room (Nat.le_of_ble_eq_true rfl)) d_K_verdictOnCodes_129 ⟨Nat.le_of_ble_eq_true rfl, Nat.le_of_ble_eq_true rfl⟩) ?_
          rw [hQ]; exact retMi (w1 := fun u : Fn => ((wK k0 k1) ++ ((wI3 cI k1 u) ++ ((wB cI h0 q1 q2 q3 q4 q5 o f ee t b ic bc sa gn) ++ fr)))) d1 hx hb hr hlocks hP hD hS ⟨(by rw [← hF]; first | (simp only [vcL, if_neg c_17, if_pos c_24]; done) | simp [vcL, c_17, c_24]), (by rw [← hF]; first | (simp only [vcL, if_neg c_17, if_pos c_24]; done) | simp [vcL, c_17, c_24])⟩ d_K_verdictOnCodes_132
        · refine lv_aload_n hx hb d_K_verdictOnCodes_27 rfl (lv_at hl 1 rfl) ?_
          refine lv_iload_n hx hb d_K_verdictOnCodes_28 rfl (lv_at hl 3 rfl) ?_
          refine goRi (va_runVN (As := [.int at1]) (rest := []) ⟨hx, hb, hml, hown, hts⟩ (c_B_read l D cI cL cO h0 q1 q2 q3 q4 q5 o f ee t b ic bc sa gn at1) ⟨va_cnB 1 hts (gB0 k_co_B_read) rfl rfl rfl (hK.2 _ n_ml_K_34) (ht _ k_ini_B) (by decide +kernel) ⟨Nat.le_of_ble_eq_true rfl, Nat.le_of_ble_eq_true rfl⟩, ht _ k_im_B_read, ht _ k_sel_B_read⟩ ⟨PR.bl, va_recv hK.1 ((P_app.mp (P_app.mp (P_app.mp hP).2).2).1) (ci := 0) (q0 := 0) rfl rfl, PR.pre ((P_app.mp (P_app.mp (P_app.mp hP).2).2).1) hK⟩ rfl rfl hl.1 rfl (lv_room (Nat.le_of_ble_eq_true rfl)) d_K_verdictOnCodes_29 ⟨Nat.le_of_ble_eq_true rfl, Nat.le_of_ble_eq_true rfl⟩) ?_
          refine lv_istore (lv' := [(4, .int (rdF b bc at1)), (0, .ref k0), (1, .ref h0), (2, .int dp), (3, .int at1)]) hx hb d_K_verdictOnCodes_32 hl (by decide) rfl (fun ls hl => ?_)
          refine lv_iload hx hb d_K_verdictOnCodes_34 (lv_at hl 0 rfl) ?_
          refine goRi (va_runSN (As := [.int (rdF b bc at1)]) (rest := []) ⟨hx, hb, hml, hown, hts⟩ (c_M_lengthOf l D cI cL cO (rdF b bc at1)) ⟨va_cnB 1 hts (gB0 k_co_M_lengthOf) rfl rfl rfl (hK.2 _ n_ml_K_38) (ht _ k_ini_M) (by decide +kernel) ⟨Nat.le_of_ble_eq_true rfl, Nat.le_of_ble_eq_true rfl⟩, ht _ k_st_M_lengthOf, trivial⟩ ⟨PR.bl, PR.pre P_nil hK⟩ rfl rfl hl.1 rfl (lv_room (Nat.le_of_ble_eq_true rfl)) d_K_verdictOnCodes_36 ⟨Nat.le_of_ble_eq_true rfl, Nat.le_of_ble_eq_true rfl⟩) ?_
          refine lv_istore (lv' := [(5, .int (lenOf (rdF b bc at1))), (4, .int (rdF b bc at1)), (0, .ref k0), (1, .ref h0), (2, .int dp), (3, .int at1)]) hx hb d_K_verdictOnCodes_39 hl (by decide) rfl (fun ls hl => ?_)
          refine lv_iload hx hb d_K_verdictOnCodes_41 (lv_at hl 0 rfl) ?_
          refine lv_iconst (v := 1) hx hb d_K_verdictOnCodes_43 (by decide) ?_
          refine lv_icmp_lt (tgt := 66) hx hb d_K_verdictOnCodes_44 (by decide) (fun c_44 => ?_) (fun c_44 => ?_)
          · refine lv_iload_n hx hb d_K_verdictOnCodes_66 rfl (lv_at hl 5 rfl) ?_
            refine goRi (va_runS (As := [.int at1]) (rest := []) ⟨hx, hb, hml, hown, hts⟩ (c_K_wrongAt l D cI cL cO at1) (cwS 1 hts (gBIG (m3 k_ml_K_48 k_st_K_wrongAt k_ini_K) k_co_K_wrongAt) rfl rfl rfl (by decide +kernel) ⟨Nat.le_of_ble_eq_true rfl, Nat.le_of_ble_eq_true rfl⟩) ⟨PR.bl, PR.pre P_nil hK⟩ rfl rfl hl.1 rfl (lv_room (Nat.le_of_ble_eq_true rfl)) d_K_verdictOnCodes_67 ⟨Nat.le_of_ble_eq_true rfl, Nat.le_of_ble_eq_true rfl⟩) ?_
            rw [hQ]; exact retMi (w1 := fun u : Fn => ((wK k0 k1) ++ ((wI3 cI k1 u) ++ ((wB cI h0 q1 q2 q3 q4 q5 o f ee t b ic bc sa gn) ++ fr)))) d1 hx hb hr hlocks hP hD hS ⟨(by rw [← hF]; first | (simp only [vcL, if_neg c_17, if_neg c_24, if_pos c_44]; done) | simp [vcL, c_17, c_24, c_44]), (by rw [← hF]; first | (simp only [vcL, if_neg c_17, if_neg c_24, if_pos c_44]; done) | simp [vcL, c_17, c_24, c_44])⟩ d_K_verdictOnCodes_70
          · refine lv_aload_n hx hb d_K_verdictOnCodes_47 rfl (lv_at hl 3 rfl) ?_
            refine lv_iload_n hx hb d_K_verdictOnCodes_48 rfl (lv_at hl 5 rfl) ?_
            refine lv_iload hx hb d_K_verdictOnCodes_49 (lv_at hl 1 rfl) ?_
            refine goRi (va_runS (As := [.ref h0, .int at1, .int (rdF b bc at1)]) (rest := []) ⟨hx, hb, hml, hown, hts⟩ (c_K_standsWhole l D cI cL cO h0 q1 q2 q3 q4 q5 o f ee t b ic bc sa gn at1 (rdF b bc at1)) (cwS 3 hts (gBIG (m3 k_ml_K_41 k_st_K_standsWhole k_ini_K) k_co_K_standsWhole) rfl rfl rfl (by decide +kernel) ⟨Nat.le_of_ble_eq_true rfl, Nat.le_of_ble_eq_true rfl⟩) ⟨PR.bl, PR.pre ((P_app.mp (P_app.mp (P_app.mp hP).2).2).1) hK⟩ rfl rfl hl.1 rfl (lv_room (Nat.le_of_ble_eq_true rfl)) d_K_verdictOnCodes_51 ⟨Nat.le_of_ble_eq_true rfl, Nat.le_of_ble_eq_true rfl⟩) ?_
            refine lv_if_eq (tgt := 66) hx hb d_K_verdictOnCodes_54 (by decide) (fun c_54 => ?_) (fun c_54 => ?_)
            · refine lv_iload_n hx hb d_K_verdictOnCodes_66 rfl (lv_at hl 5 rfl) ?_
              refine goRi (va_runS (As := [.int at1]) (rest := []) ⟨hx, hb, hml, hown, hts⟩ (c_K_wrongAt l D cI cL cO at1) (cwS 1 hts (gBIG (m3 k_ml_K_48 k_st_K_wrongAt k_ini_K) k_co_K_wrongAt) rfl rfl rfl (by decide +kernel) ⟨Nat.le_of_ble_eq_true rfl, Nat.le_of_ble_eq_true rfl⟩) ⟨PR.bl, PR.pre P_nil hK⟩ rfl rfl hl.1 rfl (lv_room (Nat.le_of_ble_eq_true rfl)) d_K_verdictOnCodes_67 ⟨Nat.le_of_ble_eq_true rfl, Nat.le_of_ble_eq_true rfl⟩) ?_
              rw [hQ]; exact retMi (w1 := fun u : Fn => ((wK k0 k1) ++ ((wI3 cI k1 u) ++ ((wB cI h0 q1 q2 q3 q4 q5 o f ee t b ic bc sa gn) ++ fr)))) d1 hx hb hr hlocks hP hD hS ⟨(by rw [← hF]; first | (simp only [vcL, if_neg c_17, if_neg c_24, if_neg c_44, if_pos c_54]; done) | simp [vcL, c_17, c_24, c_44, c_54]), (by rw [← hF]; first | (simp only [vcL, if_neg c_17, if_neg c_24, if_neg c_44, if_pos c_54]; done) | simp [vcL, c_17, c_24, c_44, c_54])⟩ d_K_verdictOnCodes_70
            · refine lv_iload_n hx hb d_K_verdictOnCodes_57 rfl (lv_at hl 4 rfl) ?_
              refine lv_iload hx hb d_K_verdictOnCodes_58 (lv_at hl 1 rfl) ?_
              refine goRi (va_runS (As := [.int (rdF b bc at1)]) (rest := [.int dp]) ⟨hx, hb, hml, hown, hts⟩ (c_K_takenBy l D cI cL cO (rdF b bc at1)) (cwS 1 hts (gBIG (m3 k_ml_K_45 k_st_K_takenBy k_ini_K) k_co_K_takenBy) rfl rfl rfl (by decide +kernel) ⟨Nat.le_of_ble_eq_true rfl, Nat.le_of_ble_eq_true rfl⟩) ⟨PR.bl, PR.pre P_nil hK⟩ rfl rfl hl.1 rfl (lv_room (Nat.le_of_ble_eq_true rfl)) d_K_verdictOnCodes_60 ⟨Nat.le_of_ble_eq_true rfl, Nat.le_of_ble_eq_true rfl⟩) ?_
              refine lv_icmp_ge (tgt := 71) hx hb d_K_verdictOnCodes_63 (by decide) (fun c_63 => ?_) (fun c_63 => ?_)
              · refine lv_aload_n hx hb d_K_verdictOnCodes_71 rfl (lv_at hl 2 rfl) ?_
                refine va_get (ci := 1) (v := .ref k1) (C := R_K) (T := T_K) (N := 1) hx hb ht in_K hown hK.1 hP 0 rfl rfl 0 (by decide) (ht _ k_fl_K_9) (fun _ h9 => h9) rfl d_K_verdictOnCodes_72 ?_
                refine lv_iload_n hx hb d_K_verdictOnCodes_75 rfl (lv_at hl 5 rfl) ?_
                refine lv_iload_n hx hb d_K_verdictOnCodes_76 rfl (lv_at hl 4 rfl) ?_
                refine va_iast hx hb hK.1 hP hD hS 1 0 rfl rfl (in_of (N := 300) (by decide) (nn_of hi.1) c_24) d_K_verdictOnCodes_77 (fun H locs hP hD hS => ?_)
                have hP : va_P D vwCl ((wK k0 k1) ++ ((wI3 cI k1 (upd d1 at1.toNatClampNeg dp)) ++ ((wB cI h0 q1 q2 q3 q4 q5 o f ee t b ic bc sa gn) ++ fr))) H := hP
                have hD : va_D A ((wK k0 k1) ++ ((wI3 cI k1 (upd d1 at1.toNatClampNeg dp)) ++ ((wB cI h0 q1 q2 q3 q4 q5 o f ee t b ic bc sa gn) ++ fr))) := hD
                refine lv_iload hx hb d_K_verdictOnCodes_78 (lv_at hl 1 rfl) ?_
                refine lv_bipush (v := 10) hx hb d_K_verdictOnCodes_80 (by decide) ?_
                refine lv_icmp_ne (tgt := 93) hx hb d_K_verdictOnCodes_82 (by decide) (fun c_82 => ?_) (fun c_82 => ?_)
                · refine lv_iload_n hx hb d_K_verdictOnCodes_93 rfl (lv_at hl 4 rfl) ?_
                  refine lv_iload hx hb d_K_verdictOnCodes_94 (lv_at hl 1 rfl) ?_
                  refine goRi (va_runS (As := [.int (rdF b bc at1)]) (rest := [.int dp]) ⟨hx, hb, hml, hown, hts⟩ (c_K_takenBy l D cI cL cO (rdF b bc at1)) (cwS 1 hts (gBIG (m3 k_ml_K_45 k_st_K_takenBy k_ini_K) k_co_K_takenBy) rfl rfl rfl (by decide +kernel) ⟨Nat.le_of_ble_eq_true rfl, Nat.le_of_ble_eq_true rfl⟩) ⟨PR.bl, PR.pre P_nil hK⟩ rfl rfl hl.1 rfl (lv_room (Nat.le_of_ble_eq_true rfl)) d_K_verdictOnCodes_96 ⟨Nat.le_of_ble_eq_true rfl, Nat.le_of_ble_eq_true rfl⟩) ?_
                  refine lv_isub hx hb d_K_verdictOnCodes_99 ?_
                  refine lv_iload hx hb d_K_verdictOnCodes_100 (lv_at hl 1 rfl) ?_
                  refine goRi (va_runS (As := [.int (rdF b bc at1)]) (rest := [.int (dp - (takenF (rdF b bc at1)))]) ⟨hx, hb, hml, hown, hts⟩ (c_K_addedBy l D cI cL cO (rdF b bc at1)) (cwS 1 hts (gBIG (m3 k_ml_K_55 k_st_K_addedBy k_ini_K) k_co_K_addedBy) rfl rfl rfl (by decide +kernel) ⟨Nat.le_of_ble_eq_true rfl, Nat.le_of_ble_eq_true rfl⟩) ⟨PR.bl, PR.pre P_nil hK⟩ rfl rfl hl.1 rfl (lv_room (Nat.le_of_ble_eq_true rfl)) d_K_verdictOnCodes_102 ⟨Nat.le_of_ble_eq_true rfl, Nat.le_of_ble_eq_true rfl⟩) ?_
                  refine lv_iadd hx hb d_K_verdictOnCodes_105 ?_
                  refine lv_istore_n (lv' := [(2, .int ((dp - (takenF (rdF b bc at1))) + (addedF (rdF b bc at1)))), (5, .int (lenOf (rdF b bc at1))), (4, .int (rdF b bc at1)), (0, .ref k0), (1, .ref h0), (3, .int at1)]) hx hb d_K_verdictOnCodes_106 rfl hl (by decide) rfl (fun ls hl => ?_)
                  refine lv_iload_n hx hb d_K_verdictOnCodes_107 rfl (lv_at hl 0 rfl) ?_
                  refine lv_iconst (v := 4) hx hb d_K_verdictOnCodes_108 (by decide) ?_
                  refine lv_icmp_le (tgt := 117) hx hb d_K_verdictOnCodes_109 (by decide) (fun c_109 => ?_) (fun c_109 => ?_)
                  · refine lv_iload_n hx hb d_K_verdictOnCodes_117 rfl (lv_at hl 5 rfl) ?_
                    refine lv_iload hx hb d_K_verdictOnCodes_118 (lv_at hl 1 rfl) ?_
                    refine lv_iadd hx hb d_K_verdictOnCodes_120 ?_
                    refine lv_istore_n (lv' := [(3, .int (at1 + (lenOf (rdF b bc at1)))), (2, .int ((dp - (takenF (rdF b bc at1))) + (addedF (rdF b bc at1)))), (5, .int (lenOf (rdF b bc at1))), (4, .int (rdF b bc at1)), (0, .ref k0), (1, .ref h0)]) hx hb d_K_verdictOnCodes_121 rfl hl (by decide) rfl (fun ls hl => ?_)
                    refine lv_goto (tgt := 12) hx hb d_K_verdictOnCodes_122 (by decide) ?_
                    exact ih ((dp - (takenF (rdF b bc at1))) + (addedF (rdF b bc at1))) (at1 + (lenOf (rdF b bc at1))) (upd d1 at1.toNatClampNeg dp) _ _ ls (vc_n hn hi.1 c_24 c_44) (vc_i hi.1 c_24) (by rw [← hF]; first | (simp only [vcL, if_neg c_17, if_neg c_24, if_neg c_44, if_neg c_54, if_pos c_63, if_neg c_82, if_pos c_109]; done) | simp [vcL, c_17, c_24, c_44, c_54, c_63, c_82, c_109]) hP hD hS (lv_sub hl [4, 5, 1, 0] rfl)
                  · refine lv_iload_n hx hb d_K_verdictOnCodes_112 rfl (lv_at hl 5 rfl) ?_
                    refine goRi (va_runS (As := [.int at1]) (rest := []) ⟨hx, hb, hml, hown, hts⟩ (c_K_wrongAt l D cI cL cO at1) (cwS 1 hts (gBIG (m3 k_ml_K_48 k_st_K_wrongAt k_ini_K) k_co_K_wrongAt) rfl rfl rfl (by decide +kernel) ⟨Nat.le_of_ble_eq_true rfl, Nat.le_of_ble_eq_true rfl⟩) ⟨PR.bl, PR.pre P_nil hK⟩ rfl rfl hl.1 rfl (lv_room (Nat.le_of_ble_eq_true rfl)) d_K_verdictOnCodes_113 ⟨Nat.le_of_ble_eq_true rfl, Nat.le_of_ble_eq_true rfl⟩) ?_
                    rw [hQ]; exact retMi (w1 := fun u : Fn => ((wK k0 k1) ++ ((wI3 cI k1 u) ++ ((wB cI h0 q1 q2 q3 q4 q5 o f ee t b ic bc sa gn) ++ fr)))) (upd d1 at1.toNatClampNeg dp) hx hb hr hlocks hP hD hS ⟨(by rw [← hF]; first | (simp only [vcL, if_neg c_17, if_neg c_24, if_neg c_44, if_neg c_54, if_pos c_63, if_neg c_82, if_neg c_109]; done) | simp [vcL, c_17, c_24, c_44, c_54, c_63, c_82, c_109]), (by rw [← hF]; first | (simp only [vcL, if_neg c_17, if_neg c_24, if_neg c_44, if_neg c_54, if_pos c_63, if_neg c_82, if_neg c_109]; done) | simp [vcL, c_17, c_24, c_44, c_54, c_63, c_82, c_109])⟩ d_K_verdictOnCodes_116
                · refine lv_aload_n hx hb d_K_verdictOnCodes_85 rfl (lv_at hl 2 rfl) ?_
                  refine lv_aload_n hx hb d_K_verdictOnCodes_86 rfl (lv_at hl 3 rfl) ?_
                  refine lv_iload_n hx hb d_K_verdictOnCodes_87 rfl (lv_at hl 5 rfl) ?_
                  refine lv_iload_n hx hb d_K_verdictOnCodes_88 rfl (lv_at hl 4 rfl) ?_
                  refine goRi (va_runV (As := [.ref h0, .int at1, .int dp]) (rest := []) ⟨hx, hb, hml, hown, hts⟩ (c_K_verdictOnEnd l D cI cL cO k0 k1 h0 q1 q2 q3 q4 q5 o f ee t b ic bc sa gn at1 dp) (cwV 3 hts (gBIG (m4 k_ml_K_51 k_im_K_verdictOnEnd k_sel_K_verdictOnEnd k_ini_K) k_co_K_verdictOnEnd) rfl rfl rfl (by decide +kernel) ⟨Nat.le_of_ble_eq_true rfl, Nat.le_of_ble_eq_true rfl⟩) ⟨PR.bl, va_recv hK.1 (P_app.mpr ⟨(P_app.mp hP).1, (P_app.mp (P_app.mp (P_app.mp hP).2).2).1⟩) (ci := 1) (q0 := 0) rfl rfl, PR.pre (P_app.mpr ⟨(P_app.mp hP).1, (P_app.mp (P_app.mp (P_app.mp hP).2).2).1⟩) hK⟩ rfl rfl hl.1 rfl (lv_room (Nat.le_of_ble_eq_true rfl)) d_K_verdictOnCodes_89 ⟨Nat.le_of_ble_eq_true rfl, Nat.le_of_ble_eq_true rfl⟩) ?_
                  rw [hQ]; exact retMi (w1 := fun u : Fn => ((wK k0 k1) ++ ((wI3 cI k1 u) ++ ((wB cI h0 q1 q2 q3 q4 q5 o f ee t b ic bc sa gn) ++ fr)))) (upd d1 at1.toNatClampNeg dp) hx hb hr hlocks hP hD hS ⟨(by rw [← hF]; first | (simp only [vcL, if_neg c_17, if_neg c_24, if_neg c_44, if_neg c_54, if_pos c_63, if_pos c_82]; done) | simp [vcL, c_17, c_24, c_44, c_54, c_63, c_82]), (by rw [← hF]; first | (simp only [vcL, if_neg c_17, if_neg c_24, if_neg c_44, if_neg c_54, if_pos c_63, if_pos c_82]; done) | simp [vcL, c_17, c_24, c_44, c_54, c_63, c_82])⟩ d_K_verdictOnCodes_92
              · refine lv_iload_n hx hb d_K_verdictOnCodes_66 rfl (lv_at hl 5 rfl) ?_
                refine goRi (va_runS (As := [.int at1]) (rest := []) ⟨hx, hb, hml, hown, hts⟩ (c_K_wrongAt l D cI cL cO at1) (cwS 1 hts (gBIG (m3 k_ml_K_48 k_st_K_wrongAt k_ini_K) k_co_K_wrongAt) rfl rfl rfl (by decide +kernel) ⟨Nat.le_of_ble_eq_true rfl, Nat.le_of_ble_eq_true rfl⟩) ⟨PR.bl, PR.pre P_nil hK⟩ rfl rfl hl.1 rfl (lv_room (Nat.le_of_ble_eq_true rfl)) d_K_verdictOnCodes_67 ⟨Nat.le_of_ble_eq_true rfl, Nat.le_of_ble_eq_true rfl⟩) ?_
                rw [hQ]; exact retMi (w1 := fun u : Fn => ((wK k0 k1) ++ ((wI3 cI k1 u) ++ ((wB cI h0 q1 q2 q3 q4 q5 o f ee t b ic bc sa gn) ++ fr)))) d1 hx hb hr hlocks hP hD hS ⟨(by rw [← hF]; first | (simp only [vcL, if_neg c_17, if_neg c_24, if_neg c_44, if_neg c_54, if_neg c_63]; done) | simp [vcL, c_17, c_24, c_44, c_54, c_63]), (by rw [← hF]; first | (simp only [vcL, if_neg c_17, if_neg c_24, if_neg c_44, if_neg c_54, if_neg c_63]; done) | simp [vcL, c_17, c_24, c_44, c_54, c_63])⟩ d_K_verdictOnCodes_70
  exact lp 305 0 0 f_5 _ _ ls (by decide) (by decide) (by rw [e_5]; rfl) hP hD hS (lv_sub hl [2, 3, 1, 0] rfl)

abbrev w_K_verdictOn : List Cond := .code y_K_verdictOn b_K_verdictOn 3 (some .int) :: BIG
set_option maxHeartbeats 4000000 in
set_option maxRecDepth 100000 in
theorem c_K_verdictOn (l : Launch) (D : va_G) (cI cL cO : ClassId) (k0 : Nat) (k1 : Nat) (dd : Fn) (h0 : Nat) (q1 : Nat) (q2 : Nat) (q3 : Nat) (q4 : Nat) (q5 : Nat) (o : Fn) (f : Fn) (ee : Fn) (t : Fn) (b : Fn) (ic : Int32) (bc : Int32) (sa : Int32) (gn : Int32) (fr : va_W) : CMi l y_K_verdictOn w_K_verdictOn ({ frames := 4, cells := 0, slots := 0, locals := 90 }) D cI cL cO [.ref k0, .ref h0] ((wK k0 k1) ++ ((wI3 cI k1 dd) ++ ((wB cI h0 q1 q2 q3 q4 q5 o f ee t b ic bc sa gn) ++ fr))) (fun (r : Int32) (u : Fn) => r = vdF b bc ∧ u = (vcF b bc).2) (fun u : Fn => ((wK k0 k1) ++ ((wI3 cI k1 u) ++ ((wB cI h0 q1 q2 q3 q4 q5 o f ee t b ic bc sa gn) ++ fr)))) 0 0 := by
  refine ofMi (cc := b_K_verdictOn) (maxL := 3) (ret := (some .int)) (by decide) rfl (Nat.le_of_ble_eq_true rfl) ?_
  intro p e s m below meth c A ls H Q hQ hx hb hr hlocks hin hts hown hml hP hK hD hS hA hl
  have hl : lv_has ls 3 [(0, .ref k0), (1, .ref h0)] := hl
  have hown : s.vm.findClass R_K = some m.cls := hown
  have ht : ∀ w ∈ BIG, w.before _ s = true := fun w h => hts w (List.mem_cons_of_mem _ h)
  refine lv_aload_n hx hb d_K_verdictOn_0 rfl (lv_at hl 0 rfl) ?_
  refine lv_aload_n hx hb d_K_verdictOn_1 rfl (lv_at hl 1 rfl) ?_
  refine goMi (va_runV (As := [.ref h0]) (rest := []) ⟨hx, hb, hml, hown, hts⟩ (c_K_verdictOnCodes l D cI cL cO k0 k1 dd h0 q1 q2 q3 q4 q5 o f ee t b ic bc sa gn fr H.size) (cwV 1 hts (gBIG (m4 k_ml_K_15 k_im_K_verdictOnCodes k_sel_K_verdictOnCodes k_ini_K) k_co_K_verdictOnCodes) rfl rfl rfl (by decide +kernel) ⟨Nat.le_of_ble_eq_true rfl, Nat.le_of_ble_eq_true rfl⟩) ⟨PM.bl, va_recv hK.1 hP (ci := 1) (q0 := 0) rfl rfl, PM.pre hP hD hK⟩ rfl rfl hl.1 rfl (lv_room (Nat.le_of_ble_eq_true rfl)) d_K_verdictOn_2 ⟨Nat.le_of_ble_eq_true rfl, Nat.le_of_ble_eq_true rfl⟩) hD hS hA (fun r_2 u H locs hw hP hD hS => ?_)
  obtain ⟨dd_2, rfl⟩ : ∃ z, z = u := ⟨_, rfl⟩
  have e_2 : r_2 = (vcF b bc).1 ∧ dd_2 = (vcF b bc).2 := hw
  have hP : va_P D vwCl ((wK k0 k1) ++ ((wI3 cI k1 dd_2) ++ ((wB cI h0 q1 q2 q3 q4 q5 o f ee t b ic bc sa gn) ++ fr))) H := hP
  have hD : va_D A ((wK k0 k1) ++ ((wI3 cI k1 dd_2) ++ ((wB cI h0 q1 q2 q3 q4 q5 o f ee t b ic bc sa gn) ++ fr))) := hD
  refine lv_istore_n (lv' := [(2, .int r_2), (0, .ref k0), (1, .ref h0)]) hx hb d_K_verdictOn_5 rfl hl (by decide) rfl (fun ls hl => ?_)
  refine lv_iload_n hx hb d_K_verdictOn_6 rfl (lv_at hl 0 rfl) ?_
  refine lv_if_ne (tgt := 18) hx hb d_K_verdictOn_7 (by decide) (fun c_7 => ?_) (fun c_7 => ?_)
  · refine lv_iload_n hx hb d_K_verdictOn_18 rfl (lv_at hl 0 rfl) ?_
    rw [hQ]; exact retMi (w1 := fun u : Fn => ((wK k0 k1) ++ ((wI3 cI k1 u) ++ ((wB cI h0 q1 q2 q3 q4 q5 o f ee t b ic bc sa gn) ++ fr)))) dd_2 hx hb hr hlocks hP hD hS ⟨by simp [vdF, ← e_2.1, ← e_2.2, c_7], e_2.2⟩ d_K_verdictOn_19
  · refine lv_aload_n hx hb d_K_verdictOn_10 rfl (lv_at hl 1 rfl) ?_
    refine lv_aload_n hx hb d_K_verdictOn_11 rfl (lv_at hl 2 rfl) ?_
    refine goRi (va_runV (As := [.ref h0]) (rest := []) ⟨hx, hb, hml, hown, hts⟩ (c_K_verdictOnBranches l D cI cL cO k0 k1 dd_2 h0 q1 q2 q3 q4 q5 o f ee t b ic bc sa gn) (cwV 1 hts (gBIG (m4 k_ml_K_19 k_im_K_verdictOnBranches k_sel_K_verdictOnBranches k_ini_K) k_co_K_verdictOnBranches) rfl rfl rfl (by decide +kernel) ⟨Nat.le_of_ble_eq_true rfl, Nat.le_of_ble_eq_true rfl⟩) ⟨PR.bl, va_recv hK.1 (P_app.mpr ⟨(P_app.mp hP).1, (P_app.mpr ⟨(P_app.mp (P_app.mp hP).2).1, (P_app.mp (P_app.mp (P_app.mp hP).2).2).1⟩)⟩) (ci := 1) (q0 := 0) rfl rfl, PR.pre (P_app.mpr ⟨(P_app.mp hP).1, (P_app.mpr ⟨(P_app.mp (P_app.mp hP).2).1, (P_app.mp (P_app.mp (P_app.mp hP).2).2).1⟩)⟩) hK⟩ rfl rfl hl.1 rfl (lv_room (Nat.le_of_ble_eq_true rfl)) d_K_verdictOn_12 ⟨Nat.le_of_ble_eq_true rfl, Nat.le_of_ble_eq_true rfl⟩) ?_
    refine lv_goto (tgt := 19) hx hb d_K_verdictOn_15 (by decide) ?_
    rw [hQ]; exact retMi (w1 := fun u : Fn => ((wK k0 k1) ++ ((wI3 cI k1 u) ++ ((wB cI h0 q1 q2 q3 q4 q5 o f ee t b ic bc sa gn) ++ fr)))) dd_2 hx hb hr hlocks hP hD hS ⟨by simp [vdF, ← e_2.1, ← e_2.2, c_7], e_2.2⟩ d_K_verdictOn_19
end
section
abbrev w_U_load : List Cond := .code y_U_load b_U_load 2 (some .long) :: BIG
set_option maxHeartbeats 4000000 in
set_option maxRecDepth 100000 in
theorem c_U_load (l : Launch) (D : va_G) (cI cL cO : ClassId) (u0 : Nat) (u1 : Nat) (u2 : Nat) (hg : Int32) (sp : Int32) (en : Int32) (bb : Int32) (g : FL) (i : Int32) : CRl l y_U_load w_U_load ({ frames := 1, cells := 0, slots := 0, locals := 20 }) D cI cL cO [.ref u0, .int i] ((wU u0 u1 u2 hg sp en bb) ++ (wL4 cL u1 g)) (ldF g i) := by
  refine ofR (cc := b_U_load) (maxL := 2) (ret := (some .long)) (by decide) rfl (Nat.le_of_ble_eq_true rfl) ?_
  intro p e s m below meth c ls Q hQ hx hb hr hlocks hts hown hml hP hK hl
  have hl : lv_has ls 2 [(0, .ref u0), (1, .int i)] := hl
  have hown : s.vm.findClass R_U = some m.cls := hown
  have ht : ∀ w ∈ BIG, w.before _ s = true := fun w h => hts w (List.mem_cons_of_mem _ h)
  refine lv_iload_n hx hb d_U_load_0 rfl (lv_at hl 1 rfl) ?_
  refine goRi (va_runSN (As := [.int i]) (rest := []) ⟨hx, hb, hml, hown, hts⟩ (c_M_isRegister l D cI cL cO i) ⟨va_cnB 1 hts (gB0 k_co_M_isRegister) rfl rfl rfl (hK.2 _ n_ml_U_113) (ht _ k_ini_M) (by decide +kernel) ⟨Nat.le_of_ble_eq_true rfl, Nat.le_of_ble_eq_true rfl⟩, ht _ k_st_M_isRegister, trivial⟩ ⟨PR.bl, PR.pre P_nil hK⟩ rfl rfl hl.1 rfl (lv_room (Nat.le_of_ble_eq_true rfl)) d_U_load_1 ⟨Nat.le_of_ble_eq_true rfl, Nat.le_of_ble_eq_true rfl⟩) ?_
  refine lv_if_eq (tgt := 16) hx hb d_U_load_4 (by decide) (fun c_4 => ?_) (fun c_4 => ?_)
  · refine lv_lconst (v := 0) hx hb d_U_load_16 (by decide) ?_
    rw [hQ]; exact retRl hx hb hr hlocks (by first | (simp only [ldF, if_pos c_4]; done) | simp [ldF, c_4]) d_U_load_17
  · refine lv_aload_n hx hb d_U_load_7 rfl (lv_at hl 0 rfl) ?_
    refine va_get (ci := 2) (v := .ref u1) (C := R_U) (T := T_U) (N := 6) hx hb ht in_U hown hK.1 hP 0 rfl rfl 0 (by decide) (ht _ k_fl_U_9) (fun _ h9 => h9) rfl d_U_load_8 ?_
    refine lv_iload_n hx hb d_U_load_11 rfl (lv_at hl 1 rfl) ?_
    refine va_lald hx hb hK.1 hP 1 1 rfl rfl (isReg_in c_4) d_U_load_12 ?_
    refine lv_goto (tgt := 17) hx hb d_U_load_13 (by decide) ?_
    rw [hQ]; exact retRl hx hb hr hlocks (by first | (simp only [ldF, if_neg c_4]; done) | simp [ldF, c_4]) d_U_load_17

abbrev w_U_store : List Cond := .code y_U_store b_U_store 4 none :: BIG
set_option maxHeartbeats 4000000 in
set_option maxRecDepth 100000 in
theorem c_U_store (l : Launch) (D : va_G) (cI cL cO : ClassId) (u0 : Nat) (u1 : Nat) (u2 : Nat) (hg : Int32) (sp : Int32) (en : Int32) (bb : Int32) (g : FL) (fr : va_W) (i : Int32) (v : Int64) : CMv l y_U_store w_U_store ({ frames := 1, cells := 0, slots := 0, locals := 20 }) D cI cL cO [.ref u0, .int i, .long v] ((wU u0 u1 u2 hg sp en bb) ++ ((wL4 cL u1 g) ++ fr)) (fun u : FL => u = stF g i v) (fun u : FL => ((wU u0 u1 u2 hg sp en bb) ++ ((wL4 cL u1 u) ++ fr))) 0 0 := by
  refine ofMv (cc := b_U_store) (maxL := 4) (ret := none) (by decide) rfl (Nat.le_of_ble_eq_true rfl) ?_
  intro p e s m below meth c A ls H Q hQ hx hb hr hlocks hin hts hown hml hP hK hD hS hA hl
  have hl : lv_has ls 4 [(0, .ref u0), (1, .int i), (2, .long v)] := hl
  have hown : s.vm.findClass R_U = some m.cls := hown
  have ht : ∀ w ∈ BIG, w.before _ s = true := fun w h => hts w (List.mem_cons_of_mem _ h)
  refine lv_iload_n hx hb d_U_store_0 rfl (lv_at hl 1 rfl) ?_
  refine goRi (va_runSN (As := [.int i]) (rest := []) ⟨hx, hb, hml, hown, hts⟩ (c_M_isRegister l D cI cL cO i) ⟨va_cnB 1 hts (gB0 k_co_M_isRegister) rfl rfl rfl (hK.2 _ n_ml_U_113) (ht _ k_ini_M) (by decide +kernel) ⟨Nat.le_of_ble_eq_true rfl, Nat.le_of_ble_eq_true rfl⟩, ht _ k_st_M_isRegister, trivial⟩ ⟨PR.bl, PR.pre P_nil hK⟩ rfl rfl hl.1 rfl (lv_room (Nat.le_of_ble_eq_true rfl)) d_U_store_1 ⟨Nat.le_of_ble_eq_true rfl, Nat.le_of_ble_eq_true rfl⟩) ?_
  refine lv_if_eq (tgt := 14) hx hb d_U_store_4 (by decide) (fun c_4 => ?_) (fun c_4 => ?_)
  · rw [hQ]; exact retMv (w1 := fun u : FL => ((wU u0 u1 u2 hg sp en bb) ++ ((wL4 cL u1 u) ++ fr))) g hx hb hr hlocks hP hD hS (by first | (simp only [stF, if_pos c_4]; done) | simp [stF, c_4]) d_U_store_14
  · refine lv_aload_n hx hb d_U_store_7 rfl (lv_at hl 0 rfl) ?_
    refine va_get (ci := 2) (v := .ref u1) (C := R_U) (T := T_U) (N := 6) hx hb ht in_U hown hK.1 hP 0 rfl rfl 0 (by decide) (ht _ k_fl_U_9) (fun _ h9 => h9) rfl d_U_store_8 ?_
    refine lv_iload_n hx hb d_U_store_11 rfl (lv_at hl 1 rfl) ?_
    refine lv_lload_n hx hb d_U_store_12 rfl (lv_at hl 2 rfl) ?_
    refine va_last hx hb hK.1 hP hD hS 1 1 rfl rfl (isReg_in c_4) d_U_store_13 (fun H locs hP hD hS => ?_)
    have hP : va_P D vwCl ((wU u0 u1 u2 hg sp en bb) ++ ((wL4 cL u1 (vp_updL g i.toNatClampNeg v)) ++ fr)) H := hP
    have hD : va_D A ((wU u0 u1 u2 hg sp en bb) ++ ((wL4 cL u1 (vp_updL g i.toNatClampNeg v)) ++ fr)) := hD
    rw [hQ]; exact retMv (w1 := fun u : FL => ((wU u0 u1 u2 hg sp en bb) ++ ((wL4 cL u1 u) ++ fr))) (vp_updL g i.toNatClampNeg v) hx hb hr hlocks hP hD hS (by first | (simp only [stF, if_neg c_4]; done) | simp [stF, c_4]) d_U_store_14

abbrev w_U_push : List Cond := .code y_U_push b_U_push 3 none :: BIG
set_option maxHeartbeats 4000000 in
set_option maxRecDepth 100000 in
theorem c_U_push (l : Launch) (D : va_G) (cI cL cO : ClassId) (u0 : Nat) (u1 : Nat) (u2 : Nat) (hg : Int32) (sp : Int32) (en : Int32) (bb : Int32) (pl : FL) (fr : va_W) (v : Int64) (hh : 0 ≤ hg.toInt ∧ hg.toInt ≤ 4) : CMv l y_U_push w_U_push ({ frames := 0, cells := 0, slots := 0, locals := 0 }) D cI cL cO [.ref u0, .long v] ((wU u0 u1 u2 hg sp en bb) ++ ((wL4 cL u2 pl) ++ fr)) (fun u : Pi => u = puF v (pl, hg) ∧ (0 ≤ u.2.toInt ∧ u.2.toInt ≤ 4)) (fun u : Pi => ((wU u0 u1 u2 u.2 sp en bb) ++ ((wL4 cL u2 u.1) ++ fr))) 0 0 := by
  refine ofMv (cc := b_U_push) (maxL := 3) (ret := none) (by decide) rfl (Nat.le_of_ble_eq_true rfl) ?_
  intro p e s m below meth c A ls H Q hQ hx hb hr hlocks hin hts hown hml hP hK hD hS hA hl
  have hl : lv_has ls 3 [(0, .ref u0), (1, .long v)] := hl
  have hown : s.vm.findClass R_U = some m.cls := hown
  have ht : ∀ w ∈ BIG, w.before _ s = true := fun w h => hts w (List.mem_cons_of_mem _ h)
  refine lv_aload_n hx hb d_U_push_0 rfl (lv_at hl 0 rfl) ?_
  refine va_get (ci := 2) (v := .int hg) (C := R_U) (T := T_U) (N := 6) hx hb ht in_U hown hK.1 hP 0 rfl rfl 2 (by decide) (ht _ k_fl_U_28) (fun _ h9 => h9) rfl d_U_push_1 ?_
  refine lv_iconst (v := 4) hx hb d_U_push_4 (by decide) ?_
  refine lv_icmp_ge (tgt := 28) hx hb d_U_push_5 (by decide) (fun c_5 => ?_) (fun c_5 => ?_)
  · rw [hQ]; exact retMv (w1 := fun u : Pi => ((wU u0 u1 u2 u.2 sp en bb) ++ ((wL4 cL u2 u.1) ++ fr))) (pl, hg) hx hb hr hlocks hP hD hS ⟨(by first | (simp only [puF, if_pos c_5]; done) | simp [puF, c_5]), hh⟩ d_U_push_28
  · refine lv_aload_n hx hb d_U_push_8 rfl (lv_at hl 0 rfl) ?_
    refine va_get (ci := 2) (v := .ref u2) (C := R_U) (T := T_U) (N := 6) hx hb ht in_U hown hK.1 hP 0 rfl rfl 1 (by decide) (ht _ k_fl_U_15) (fun _ h9 => h9) rfl d_U_push_9 ?_
    refine lv_aload_n hx hb d_U_push_12 rfl (lv_at hl 0 rfl) ?_
    refine va_get (ci := 2) (v := .int hg) (C := R_U) (T := T_U) (N := 6) hx hb ht in_U hown hK.1 hP 0 rfl rfl 2 (by decide) (ht _ k_fl_U_28) (fun _ h9 => h9) rfl d_U_push_13 ?_
    refine lv_lload_n hx hb d_U_push_16 rfl (lv_at hl 1 rfl) ?_
    refine va_last hx hb hK.1 hP hD hS 1 1 rfl rfl (in_of (N := 4) (by decide) (nn_of hh.1) c_5) d_U_push_17 (fun H locs hP hD hS => ?_)
    have hP : va_P D vwCl ((wU u0 u1 u2 hg sp en bb) ++ ((wL4 cL u2 (vp_updL pl hg.toNatClampNeg v)) ++ fr)) H := hP
    have hD : va_D A ((wU u0 u1 u2 hg sp en bb) ++ ((wL4 cL u2 (vp_updL pl hg.toNatClampNeg v)) ++ fr)) := hD
    refine lv_aload_n hx hb d_U_push_18 rfl (lv_at hl 0 rfl) ?_
    refine lv_dup hx hb d_U_push_19 rfl ?_
    refine va_get (ci := 2) (v := .int hg) (C := R_U) (T := T_U) (N := 6) hx hb ht in_U hown hK.1 hP 0 rfl rfl 2 (by decide) (ht _ k_fl_U_28) (fun _ h9 => h9) rfl d_U_push_20 ?_
    refine lv_iconst (v := 1) hx hb d_U_push_23 (by decide) ?_
    refine lv_iadd hx hb d_U_push_24 ?_
    refine va_put (ci := 2) (v := .int (hg + 1)) (ty := .int) (C := R_U) (T := T_U) (N := 6) hx hb ht in_U t_U t_U_ok n_U hown hK.1 hP hD hS 0 rfl rfl 2 (by decide) (ht _ k_fl_U_28) (fun _ h9 => h9) rfl (by decide +kernel) rfl rfl (Nat.le_of_ble_eq_true rfl) d_U_push_25 (fun H locs hP hD hS => ?_)
    have hP : va_P D vwCl ((wU u0 u1 u2 (hg + 1) sp en bb) ++ ((wL4 cL u2 (vp_updL pl hg.toNatClampNeg v)) ++ fr)) H := hP
    have hD : va_D A ((wU u0 u1 u2 (hg + 1) sp en bb) ++ ((wL4 cL u2 (vp_updL pl hg.toNatClampNeg v)) ++ fr)) := hD
    rw [hQ]; exact retMv (w1 := fun u : Pi => ((wU u0 u1 u2 u.2 sp en bb) ++ ((wL4 cL u2 u.1) ++ fr))) (vp_updL pl hg.toNatClampNeg v, hg + 1) hx hb hr hlocks hP hD hS ⟨(by first | (simp only [puF, if_neg c_5]; done) | simp [puF, c_5]), h4_1 hh c_5⟩ d_U_push_28

abbrev w_U_pop : List Cond := .code y_U_pop b_U_pop 1 (some .long) :: BIG
set_option maxHeartbeats 4000000 in
set_option maxRecDepth 100000 in
theorem c_U_pop (l : Launch) (D : va_G) (cI cL cO : ClassId) (u0 : Nat) (u1 : Nat) (u2 : Nat) (hg : Int32) (sp : Int32) (en : Int32) (bb : Int32) (pl : FL) (fr : va_W) (hh : 0 ≤ hg.toInt ∧ hg.toInt ≤ 4) : CMl l y_U_pop w_U_pop ({ frames := 0, cells := 0, slots := 0, locals := 0 }) D cI cL cO [.ref u0] ((wU u0 u1 u2 hg sp en bb) ++ ((wL4 cL u2 pl) ++ fr)) (fun (r : Int64) (u : Int32) => r = poV (pl, hg) ∧ u = poH (pl, hg) ∧ (0 ≤ u.toInt ∧ u.toInt ≤ 4)) (fun u : Int32 => ((wU u0 u1 u2 u sp en bb) ++ ((wL4 cL u2 pl) ++ fr))) 0 0 := by
  refine ofMl (cc := b_U_pop) (maxL := 1) (ret := (some .long)) (by decide) rfl (Nat.le_of_ble_eq_true rfl) ?_
  intro p e s m below meth c A ls H Q hQ hx hb hr hlocks hin hts hown hml hP hK hD hS hA hl
  have hl : lv_has ls 1 [(0, .ref u0)] := hl
  have hown : s.vm.findClass R_U = some m.cls := hown
  have ht : ∀ w ∈ BIG, w.before _ s = true := fun w h => hts w (List.mem_cons_of_mem _ h)
  refine lv_aload_n hx hb d_U_pop_0 rfl (lv_at hl 0 rfl) ?_
  refine va_get (ci := 2) (v := .int hg) (C := R_U) (T := T_U) (N := 6) hx hb ht in_U hown hK.1 hP 0 rfl rfl 2 (by decide) (ht _ k_fl_U_28) (fun _ h9 => h9) rfl d_U_pop_1 ?_
  refine lv_iconst (v := 1) hx hb d_U_pop_4 (by decide) ?_
  refine lv_icmp_ge (tgt := 10) hx hb d_U_pop_5 (by decide) (fun c_5 => ?_) (fun c_5 => ?_)
  · refine lv_aload_n hx hb d_U_pop_10 rfl (lv_at hl 0 rfl) ?_
    refine lv_dup hx hb d_U_pop_11 rfl ?_
    refine va_get (ci := 2) (v := .int hg) (C := R_U) (T := T_U) (N := 6) hx hb ht in_U hown hK.1 hP 0 rfl rfl 2 (by decide) (ht _ k_fl_U_28) (fun _ h9 => h9) rfl d_U_pop_12 ?_
    refine lv_iconst (v := 1) hx hb d_U_pop_15 (by decide) ?_
    refine lv_isub hx hb d_U_pop_16 ?_
    refine va_put (ci := 2) (v := .int (hg - 1)) (ty := .int) (C := R_U) (T := T_U) (N := 6) hx hb ht in_U t_U t_U_ok n_U hown hK.1 hP hD hS 0 rfl rfl 2 (by decide) (ht _ k_fl_U_28) (fun _ h9 => h9) rfl (by decide +kernel) rfl rfl (Nat.le_of_ble_eq_true rfl) d_U_pop_17 (fun H locs hP hD hS => ?_)
    have hP : va_P D vwCl ((wU u0 u1 u2 (hg - 1) sp en bb) ++ ((wL4 cL u2 pl) ++ fr)) H := hP
    have hD : va_D A ((wU u0 u1 u2 (hg - 1) sp en bb) ++ ((wL4 cL u2 pl) ++ fr)) := hD
    refine lv_aload_n hx hb d_U_pop_20 rfl (lv_at hl 0 rfl) ?_
    refine va_get (ci := 2) (v := .ref u2) (C := R_U) (T := T_U) (N := 6) hx hb ht in_U hown hK.1 hP 0 rfl rfl 1 (by decide) (ht _ k_fl_U_15) (fun _ h9 => h9) rfl d_U_pop_21 ?_
    refine lv_aload_n hx hb d_U_pop_24 rfl (lv_at hl 0 rfl) ?_
    refine va_get (ci := 2) (v := .int (hg - 1)) (C := R_U) (T := T_U) (N := 6) hx hb ht in_U hown hK.1 hP 0 rfl rfl 2 (by decide) (ht _ k_fl_U_28) (fun _ h9 => h9) rfl d_U_pop_25 ?_
    refine va_lald hx hb hK.1 hP 1 1 rfl rfl (in4_m hh c_5) d_U_pop_28 ?_
    rw [hQ]; exact retMl (w1 := fun u : Int32 => ((wU u0 u1 u2 u sp en bb) ++ ((wL4 cL u2 pl) ++ fr))) (hg - 1) hx hb hr hlocks hP hD hS ⟨(by first | (simp only [poV, if_pos c_5]; done) | simp [poV, c_5]), (by first | (simp only [poH, if_pos c_5]; done) | simp [poH, c_5]), h4_m hh c_5⟩ d_U_pop_29
  · refine lv_lconst (v := 0) hx hb d_U_pop_8 (by decide) ?_
    rw [hQ]; exact retMl (w1 := fun u : Int32 => ((wU u0 u1 u2 u sp en bb) ++ ((wL4 cL u2 pl) ++ fr))) hg hx hb hr hlocks hP hD hS ⟨(by first | (simp only [poV, if_neg c_5]; done) | simp [poV, c_5]), (by first | (simp only [poH, if_neg c_5]; done) | simp [poH, c_5]), hh⟩ d_U_pop_9

abbrev w_U_topIsZero : List Cond := .code y_U_topIsZero b_U_topIsZero 1 (some .boolean) :: BIG
set_option maxHeartbeats 4000000 in
set_option maxRecDepth 100000 in
theorem c_U_topIsZero (l : Launch) (D : va_G) (cI cL cO : ClassId) (u0 : Nat) (u1 : Nat) (u2 : Nat) (hg : Int32) (sp : Int32) (en : Int32) (bb : Int32) (pl : FL) (hh : 0 ≤ hg.toInt ∧ hg.toInt ≤ 4) : CRi l y_U_topIsZero w_U_topIsZero ({ frames := 0, cells := 0, slots := 0, locals := 0 }) D cI cL cO [.ref u0] ((wU u0 u1 u2 hg sp en bb) ++ (wL4 cL u2 pl)) (tzF (pl, hg)) := by
  refine ofR (cc := b_U_topIsZero) (maxL := 1) (ret := (some .boolean)) (by decide) rfl (Nat.le_of_ble_eq_true rfl) ?_
  intro p e s m below meth c ls Q hQ hx hb hr hlocks hts hown hml hP hK hl
  have hl : lv_has ls 1 [(0, .ref u0)] := hl
  have hown : s.vm.findClass R_U = some m.cls := hown
  have ht : ∀ w ∈ BIG, w.before _ s = true := fun w h => hts w (List.mem_cons_of_mem _ h)
  refine lv_aload_n hx hb d_U_topIsZero_0 rfl (lv_at hl 0 rfl) ?_
  refine va_get (ci := 2) (v := .int hg) (C := R_U) (T := T_U) (N := 6) hx hb ht in_U hown hK.1 hP 0 rfl rfl 2 (by decide) (ht _ k_fl_U_28) (fun _ h9 => h9) rfl d_U_topIsZero_1 ?_
  refine lv_if_le (tgt := 27) hx hb d_U_topIsZero_4 (by decide) (fun c_4 => ?_) (fun c_4 => ?_)
  · refine lv_iconst (v := 0) hx hb d_U_topIsZero_27 (by decide) ?_
    rw [hQ]; exact retRz hx hb hr hlocks rfl (by first | (simp only [tzF, if_pos c_4]; done) | simp [tzF, c_4]) d_U_topIsZero_28
  · refine lv_aload_n hx hb d_U_topIsZero_7 rfl (lv_at hl 0 rfl) ?_
    refine va_get (ci := 2) (v := .ref u2) (C := R_U) (T := T_U) (N := 6) hx hb ht in_U hown hK.1 hP 0 rfl rfl 1 (by decide) (ht _ k_fl_U_15) (fun _ h9 => h9) rfl d_U_topIsZero_8 ?_
    refine lv_aload_n hx hb d_U_topIsZero_11 rfl (lv_at hl 0 rfl) ?_
    refine va_get (ci := 2) (v := .int hg) (C := R_U) (T := T_U) (N := 6) hx hb ht in_U hown hK.1 hP 0 rfl rfl 2 (by decide) (ht _ k_fl_U_28) (fun _ h9 => h9) rfl d_U_topIsZero_12 ?_
    refine lv_iconst (v := 1) hx hb d_U_topIsZero_15 (by decide) ?_
    refine lv_isub hx hb d_U_topIsZero_16 ?_
    refine va_lald hx hb hK.1 hP 1 1 rfl rfl (in4_z hh c_4) d_U_topIsZero_17 ?_
    refine lv_lconst (v := 0) hx hb d_U_topIsZero_18 (by decide) ?_
    refine W.lcmp hx hb d_U_topIsZero_19 ?_
    refine lv_if_ne (tgt := 27) hx hb d_U_topIsZero_20 (by decide) (fun c_20 => ?_) (fun c_20 => ?_)
    · refine lv_iconst (v := 0) hx hb d_U_topIsZero_27 (by decide) ?_
      rw [hQ]; exact retRz hx hb hr hlocks rfl (by first | (simp only [tzF, if_neg c_4, if_neg c_20]; done) | simp [tzF, c_4, c_20]) d_U_topIsZero_28
    · refine lv_iconst (v := 1) hx hb d_U_topIsZero_23 (by decide) ?_
      refine lv_goto (tgt := 28) hx hb d_U_topIsZero_24 (by decide) ?_
      rw [hQ]; exact retRz hx hb hr hlocks rfl (by first | (simp only [tzF, if_neg c_4, if_pos c_20]; done) | simp [tzF, c_4, c_20]) d_U_topIsZero_28

abbrev w_U_begin : List Cond := .code y_U_begin b_U_begin 6 none :: BIG
set_option maxHeartbeats 4000000 in
set_option maxRecDepth 100000 in
theorem c_U_begin (l : Launch) (D : va_G) (cI cL cO : ClassId) (u0 : Nat) (u1 : Nat) (u2 : Nat) (hg : Int32) (sp : Int32) (en : Int32) (bb : Int32) (g : FL) (fr : va_W) (x : Int64) (y : Int64) (bt : Int32) (hnb : narrow .boolean (.int bt) = .int bt) (hfb : fits .boolean (.int bt) = true) : CMv l y_U_begin w_U_begin ({ frames := 1, cells := 0, slots := 0, locals := 24 }) D cI cL cO [.ref u0, .long x, .long y, .int bt] ((wU u0 u1 u2 hg sp en bb) ++ ((wL4 cL u1 g) ++ fr)) (fun u : FL × Int32 × Int32 × Int32 × Int32 => u = (begR x y, 0, 0, 0, bt)) (fun u : FL × Int32 × Int32 × Int32 × Int32 => ((wU u0 u1 u2 u.2.1 u.2.2.1 u.2.2.2.1 u.2.2.2.2) ++ ((wL4 cL u1 u.1) ++ fr))) 0 0 := by
  refine ofMv (cc := b_U_begin) (maxL := 6) (ret := none) (by decide) rfl (Nat.le_of_ble_eq_true rfl) ?_
  intro p e s m below meth c A ls H Q hQ hx hb hr hlocks hin hts hown hml hP hK hD hS hA hl
  have hl : lv_has ls 6 [(0, .ref u0), (1, .long x), (3, .long y), (5, .int bt)] := hl
  have hown : s.vm.findClass R_U = some m.cls := hown
  have ht : ∀ w ∈ BIG, w.before _ s = true := fun w h => hts w (List.mem_cons_of_mem _ h)
  refine lv_aload_n hx hb d_U_begin_0 rfl (lv_at hl 0 rfl) ?_
  refine va_get (ci := 2) (v := .ref u1) (C := R_U) (T := T_U) (N := 6) hx hb ht in_U hown hK.1 hP 0 rfl rfl 0 (by decide) (ht _ k_fl_U_9) (fun _ h9 => h9) rfl d_U_begin_1 ?_
  refine lv_lconst (v := 0) hx hb d_U_begin_4 (by decide) ?_
  have hP := P_sw hP
  have hD := D_sw hD
  refine goMv (va_runS (As := [.ref u1, .long 0]) (rest := []) ⟨hx, hb, hml, hown, hts⟩ (c_Ar_fill2 l D cI cL cO u1 g ((wU u0 u1 u2 hg sp en bb) ++ fr) 0 H.size) (va_cwS 2 hts (gBIG (m3 k_ml_U_22 k_st_Ar_fill2 k_ini_Ar) k_co_Ar_fill2) rfl rfl rfl (by decide +kernel) ⟨Nat.le_of_ble_eq_true rfl, Nat.le_of_ble_eq_true rfl⟩) ⟨PM.bl, PM.pre hP hD hK⟩ rfl rfl hl.1 rfl (lv_room (Nat.le_of_ble_eq_true rfl)) d_U_begin_5 ⟨Nat.le_of_ble_eq_true rfl, Nat.le_of_ble_eq_true rfl⟩) hD hS hA (fun u H locs hw hP hD hS => ?_)
  obtain ⟨f_5, rfl⟩ : ∃ z, z = u := ⟨_, rfl⟩
  have e_5 : f_5 = fun _ => 0 := hw
  have hP : va_P D vwCl ((wL4 cL u1 f_5) ++ ((wU u0 u1 u2 hg sp en bb) ++ fr)) H := hP
  have hD : va_D A ((wL4 cL u1 f_5) ++ ((wU u0 u1 u2 hg sp en bb) ++ fr)) := hD
  have hP := P_sw hP
  have hD := D_sw hD
  have hP : va_P D vwCl ((wU u0 u1 u2 hg sp en bb) ++ ((wL4 cL u1 f_5) ++ fr)) H := hP
  have hD : va_D A ((wU u0 u1 u2 hg sp en bb) ++ ((wL4 cL u1 f_5) ++ fr)) := hD
  refine lv_aload_n hx hb d_U_begin_8 rfl (lv_at hl 0 rfl) ?_
  refine va_get (ci := 2) (v := .ref u1) (C := R_U) (T := T_U) (N := 6) hx hb ht in_U hown hK.1 hP 0 rfl rfl 0 (by decide) (ht _ k_fl_U_9) (fun _ h9 => h9) rfl d_U_begin_9 ?_
  refine lv_iconst (v := 0) hx hb d_U_begin_12 (by decide) ?_
  refine lv_lload_n hx hb d_U_begin_13 rfl (lv_at hl 1 rfl) ?_
  refine va_last hx hb hK.1 hP hD hS 1 1 rfl rfl (by unfold vp_in; decide) d_U_begin_14 (fun H locs hP hD hS => ?_)
  have hP : va_P D vwCl ((wU u0 u1 u2 hg sp en bb) ++ ((wL4 cL u1 (vp_updL f_5 (0 : Int32).toNatClampNeg x)) ++ fr)) H := hP
  have hD : va_D A ((wU u0 u1 u2 hg sp en bb) ++ ((wL4 cL u1 (vp_updL f_5 (0 : Int32).toNatClampNeg x)) ++ fr)) := hD
  refine lv_aload_n hx hb d_U_begin_15 rfl (lv_at hl 0 rfl) ?_
  refine va_get (ci := 2) (v := .ref u1) (C := R_U) (T := T_U) (N := 6) hx hb ht in_U hown hK.1 hP 0 rfl rfl 0 (by decide) (ht _ k_fl_U_9) (fun _ h9 => h9) rfl d_U_begin_16 ?_
  refine lv_iconst (v := 1) hx hb d_U_begin_19 (by decide) ?_
  refine lv_lload_n hx hb d_U_begin_20 rfl (lv_at hl 2 rfl) ?_
  refine va_last hx hb hK.1 hP hD hS 1 1 rfl rfl (by unfold vp_in; decide) d_U_begin_21 (fun H locs hP hD hS => ?_)
  have hP : va_P D vwCl ((wU u0 u1 u2 hg sp en bb) ++ ((wL4 cL u1 (vp_updL (vp_updL f_5 (0 : Int32).toNatClampNeg x) (1 : Int32).toNatClampNeg y)) ++ fr)) H := hP
  have hD : va_D A ((wU u0 u1 u2 hg sp en bb) ++ ((wL4 cL u1 (vp_updL (vp_updL f_5 (0 : Int32).toNatClampNeg x) (1 : Int32).toNatClampNeg y)) ++ fr)) := hD
  refine lv_aload_n hx hb d_U_begin_22 rfl (lv_at hl 0 rfl) ?_
  refine lv_iconst (v := 0) hx hb d_U_begin_23 (by decide) ?_
  refine va_put (ci := 2) (v := .int 0) (ty := .int) (C := R_U) (T := T_U) (N := 6) hx hb ht in_U t_U t_U_ok n_U hown hK.1 hP hD hS 0 rfl rfl 2 (by decide) (ht _ k_fl_U_28) (fun _ h9 => h9) rfl (by decide +kernel) rfl rfl (Nat.le_of_ble_eq_true rfl) d_U_begin_24 (fun H locs hP hD hS => ?_)
  have hP : va_P D vwCl ((wU u0 u1 u2 0 sp en bb) ++ ((wL4 cL u1 (vp_updL (vp_updL f_5 (0 : Int32).toNatClampNeg x) (1 : Int32).toNatClampNeg y)) ++ fr)) H := hP
  have hD : va_D A ((wU u0 u1 u2 0 sp en bb) ++ ((wL4 cL u1 (vp_updL (vp_updL f_5 (0 : Int32).toNatClampNeg x) (1 : Int32).toNatClampNeg y)) ++ fr)) := hD
  refine lv_aload_n hx hb d_U_begin_27 rfl (lv_at hl 0 rfl) ?_
  refine lv_iconst (v := 0) hx hb d_U_begin_28 (by decide) ?_
  refine va_put (ci := 2) (v := .int 0) (ty := .int) (C := R_U) (T := T_U) (N := 6) hx hb ht in_U t_U t_U_ok n_U hown hK.1 hP hD hS 0 rfl rfl 3 (by decide) (ht _ k_fl_U_31) (fun _ h9 => h9) rfl (by decide +kernel) rfl rfl (Nat.le_of_ble_eq_true rfl) d_U_begin_29 (fun H locs hP hD hS => ?_)
  have hP : va_P D vwCl ((wU u0 u1 u2 0 0 en bb) ++ ((wL4 cL u1 (vp_updL (vp_updL f_5 (0 : Int32).toNatClampNeg x) (1 : Int32).toNatClampNeg y)) ++ fr)) H := hP
  have hD : va_D A ((wU u0 u1 u2 0 0 en bb) ++ ((wL4 cL u1 (vp_updL (vp_updL f_5 (0 : Int32).toNatClampNeg x) (1 : Int32).toNatClampNeg y)) ++ fr)) := hD
  refine lv_aload_n hx hb d_U_begin_32 rfl (lv_at hl 0 rfl) ?_
  refine lv_iconst (v := 0) hx hb d_U_begin_33 (by decide) ?_
  refine va_put (ci := 2) (v := .int 0) (ty := .int) (C := R_U) (T := T_U) (N := 6) hx hb ht in_U t_U t_U_ok n_U hown hK.1 hP hD hS 0 rfl rfl 4 (by decide) (ht _ k_fl_U_18) (fun _ h9 => h9) rfl (by decide +kernel) rfl rfl (Nat.le_of_ble_eq_true rfl) d_U_begin_34 (fun H locs hP hD hS => ?_)
  have hP : va_P D vwCl ((wU u0 u1 u2 0 0 0 bb) ++ ((wL4 cL u1 (vp_updL (vp_updL f_5 (0 : Int32).toNatClampNeg x) (1 : Int32).toNatClampNeg y)) ++ fr)) H := hP
  have hD : va_D A ((wU u0 u1 u2 0 0 0 bb) ++ ((wL4 cL u1 (vp_updL (vp_updL f_5 (0 : Int32).toNatClampNeg x) (1 : Int32).toNatClampNeg y)) ++ fr)) := hD
  refine lv_aload_n hx hb d_U_begin_37 rfl (lv_at hl 0 rfl) ?_
  refine lv_iload hx hb d_U_begin_38 (lv_at hl 3 rfl) ?_
  refine va_put (ci := 2) (v := .int bt) (ty := .boolean) (C := R_U) (T := T_U) (N := 6) hx hb ht in_U t_U t_U_ok n_U hown hK.1 hP hD hS 0 rfl rfl 5 (by decide) (ht _ k_fl_U_34) (fun _ h9 => h9) rfl (by decide +kernel) hnb hfb (Nat.le_of_ble_eq_true rfl) d_U_begin_40 (fun H locs hP hD hS => ?_)
  have hP : va_P D vwCl ((wU u0 u1 u2 0 0 0 bt) ++ ((wL4 cL u1 (vp_updL (vp_updL f_5 (0 : Int32).toNatClampNeg x) (1 : Int32).toNatClampNeg y)) ++ fr)) H := hP
  have hD : va_D A ((wU u0 u1 u2 0 0 0 bt) ++ ((wL4 cL u1 (vp_updL (vp_updL f_5 (0 : Int32).toNatClampNeg x) (1 : Int32).toNatClampNeg y)) ++ fr)) := hD
  rw [hQ]; exact retMv (w1 := fun u : FL × Int32 × Int32 × Int32 × Int32 => ((wU u0 u1 u2 u.2.1 u.2.2.1 u.2.2.2.1 u.2.2.2.2) ++ ((wL4 cL u1 u.1) ++ fr))) (vp_updL (vp_updL f_5 (0 : Int32).toNatClampNeg x) (1 : Int32).toNatClampNeg y, 0, 0, 0, bt) hx hb hr hlocks hP hD hS (by rw [e_5]; rfl) d_U_begin_43

abbrev w_U_resultOf : List Cond := .code y_U_resultOf b_U_resultOf 4 (some .long) :: BIG
set_option maxHeartbeats 4000000 in
set_option maxRecDepth 100000 in
theorem c_U_resultOf (l : Launch) (D : va_G) (cI cL cO : ClassId) (u0 : Nat) (u1 : Nat) (u2 : Nat) (hg : Int32) (sp : Int32) (en : Int32) (bb : Int32) (g : FL) (op : Int32) (a : Int32) (x : Int32) : CRl l y_U_resultOf w_U_resultOf ({ frames := 2, cells := 0, slots := 0, locals := 41 }) D cI cL cO [.ref u0, .int op, .int a, .int x] ((wU u0 u1 u2 hg sp en bb) ++ (wL4 cL u1 g)) (resF g op a x) := by
  refine ofR (cc := b_U_resultOf) (maxL := 4) (ret := (some .long)) (by decide) rfl (Nat.le_of_ble_eq_true rfl) ?_
  intro p e s m below meth c ls Q hQ hx hb hr hlocks hts hown hml hP hK hl
  have hl : lv_has ls 4 [(0, .ref u0), (1, .int op), (2, .int a), (3, .int x)] := hl
  have hown : s.vm.findClass R_U = some m.cls := hown
  have ht : ∀ w ∈ BIG, w.before _ s = true := fun w h => hts w (List.mem_cons_of_mem _ h)
  refine lv_iload_n hx hb d_U_resultOf_0 rfl (lv_at hl 1 rfl) ?_
  by_cases c_1_0 : op = 0
  · refine lv_lookup (off := 27) (tgt := 28) hx hb d_U_resultOf_1 (by decide) (by rw [c_1_0] <;> rfl) (by decide) ?_
    refine lv_iload_n hx hb d_U_resultOf_28 rfl (lv_at hl 3 rfl) ?_
    refine lv_i2l (v := x.toInt64) hx hb d_U_resultOf_29 rfl ?_
    rw [hQ]; exact retRl hx hb hr hlocks (by first | (simp only [resF, if_pos c_1_0]; done) | simp [resF, c_1_0]) d_U_resultOf_30
  by_cases c_1_7 : op = 7
  · refine lv_lookup (off := 30) (tgt := 31) hx hb d_U_resultOf_1 (by decide) (by rw [c_1_7] <;> rfl) (by decide) ?_
    refine lv_aload_n hx hb d_U_resultOf_31 rfl (lv_at hl 0 rfl) ?_
    refine lv_iload_n hx hb d_U_resultOf_32 rfl (lv_at hl 3 rfl) ?_
    refine goRl (va_runV (As := [.int x]) (rest := []) ⟨hx, hb, hml, hown, hts⟩ (c_U_load l D cI cL cO u0 u1 u2 hg sp en bb g x) (cwV 1 hts (gBIG (m4 k_ml_U_63 k_im_U_load k_sel_U_load k_ini_U) k_co_U_load) rfl rfl rfl (by decide +kernel) ⟨Nat.le_of_ble_eq_true rfl, Nat.le_of_ble_eq_true rfl⟩) ⟨PR.bl, va_recv hK.1 (P_app.mpr ⟨(P_app.mp hP).1, (P_app.mp hP).2⟩) (ci := 2) (q0 := 0) rfl rfl, PR.pre (P_app.mpr ⟨(P_app.mp hP).1, (P_app.mp hP).2⟩) hK⟩ rfl rfl hl.1 rfl (lv_room (Nat.le_of_ble_eq_true rfl)) d_U_resultOf_33 ⟨Nat.le_of_ble_eq_true rfl, Nat.le_of_ble_eq_true rfl⟩) ?_
    rw [hQ]; exact retRl hx hb hr hlocks (by first | (simp only [resF, if_neg c_1_0, if_pos c_1_7]; done) | simp [resF, c_1_0, c_1_7]) d_U_resultOf_36
  refine lv_lookup (off := 36) (tgt := 37) hx hb d_U_resultOf_1 (by decide) (by rw [lv_osw c_1_0 (by decide), lv_osw c_1_7 (by decide)] <;> rfl) (by decide) ?_
  refine lv_iload_n hx hb d_U_resultOf_37 rfl (lv_at hl 1 rfl) ?_
  refine lv_aload_n hx hb d_U_resultOf_38 rfl (lv_at hl 0 rfl) ?_
  refine lv_iload_n hx hb d_U_resultOf_39 rfl (lv_at hl 2 rfl) ?_
  refine goRl (va_runV (As := [.int a]) (rest := [.int op]) ⟨hx, hb, hml, hown, hts⟩ (c_U_load l D cI cL cO u0 u1 u2 hg sp en bb g a) (cwV 1 hts (gBIG (m4 k_ml_U_63 k_im_U_load k_sel_U_load k_ini_U) k_co_U_load) rfl rfl rfl (by decide +kernel) ⟨Nat.le_of_ble_eq_true rfl, Nat.le_of_ble_eq_true rfl⟩) ⟨PR.bl, va_recv hK.1 (P_app.mpr ⟨(P_app.mp hP).1, (P_app.mp hP).2⟩) (ci := 2) (q0 := 0) rfl rfl, PR.pre (P_app.mpr ⟨(P_app.mp hP).1, (P_app.mp hP).2⟩) hK⟩ rfl rfl hl.1 rfl (lv_room (Nat.le_of_ble_eq_true rfl)) d_U_resultOf_40 ⟨Nat.le_of_ble_eq_true rfl, Nat.le_of_ble_eq_true rfl⟩) ?_
  refine lv_aload_n hx hb d_U_resultOf_43 rfl (lv_at hl 0 rfl) ?_
  refine lv_iload_n hx hb d_U_resultOf_44 rfl (lv_at hl 3 rfl) ?_
  refine goRl (va_runV (As := [.int x]) (rest := [.long (ldF g a), .int op]) ⟨hx, hb, hml, hown, hts⟩ (c_U_load l D cI cL cO u0 u1 u2 hg sp en bb g x) (cwV 1 hts (gBIG (m4 k_ml_U_63 k_im_U_load k_sel_U_load k_ini_U) k_co_U_load) rfl rfl rfl (by decide +kernel) ⟨Nat.le_of_ble_eq_true rfl, Nat.le_of_ble_eq_true rfl⟩) ⟨PR.bl, va_recv hK.1 (P_app.mpr ⟨(P_app.mp hP).1, (P_app.mp hP).2⟩) (ci := 2) (q0 := 0) rfl rfl, PR.pre (P_app.mpr ⟨(P_app.mp hP).1, (P_app.mp hP).2⟩) hK⟩ rfl rfl hl.1 rfl (lv_room (Nat.le_of_ble_eq_true rfl)) d_U_resultOf_45 ⟨Nat.le_of_ble_eq_true rfl, Nat.le_of_ble_eq_true rfl⟩) ?_
  refine goRl (va_runS (As := [.int op, .long (ldF g a), .long (ldF g x)]) (rest := []) ⟨hx, hb, hml, hown, hts⟩ (c_U_worked l D cI cL cO op (ldF g a) (ldF g x)) (cwS 3 hts (gBIG (m3 k_ml_U_75 k_st_U_worked k_ini_U) k_co_U_worked) rfl rfl rfl (by decide +kernel) ⟨Nat.le_of_ble_eq_true rfl, Nat.le_of_ble_eq_true rfl⟩) ⟨PR.bl, PR.pre P_nil hK⟩ rfl rfl hl.1 rfl (lv_room (Nat.le_of_ble_eq_true rfl)) d_U_resultOf_48 ⟨Nat.le_of_ble_eq_true rfl, Nat.le_of_ble_eq_true rfl⟩) ?_
  rw [hQ]; exact retRl hx hb hr hlocks (by first | (simp only [resF, if_neg c_1_0, if_neg c_1_7]; done) | simp [resF, c_1_0, c_1_7]) d_U_resultOf_51

abbrev w_U_workOnPile : List Cond := .code y_U_workOnPile b_U_workOnPile 6 none :: BIG
set_option maxHeartbeats 4000000 in
set_option maxRecDepth 100000 in
theorem c_U_workOnPile (l : Launch) (D : va_G) (cI cL cO : ClassId) (u0 : Nat) (u1 : Nat) (u2 : Nat) (hg : Int32) (sp : Int32) (en : Int32) (bb : Int32) (pl : FL) (fr : va_W) (op : Int32) (hh : 0 ≤ hg.toInt ∧ hg.toInt ≤ 4) : CMv l y_U_workOnPile w_U_workOnPile ({ frames := 1, cells := 0, slots := 0, locals := 24 }) D cI cL cO [.ref u0, .int op] ((wU u0 u1 u2 hg sp en bb) ++ ((wL4 cL u2 pl) ++ fr)) (fun u : Pi => u = woF op (pl, hg) ∧ (0 ≤ u.2.toInt ∧ u.2.toInt ≤ 4)) (fun u : Pi => ((wU u0 u1 u2 u.2 sp en bb) ++ ((wL4 cL u2 u.1) ++ fr))) 0 0 := by
  refine ofMv (cc := b_U_workOnPile) (maxL := 6) (ret := none) (by decide) rfl (Nat.le_of_ble_eq_true rfl) ?_
  intro p e s m below meth c A ls H Q hQ hx hb hr hlocks hin hts hown hml hP hK hD hS hA hl
  have hl : lv_has ls 6 [(0, .ref u0), (1, .int op)] := hl
  have hown : s.vm.findClass R_U = some m.cls := hown
  have ht : ∀ w ∈ BIG, w.before _ s = true := fun w h => hts w (List.mem_cons_of_mem _ h)
  refine lv_aload_n hx hb d_U_workOnPile_0 rfl (lv_at hl 0 rfl) ?_
  refine goMl (va_runV (As := []) (rest := []) ⟨hx, hb, hml, hown, hts⟩ (c_U_pop l D cI cL cO u0 u1 u2 hg sp en bb pl fr hh H.size) (cwV 0 hts (gBIG (m4 k_ml_U_96 k_im_U_pop k_sel_U_pop k_ini_U) k_co_U_pop) rfl rfl rfl (by decide +kernel) ⟨Nat.le_of_ble_eq_true rfl, Nat.le_of_ble_eq_true rfl⟩) ⟨PM.bl, va_recv hK.1 hP (ci := 2) (q0 := 0) rfl rfl, PM.pre hP hD hK⟩ rfl rfl hl.1 rfl (lv_room (Nat.le_of_ble_eq_true rfl)) d_U_workOnPile_1 ⟨Nat.le_of_ble_eq_true rfl, Nat.le_of_ble_eq_true rfl⟩) hD hS hA (fun r_1 u H locs hw hP hD hS => ?_)
  obtain ⟨hg_1, rfl⟩ : ∃ z, z = u := ⟨_, rfl⟩
  have e_1 : r_1 = poV (pl, hg) ∧ hg_1 = poH (pl, hg) ∧ (0 ≤ hg_1.toInt ∧ hg_1.toInt ≤ 4) := hw
  have hP : va_P D vwCl ((wU u0 u1 u2 hg_1 sp en bb) ++ ((wL4 cL u2 pl) ++ fr)) H := hP
  have hD : va_D A ((wU u0 u1 u2 hg_1 sp en bb) ++ ((wL4 cL u2 pl) ++ fr)) := hD
  refine lv_lstore_n (lv' := [(2, .long r_1), (0, .ref u0), (1, .int op)]) hx hb d_U_workOnPile_4 rfl hl (by decide) rfl (fun ls hl => ?_)
  refine lv_aload_n hx hb d_U_workOnPile_5 rfl (lv_at hl 1 rfl) ?_
  refine goMl (va_runV (As := []) (rest := []) ⟨hx, hb, hml, hown, hts⟩ (c_U_pop l D cI cL cO u0 u1 u2 hg_1 sp en bb pl fr e_1.2.2 H.size) (cwV 0 hts (gBIG (m4 k_ml_U_96 k_im_U_pop k_sel_U_pop k_ini_U) k_co_U_pop) rfl rfl rfl (by decide +kernel) ⟨Nat.le_of_ble_eq_true rfl, Nat.le_of_ble_eq_true rfl⟩) ⟨PM.bl, va_recv hK.1 hP (ci := 2) (q0 := 0) rfl rfl, PM.pre hP hD hK⟩ rfl rfl hl.1 rfl (lv_room (Nat.le_of_ble_eq_true rfl)) d_U_workOnPile_6 ⟨Nat.le_of_ble_eq_true rfl, Nat.le_of_ble_eq_true rfl⟩) hD hS hA (fun r_6 u H locs hw hP hD hS => ?_)
  obtain ⟨hg_6, rfl⟩ : ∃ z, z = u := ⟨_, rfl⟩
  have e_6 : r_6 = poV (pl, hg_1) ∧ hg_6 = poH (pl, hg_1) ∧ (0 ≤ hg_6.toInt ∧ hg_6.toInt ≤ 4) := hw
  have hP : va_P D vwCl ((wU u0 u1 u2 hg_6 sp en bb) ++ ((wL4 cL u2 pl) ++ fr)) H := hP
  have hD : va_D A ((wU u0 u1 u2 hg_6 sp en bb) ++ ((wL4 cL u2 pl) ++ fr)) := hD
  refine lv_lstore (lv' := [(4, .long r_6), (2, .long r_1), (0, .ref u0), (1, .int op)]) hx hb d_U_workOnPile_9 hl (by decide) rfl (fun ls hl => ?_)
  refine lv_aload_n hx hb d_U_workOnPile_11 rfl (lv_at hl 2 rfl) ?_
  refine lv_iload_n hx hb d_U_workOnPile_12 rfl (lv_at hl 3 rfl) ?_
  refine lv_lload hx hb d_U_workOnPile_13 (lv_at hl 0 rfl) ?_
  refine lv_lload_n hx hb d_U_workOnPile_15 rfl (lv_at hl 1 rfl) ?_
  refine goRl (va_runS (As := [.int op, .long r_6, .long r_1]) (rest := [.ref u0]) ⟨hx, hb, hml, hown, hts⟩ (c_U_worked l D cI cL cO op r_6 r_1) (cwS 3 hts (gBIG (m3 k_ml_U_75 k_st_U_worked k_ini_U) k_co_U_worked) rfl rfl rfl (by decide +kernel) ⟨Nat.le_of_ble_eq_true rfl, Nat.le_of_ble_eq_true rfl⟩) ⟨PR.bl, PR.pre P_nil hK⟩ rfl rfl hl.1 rfl (lv_room (Nat.le_of_ble_eq_true rfl)) d_U_workOnPile_16 ⟨Nat.le_of_ble_eq_true rfl, Nat.le_of_ble_eq_true rfl⟩) ?_
  refine goMv (va_runV (As := [.long (workedF op r_6 r_1)]) (rest := []) ⟨hx, hb, hml, hown, hts⟩ (c_U_push l D cI cL cO u0 u1 u2 hg_6 sp en bb pl fr (workedF op r_6 r_1) e_6.2.2 H.size) (cwV 1 hts (gBIG (m4 k_ml_U_92 k_im_U_push k_sel_U_push k_ini_U) k_co_U_push) rfl rfl rfl (by decide +kernel) ⟨Nat.le_of_ble_eq_true rfl, Nat.le_of_ble_eq_true rfl⟩) ⟨PM.bl, va_recv hK.1 hP (ci := 2) (q0 := 0) rfl rfl, PM.pre hP hD hK⟩ rfl rfl hl.1 rfl (lv_room (Nat.le_of_ble_eq_true rfl)) d_U_workOnPile_19 ⟨Nat.le_of_ble_eq_true rfl, Nat.le_of_ble_eq_true rfl⟩) hD hS hA (fun u H locs hw hP hD hS => ?_)
  obtain ⟨pl_19, hg_19⟩ := u
  have e_19 : (pl_19, hg_19) = puF (workedF op r_6 r_1) (pl, hg_6) ∧ (0 ≤ (pl_19, hg_19).2.toInt ∧ (pl_19, hg_19).2.toInt ≤ 4) := hw
  have hP : va_P D vwCl ((wU u0 u1 u2 hg_19 sp en bb) ++ ((wL4 cL u2 pl_19) ++ fr)) H := hP
  have hD : va_D A ((wU u0 u1 u2 hg_19 sp en bb) ++ ((wL4 cL u2 pl_19) ++ fr)) := hD
  rw [hQ]; exact retMv (w1 := fun u : Pi => ((wU u0 u1 u2 u.2 sp en bb) ++ ((wL4 cL u2 u.1) ++ fr))) (pl_19, hg_19) hx hb hr hlocks hP hD hS ⟨by rw [e_19.1, e_6.2.1, e_6.1, e_1.2.1, e_1.1]; rfl, e_19.2⟩ d_U_workOnPile_22
end
section
abbrev w_U_follow : List Cond := .code y_U_follow b_U_follow 4 (some .int) :: BIG
set_option maxHeartbeats 4000000 in
set_option maxRecDepth 100000 in
theorem c_U_follow (l : Launch) (D : va_G) (cI cL cO : ClassId) (u0 : Nat) (u1 : Nat) (u2 : Nat) (hg : Int32) (sp : Int32) (en : Int32) (bb : Int32) (g : FL) (pl : FL) (h0 : Nat) (q1 : Nat) (q2 : Nat) (q3 : Nat) (q4 : Nat) (q5 : Nat) (o : Fn) (f : Fn) (ee : Fn) (t : Fn) (b : Fn) (ic : Int32) (bc : Int32) (sa : Int32) (gn : Int32) (fr : va_W) (at1 : Int32) (cd : Int32) (hh : 0 ≤ hg.toInt ∧ hg.toInt ≤ 4) : CMi l y_U_follow w_U_follow ({ frames := 4, cells := 0, slots := 0, locals := 84 }) D cI cL cO [.ref u0, .ref h0, .int at1, .int cd] ((wU u0 u1 u2 hg sp en bb) ++ ((wL4 cL u1 g) ++ ((wL4 cL u2 pl) ++ ((wB cI h0 q1 q2 q3 q4 q5 o f ee t b ic bc sa gn) ++ fr)))) (fun (r : Int32) (u : FL × FL × Int32 × Int32) => (r, u.1, (u.2.1, u.2.2.1), u.2.2.2) = foF b bc at1 cd g (pl, hg) sp ∧ (0 ≤ u.2.2.1.toInt ∧ u.2.2.1.toInt ≤ 4)) (fun u : FL × FL × Int32 × Int32 => ((wU u0 u1 u2 u.2.2.1 u.2.2.2 en bb) ++ ((wL4 cL u1 u.1) ++ ((wL4 cL u2 u.2.1) ++ ((wB cI h0 q1 q2 q3 q4 q5 o f ee t b ic bc sa gn) ++ fr))))) 0 0 := by
  refine ofMi (cc := b_U_follow) (maxL := 4) (ret := (some .int)) (by decide) rfl (Nat.le_of_ble_eq_true rfl) ?_
  intro p e s m below meth c A ls H Q hQ hx hb hr hlocks hin hts hown hml hP hK hD hS hA hl
  have hl : lv_has ls 4 [(0, .ref u0), (1, .ref h0), (2, .int at1), (3, .int cd)] := hl
  have hown : s.vm.findClass R_U = some m.cls := hown
  have ht : ∀ w ∈ BIG, w.before _ s = true := fun w h => hts w (List.mem_cons_of_mem _ h)
  refine lv_iload_n hx hb d_U_follow_0 rfl (lv_at hl 3 rfl) ?_
  by_cases c_1_1 : cd = 1
  · refine lv_lookup (off := 51) (tgt := 52) hx hb d_U_follow_1 (by decide) (by rw [c_1_1] <;> rfl) (by decide) ?_
    refine lv_aload_n hx hb d_U_follow_52 rfl (lv_at hl 0 rfl) ?_
    refine lv_aload_n hx hb d_U_follow_53 rfl (lv_at hl 0 rfl) ?_
    refine lv_aload_n hx hb d_U_follow_54 rfl (lv_at hl 1 rfl) ?_
    refine lv_iload_n hx hb d_U_follow_55 rfl (lv_at hl 2 rfl) ?_
    refine lv_iconst (v := 1) hx hb d_U_follow_56 (by decide) ?_
    refine lv_iadd hx hb d_U_follow_57 ?_
    refine goRi (va_runVN (As := [.int (at1 + 1)]) (rest := [.ref u0, .ref u0]) ⟨hx, hb, hml, hown, hts⟩ (c_B_read l D cI cL cO h0 q1 q2 q3 q4 q5 o f ee t b ic bc sa gn (at1 + 1)) ⟨va_cnB 1 hts (gB0 k_co_B_read) rfl rfl rfl (hK.2 _ n_ml_U_80) (ht _ k_ini_B) (by decide +kernel) ⟨Nat.le_of_ble_eq_true rfl, Nat.le_of_ble_eq_true rfl⟩, ht _ k_im_B_read, ht _ k_sel_B_read⟩ ⟨PR.bl, va_recv hK.1 ((P_app.mp (P_app.mp (P_app.mp (P_app.mp hP).2).2).2).1) (ci := 0) (q0 := 0) rfl rfl, PR.pre ((P_app.mp (P_app.mp (P_app.mp (P_app.mp hP).2).2).2).1) hK⟩ rfl rfl hl.1 rfl (lv_room (Nat.le_of_ble_eq_true rfl)) d_U_follow_58 ⟨Nat.le_of_ble_eq_true rfl, Nat.le_of_ble_eq_true rfl⟩) ?_
    refine goRl (va_runV (As := [.int (rdF b bc (at1 + 1))]) (rest := [.ref u0]) ⟨hx, hb, hml, hown, hts⟩ (c_U_load l D cI cL cO u0 u1 u2 hg sp en bb g (rdF b bc (at1 + 1))) (cwV 1 hts (gBIG (m4 k_ml_U_63 k_im_U_load k_sel_U_load k_ini_U) k_co_U_load) rfl rfl rfl (by decide +kernel) ⟨Nat.le_of_ble_eq_true rfl, Nat.le_of_ble_eq_true rfl⟩) ⟨PR.bl, va_recv hK.1 (P_app.mpr ⟨(P_app.mp hP).1, (P_app.mp (P_app.mp hP).2).1⟩) (ci := 2) (q0 := 0) rfl rfl, PR.pre (P_app.mpr ⟨(P_app.mp hP).1, (P_app.mp (P_app.mp hP).2).1⟩) hK⟩ rfl rfl hl.1 rfl (lv_room (Nat.le_of_ble_eq_true rfl)) d_U_follow_61 ⟨Nat.le_of_ble_eq_true rfl, Nat.le_of_ble_eq_true rfl⟩) ?_
    have hP := P_sw1 hP
    have hD := D_sw1 hD
    refine goMv (va_runV (As := [.long (ldF g (rdF b bc (at1 + 1)))]) (rest := []) ⟨hx, hb, hml, hown, hts⟩ (c_U_push l D cI cL cO u0 u1 u2 hg sp en bb pl ((wL4 cL u1 g) ++ ((wB cI h0 q1 q2 q3 q4 q5 o f ee t b ic bc sa gn) ++ fr)) (ldF g (rdF b bc (at1 + 1))) hh H.size) (cwV 1 hts (gBIG (m4 k_ml_U_92 k_im_U_push k_sel_U_push k_ini_U) k_co_U_push) rfl rfl rfl (by decide +kernel) ⟨Nat.le_of_ble_eq_true rfl, Nat.le_of_ble_eq_true rfl⟩) ⟨PM.bl, va_recv hK.1 hP (ci := 2) (q0 := 0) rfl rfl, PM.pre hP hD hK⟩ rfl rfl hl.1 rfl (lv_room (Nat.le_of_ble_eq_true rfl)) d_U_follow_64 ⟨Nat.le_of_ble_eq_true rfl, Nat.le_of_ble_eq_true rfl⟩) hD hS hA (fun u H locs hw hP hD hS => ?_)
    obtain ⟨pl_64, hg_64⟩ := u
    have e_64 : (pl_64, hg_64) = puF (ldF g (rdF b bc (at1 + 1))) (pl, hg) ∧ (0 ≤ (pl_64, hg_64).2.toInt ∧ (pl_64, hg_64).2.toInt ≤ 4) := hw
    have hP : va_P D vwCl ((wU u0 u1 u2 hg_64 sp en bb) ++ ((wL4 cL u2 pl_64) ++ ((wL4 cL u1 g) ++ ((wB cI h0 q1 q2 q3 q4 q5 o f ee t b ic bc sa gn) ++ fr)))) H := hP
    have hD : va_D A ((wU u0 u1 u2 hg_64 sp en bb) ++ ((wL4 cL u2 pl_64) ++ ((wL4 cL u1 g) ++ ((wB cI h0 q1 q2 q3 q4 q5 o f ee t b ic bc sa gn) ++ fr)))) := hD
    have hP := P_sw1 hP
    have hD := D_sw1 hD
    have hP : va_P D vwCl ((wU u0 u1 u2 hg_64 sp en bb) ++ ((wL4 cL u1 g) ++ ((wL4 cL u2 pl_64) ++ ((wB cI h0 q1 q2 q3 q4 q5 o f ee t b ic bc sa gn) ++ fr)))) H := hP
    have hD : va_D A ((wU u0 u1 u2 hg_64 sp en bb) ++ ((wL4 cL u1 g) ++ ((wL4 cL u2 pl_64) ++ ((wB cI h0 q1 q2 q3 q4 q5 o f ee t b ic bc sa gn) ++ fr)))) := hD
    refine lv_goto (tgt := 163) hx hb d_U_follow_67 (by decide) ?_
    refine lv_iload_n hx hb d_U_follow_163 rfl (lv_at hl 2 rfl) ?_
    refine lv_iload_n hx hb d_U_follow_164 rfl (lv_at hl 3 rfl) ?_
    refine goRi (va_runSN (As := [.int cd]) (rest := [.int at1]) ⟨hx, hb, hml, hown, hts⟩ (c_M_lengthOf l D cI cL cO cd) ⟨va_cnB 1 hts (gB0 k_co_M_lengthOf) rfl rfl rfl (hK.2 _ n_ml_U_110) (ht _ k_ini_M) (by decide +kernel) ⟨Nat.le_of_ble_eq_true rfl, Nat.le_of_ble_eq_true rfl⟩, ht _ k_st_M_lengthOf, trivial⟩ ⟨PR.bl, PR.pre P_nil hK⟩ rfl rfl hl.1 rfl (lv_room (Nat.le_of_ble_eq_true rfl)) d_U_follow_165 ⟨Nat.le_of_ble_eq_true rfl, Nat.le_of_ble_eq_true rfl⟩) ?_
    refine lv_iadd hx hb d_U_follow_168 ?_
    rw [hQ]; exact retMi (w1 := fun u : FL × FL × Int32 × Int32 => ((wU u0 u1 u2 u.2.2.1 u.2.2.2 en bb) ++ ((wL4 cL u1 u.1) ++ ((wL4 cL u2 u.2.1) ++ ((wB cI h0 q1 q2 q3 q4 q5 o f ee t b ic bc sa gn) ++ fr))))) (g, pl_64, hg_64, sp) hx hb hr hlocks hP hD hS ⟨(by rw [e_64.1]; simp only [foF, poF, if_pos c_1_1]), e_64.2⟩ d_U_follow_169
  by_cases c_1_2 : cd = 2
  · refine lv_lookup (off := 69) (tgt := 70) hx hb d_U_follow_1 (by decide) (by rw [c_1_2] <;> rfl) (by decide) ?_
    refine lv_aload_n hx hb d_U_follow_70 rfl (lv_at hl 0 rfl) ?_
    refine lv_aload_n hx hb d_U_follow_71 rfl (lv_at hl 1 rfl) ?_
    refine lv_iload_n hx hb d_U_follow_72 rfl (lv_at hl 2 rfl) ?_
    refine lv_iconst (v := 1) hx hb d_U_follow_73 (by decide) ?_
    refine lv_iadd hx hb d_U_follow_74 ?_
    refine goRi (va_runVN (As := [.int (at1 + 1)]) (rest := [.ref u0]) ⟨hx, hb, hml, hown, hts⟩ (c_B_read l D cI cL cO h0 q1 q2 q3 q4 q5 o f ee t b ic bc sa gn (at1 + 1)) ⟨va_cnB 1 hts (gB0 k_co_B_read) rfl rfl rfl (hK.2 _ n_ml_U_80) (ht _ k_ini_B) (by decide +kernel) ⟨Nat.le_of_ble_eq_true rfl, Nat.le_of_ble_eq_true rfl⟩, ht _ k_im_B_read, ht _ k_sel_B_read⟩ ⟨PR.bl, va_recv hK.1 ((P_app.mp (P_app.mp (P_app.mp (P_app.mp hP).2).2).2).1) (ci := 0) (q0 := 0) rfl rfl, PR.pre ((P_app.mp (P_app.mp (P_app.mp (P_app.mp hP).2).2).2).1) hK⟩ rfl rfl hl.1 rfl (lv_room (Nat.le_of_ble_eq_true rfl)) d_U_follow_75 ⟨Nat.le_of_ble_eq_true rfl, Nat.le_of_ble_eq_true rfl⟩) ?_
    refine lv_aload_n hx hb d_U_follow_78 rfl (lv_at hl 0 rfl) ?_
    have hP := P_sw1 hP
    have hD := D_sw1 hD
    refine goMl (va_runV (As := []) (rest := [.int (rdF b bc (at1 + 1)), .ref u0]) ⟨hx, hb, hml, hown, hts⟩ (c_U_pop l D cI cL cO u0 u1 u2 hg sp en bb pl ((wL4 cL u1 g) ++ ((wB cI h0 q1 q2 q3 q4 q5 o f ee t b ic bc sa gn) ++ fr)) hh H.size) (cwV 0 hts (gBIG (m4 k_ml_U_96 k_im_U_pop k_sel_U_pop k_ini_U) k_co_U_pop) rfl rfl rfl (by decide +kernel) ⟨Nat.le_of_ble_eq_true rfl, Nat.le_of_ble_eq_true rfl⟩) ⟨PM.bl, va_recv hK.1 hP (ci := 2) (q0 := 0) rfl rfl, PM.pre hP hD hK⟩ rfl rfl hl.1 rfl (lv_room (Nat.le_of_ble_eq_true rfl)) d_U_follow_79 ⟨Nat.le_of_ble_eq_true rfl, Nat.le_of_ble_eq_true rfl⟩) hD hS hA (fun r_79 u H locs hw hP hD hS => ?_)
    obtain ⟨hg_79, rfl⟩ : ∃ z, z = u := ⟨_, rfl⟩
    have e_79 : r_79 = poV (pl, hg) ∧ hg_79 = poH (pl, hg) ∧ (0 ≤ hg_79.toInt ∧ hg_79.toInt ≤ 4) := hw
    have hP : va_P D vwCl ((wU u0 u1 u2 hg_79 sp en bb) ++ ((wL4 cL u2 pl) ++ ((wL4 cL u1 g) ++ ((wB cI h0 q1 q2 q3 q4 q5 o f ee t b ic bc sa gn) ++ fr)))) H := hP
    have hD : va_D A ((wU u0 u1 u2 hg_79 sp en bb) ++ ((wL4 cL u2 pl) ++ ((wL4 cL u1 g) ++ ((wB cI h0 q1 q2 q3 q4 q5 o f ee t b ic bc sa gn) ++ fr)))) := hD
    have hP := P_sw1 hP
    have hD := D_sw1 hD
    have hP : va_P D vwCl ((wU u0 u1 u2 hg_79 sp en bb) ++ ((wL4 cL u1 g) ++ ((wL4 cL u2 pl) ++ ((wB cI h0 q1 q2 q3 q4 q5 o f ee t b ic bc sa gn) ++ fr)))) H := hP
    have hD : va_D A ((wU u0 u1 u2 hg_79 sp en bb) ++ ((wL4 cL u1 g) ++ ((wL4 cL u2 pl) ++ ((wB cI h0 q1 q2 q3 q4 q5 o f ee t b ic bc sa gn) ++ fr)))) := hD
    refine goMv (va_runV (As := [.int (rdF b bc (at1 + 1)), .long r_79]) (rest := []) ⟨hx, hb, hml, hown, hts⟩ (c_U_store l D cI cL cO u0 u1 u2 hg_79 sp en bb g ((wL4 cL u2 pl) ++ ((wB cI h0 q1 q2 q3 q4 q5 o f ee t b ic bc sa gn) ++ fr)) (rdF b bc (at1 + 1)) r_79 H.size) (cwV 2 hts (gBIG (m4 k_ml_U_71 k_im_U_store k_sel_U_store k_ini_U) k_co_U_store) rfl rfl rfl (by decide +kernel) ⟨Nat.le_of_ble_eq_true rfl, Nat.le_of_ble_eq_true rfl⟩) ⟨PM.bl, va_recv hK.1 hP (ci := 2) (q0 := 0) rfl rfl, PM.pre hP hD hK⟩ rfl rfl hl.1 rfl (lv_room (Nat.le_of_ble_eq_true rfl)) d_U_follow_82 ⟨Nat.le_of_ble_eq_true rfl, Nat.le_of_ble_eq_true rfl⟩) hD hS hA (fun u H locs hw hP hD hS => ?_)
    obtain ⟨g_82, rfl⟩ : ∃ z, z = u := ⟨_, rfl⟩
    have e_82 : g_82 = stF g (rdF b bc (at1 + 1)) r_79 := hw
    have hP : va_P D vwCl ((wU u0 u1 u2 hg_79 sp en bb) ++ ((wL4 cL u1 g_82) ++ ((wL4 cL u2 pl) ++ ((wB cI h0 q1 q2 q3 q4 q5 o f ee t b ic bc sa gn) ++ fr)))) H := hP
    have hD : va_D A ((wU u0 u1 u2 hg_79 sp en bb) ++ ((wL4 cL u1 g_82) ++ ((wL4 cL u2 pl) ++ ((wB cI h0 q1 q2 q3 q4 q5 o f ee t b ic bc sa gn) ++ fr)))) := hD
    refine lv_aload_n hx hb d_U_follow_85 rfl (lv_at hl 0 rfl) ?_
    refine lv_dup hx hb d_U_follow_86 rfl ?_
    refine va_get (ci := 2) (v := .int sp) (C := R_U) (T := T_U) (N := 6) hx hb ht in_U hown hK.1 hP 0 rfl rfl 3 (by decide) (ht _ k_fl_U_31) (fun _ h9 => h9) rfl d_U_follow_87 ?_
    refine lv_iconst (v := 1) hx hb d_U_follow_90 (by decide) ?_
    refine lv_iadd hx hb d_U_follow_91 ?_
    refine va_put (ci := 2) (v := .int (sp + 1)) (ty := .int) (C := R_U) (T := T_U) (N := 6) hx hb ht in_U t_U t_U_ok n_U hown hK.1 hP hD hS 0 rfl rfl 3 (by decide) (ht _ k_fl_U_31) (fun _ h9 => h9) rfl (by decide +kernel) rfl rfl (Nat.le_of_ble_eq_true rfl) d_U_follow_92 (fun H locs hP hD hS => ?_)
    have hP : va_P D vwCl ((wU u0 u1 u2 hg_79 (sp + 1) en bb) ++ ((wL4 cL u1 g_82) ++ ((wL4 cL u2 pl) ++ ((wB cI h0 q1 q2 q3 q4 q5 o f ee t b ic bc sa gn) ++ fr)))) H := hP
    have hD : va_D A ((wU u0 u1 u2 hg_79 (sp + 1) en bb) ++ ((wL4 cL u1 g_82) ++ ((wL4 cL u2 pl) ++ ((wB cI h0 q1 q2 q3 q4 q5 o f ee t b ic bc sa gn) ++ fr)))) := hD
    refine lv_goto (tgt := 163) hx hb d_U_follow_95 (by decide) ?_
    refine lv_iload_n hx hb d_U_follow_163 rfl (lv_at hl 2 rfl) ?_
    refine lv_iload_n hx hb d_U_follow_164 rfl (lv_at hl 3 rfl) ?_
    refine goRi (va_runSN (As := [.int cd]) (rest := [.int at1]) ⟨hx, hb, hml, hown, hts⟩ (c_M_lengthOf l D cI cL cO cd) ⟨va_cnB 1 hts (gB0 k_co_M_lengthOf) rfl rfl rfl (hK.2 _ n_ml_U_110) (ht _ k_ini_M) (by decide +kernel) ⟨Nat.le_of_ble_eq_true rfl, Nat.le_of_ble_eq_true rfl⟩, ht _ k_st_M_lengthOf, trivial⟩ ⟨PR.bl, PR.pre P_nil hK⟩ rfl rfl hl.1 rfl (lv_room (Nat.le_of_ble_eq_true rfl)) d_U_follow_165 ⟨Nat.le_of_ble_eq_true rfl, Nat.le_of_ble_eq_true rfl⟩) ?_
    refine lv_iadd hx hb d_U_follow_168 ?_
    rw [hQ]; exact retMi (w1 := fun u : FL × FL × Int32 × Int32 => ((wU u0 u1 u2 u.2.2.1 u.2.2.2 en bb) ++ ((wL4 cL u1 u.1) ++ ((wL4 cL u2 u.2.1) ++ ((wB cI h0 q1 q2 q3 q4 q5 o f ee t b ic bc sa gn) ++ fr))))) (g_82, pl, hg_79, sp + 1) hx hb hr hlocks hP hD hS ⟨(by simp only [foF, poF, if_neg c_1_1, if_pos c_1_2, e_82, ← e_79.1, e_79.2.1]), e_79.2.2⟩ d_U_follow_169
  by_cases c_1_3 : cd = 3
  · refine lv_lookup (off := 97) (tgt := 98) hx hb d_U_follow_1 (by decide) (by rw [c_1_3] <;> rfl) (by decide) ?_
    refine lv_aload_n hx hb d_U_follow_98 rfl (lv_at hl 0 rfl) ?_
    refine lv_aload_n hx hb d_U_follow_99 rfl (lv_at hl 1 rfl) ?_
    refine lv_iload_n hx hb d_U_follow_100 rfl (lv_at hl 2 rfl) ?_
    refine lv_iconst (v := 1) hx hb d_U_follow_101 (by decide) ?_
    refine lv_iadd hx hb d_U_follow_102 ?_
    refine goRi (va_runVN (As := [.int (at1 + 1)]) (rest := [.ref u0]) ⟨hx, hb, hml, hown, hts⟩ (c_B_readFour l D cI cL cO h0 q1 q2 q3 q4 q5 o f ee t b ic bc sa gn (at1 + 1)) ⟨va_cnB 1 hts (gB0 k_co_B_readFour) rfl rfl rfl (hK.2 _ n_ml_U_100) (ht _ k_ini_B) (by decide +kernel) ⟨Nat.le_of_ble_eq_true rfl, Nat.le_of_ble_eq_true rfl⟩, ht _ k_im_B_readFour, ht _ k_sel_B_readFour⟩ ⟨PR.bl, va_recv hK.1 ((P_app.mp (P_app.mp (P_app.mp (P_app.mp hP).2).2).2).1) (ci := 0) (q0 := 0) rfl rfl, PR.pre ((P_app.mp (P_app.mp (P_app.mp (P_app.mp hP).2).2).2).1) hK⟩ rfl rfl hl.1 rfl (lv_room (Nat.le_of_ble_eq_true rfl)) d_U_follow_103 ⟨Nat.le_of_ble_eq_true rfl, Nat.le_of_ble_eq_true rfl⟩) ?_
    refine lv_i2l (v := (rd4F b bc (at1 + 1)).toInt64) hx hb d_U_follow_106 rfl ?_
    have hP := P_sw1 hP
    have hD := D_sw1 hD
    refine goMv (va_runV (As := [.long ((rd4F b bc (at1 + 1)).toInt64)]) (rest := []) ⟨hx, hb, hml, hown, hts⟩ (c_U_push l D cI cL cO u0 u1 u2 hg sp en bb pl ((wL4 cL u1 g) ++ ((wB cI h0 q1 q2 q3 q4 q5 o f ee t b ic bc sa gn) ++ fr)) ((rd4F b bc (at1 + 1)).toInt64) hh H.size) (cwV 1 hts (gBIG (m4 k_ml_U_92 k_im_U_push k_sel_U_push k_ini_U) k_co_U_push) rfl rfl rfl (by decide +kernel) ⟨Nat.le_of_ble_eq_true rfl, Nat.le_of_ble_eq_true rfl⟩) ⟨PM.bl, va_recv hK.1 hP (ci := 2) (q0 := 0) rfl rfl, PM.pre hP hD hK⟩ rfl rfl hl.1 rfl (lv_room (Nat.le_of_ble_eq_true rfl)) d_U_follow_107 ⟨Nat.le_of_ble_eq_true rfl, Nat.le_of_ble_eq_true rfl⟩) hD hS hA (fun u H locs hw hP hD hS => ?_)
    obtain ⟨pl_107, hg_107⟩ := u
    have e_107 : (pl_107, hg_107) = puF ((rd4F b bc (at1 + 1)).toInt64) (pl, hg) ∧ (0 ≤ (pl_107, hg_107).2.toInt ∧ (pl_107, hg_107).2.toInt ≤ 4) := hw
    have hP : va_P D vwCl ((wU u0 u1 u2 hg_107 sp en bb) ++ ((wL4 cL u2 pl_107) ++ ((wL4 cL u1 g) ++ ((wB cI h0 q1 q2 q3 q4 q5 o f ee t b ic bc sa gn) ++ fr)))) H := hP
    have hD : va_D A ((wU u0 u1 u2 hg_107 sp en bb) ++ ((wL4 cL u2 pl_107) ++ ((wL4 cL u1 g) ++ ((wB cI h0 q1 q2 q3 q4 q5 o f ee t b ic bc sa gn) ++ fr)))) := hD
    have hP := P_sw1 hP
    have hD := D_sw1 hD
    have hP : va_P D vwCl ((wU u0 u1 u2 hg_107 sp en bb) ++ ((wL4 cL u1 g) ++ ((wL4 cL u2 pl_107) ++ ((wB cI h0 q1 q2 q3 q4 q5 o f ee t b ic bc sa gn) ++ fr)))) H := hP
    have hD : va_D A ((wU u0 u1 u2 hg_107 sp en bb) ++ ((wL4 cL u1 g) ++ ((wL4 cL u2 pl_107) ++ ((wB cI h0 q1 q2 q3 q4 q5 o f ee t b ic bc sa gn) ++ fr)))) := hD
    refine lv_goto (tgt := 163) hx hb d_U_follow_110 (by decide) ?_
    refine lv_iload_n hx hb d_U_follow_163 rfl (lv_at hl 2 rfl) ?_
    refine lv_iload_n hx hb d_U_follow_164 rfl (lv_at hl 3 rfl) ?_
    refine goRi (va_runSN (As := [.int cd]) (rest := [.int at1]) ⟨hx, hb, hml, hown, hts⟩ (c_M_lengthOf l D cI cL cO cd) ⟨va_cnB 1 hts (gB0 k_co_M_lengthOf) rfl rfl rfl (hK.2 _ n_ml_U_110) (ht _ k_ini_M) (by decide +kernel) ⟨Nat.le_of_ble_eq_true rfl, Nat.le_of_ble_eq_true rfl⟩, ht _ k_st_M_lengthOf, trivial⟩ ⟨PR.bl, PR.pre P_nil hK⟩ rfl rfl hl.1 rfl (lv_room (Nat.le_of_ble_eq_true rfl)) d_U_follow_165 ⟨Nat.le_of_ble_eq_true rfl, Nat.le_of_ble_eq_true rfl⟩) ?_
    refine lv_iadd hx hb d_U_follow_168 ?_
    rw [hQ]; exact retMi (w1 := fun u : FL × FL × Int32 × Int32 => ((wU u0 u1 u2 u.2.2.1 u.2.2.2 en bb) ++ ((wL4 cL u1 u.1) ++ ((wL4 cL u2 u.2.1) ++ ((wB cI h0 q1 q2 q3 q4 q5 o f ee t b ic bc sa gn) ++ fr))))) (g, pl_107, hg_107, sp) hx hb hr hlocks hP hD hS ⟨(by rw [e_107.1]; simp only [foF, poF, if_neg c_1_1, if_neg c_1_2, if_pos c_1_3]), e_107.2⟩ d_U_follow_169
  by_cases c_1_9 : cd = 9
  · refine lv_lookup (off := 128) (tgt := 129) hx hb d_U_follow_1 (by decide) (by rw [c_1_9] <;> rfl) (by decide) ?_
    refine lv_aload_n hx hb d_U_follow_129 rfl (lv_at hl 0 rfl) ?_
    refine lv_dup hx hb d_U_follow_130 rfl ?_
    refine va_get (ci := 2) (v := .int sp) (C := R_U) (T := T_U) (N := 6) hx hb ht in_U hown hK.1 hP 0 rfl rfl 3 (by decide) (ht _ k_fl_U_31) (fun _ h9 => h9) rfl d_U_follow_131 ?_
    refine lv_iconst (v := 1) hx hb d_U_follow_134 (by decide) ?_
    refine lv_iadd hx hb d_U_follow_135 ?_
    refine va_put (ci := 2) (v := .int (sp + 1)) (ty := .int) (C := R_U) (T := T_U) (N := 6) hx hb ht in_U t_U t_U_ok n_U hown hK.1 hP hD hS 0 rfl rfl 3 (by decide) (ht _ k_fl_U_31) (fun _ h9 => h9) rfl (by decide +kernel) rfl rfl (Nat.le_of_ble_eq_true rfl) d_U_follow_136 (fun H locs hP hD hS => ?_)
    have hP : va_P D vwCl ((wU u0 u1 u2 hg (sp + 1) en bb) ++ ((wL4 cL u1 g) ++ ((wL4 cL u2 pl) ++ ((wB cI h0 q1 q2 q3 q4 q5 o f ee t b ic bc sa gn) ++ fr)))) H := hP
    have hD : va_D A ((wU u0 u1 u2 hg (sp + 1) en bb) ++ ((wL4 cL u1 g) ++ ((wL4 cL u2 pl) ++ ((wB cI h0 q1 q2 q3 q4 q5 o f ee t b ic bc sa gn) ++ fr)))) := hD
    refine lv_aload_n hx hb d_U_follow_139 rfl (lv_at hl 0 rfl) ?_
    have hP := P_sw1 hP
    have hD := D_sw1 hD
    refine goMl (va_runV (As := []) (rest := []) ⟨hx, hb, hml, hown, hts⟩ (c_U_pop l D cI cL cO u0 u1 u2 hg (sp + 1) en bb pl ((wL4 cL u1 g) ++ ((wB cI h0 q1 q2 q3 q4 q5 o f ee t b ic bc sa gn) ++ fr)) hh H.size) (cwV 0 hts (gBIG (m4 k_ml_U_96 k_im_U_pop k_sel_U_pop k_ini_U) k_co_U_pop) rfl rfl rfl (by decide +kernel) ⟨Nat.le_of_ble_eq_true rfl, Nat.le_of_ble_eq_true rfl⟩) ⟨PM.bl, va_recv hK.1 hP (ci := 2) (q0 := 0) rfl rfl, PM.pre hP hD hK⟩ rfl rfl hl.1 rfl (lv_room (Nat.le_of_ble_eq_true rfl)) d_U_follow_140 ⟨Nat.le_of_ble_eq_true rfl, Nat.le_of_ble_eq_true rfl⟩) hD hS hA (fun r_140 u H locs hw hP hD hS => ?_)
    obtain ⟨hg_140, rfl⟩ : ∃ z, z = u := ⟨_, rfl⟩
    have e_140 : r_140 = poV (pl, hg) ∧ hg_140 = poH (pl, hg) ∧ (0 ≤ hg_140.toInt ∧ hg_140.toInt ≤ 4) := hw
    have hP : va_P D vwCl ((wU u0 u1 u2 hg_140 (sp + 1) en bb) ++ ((wL4 cL u2 pl) ++ ((wL4 cL u1 g) ++ ((wB cI h0 q1 q2 q3 q4 q5 o f ee t b ic bc sa gn) ++ fr)))) H := hP
    have hD : va_D A ((wU u0 u1 u2 hg_140 (sp + 1) en bb) ++ ((wL4 cL u2 pl) ++ ((wL4 cL u1 g) ++ ((wB cI h0 q1 q2 q3 q4 q5 o f ee t b ic bc sa gn) ++ fr)))) := hD
    have hP := P_sw1 hP
    have hD := D_sw1 hD
    have hP : va_P D vwCl ((wU u0 u1 u2 hg_140 (sp + 1) en bb) ++ ((wL4 cL u1 g) ++ ((wL4 cL u2 pl) ++ ((wB cI h0 q1 q2 q3 q4 q5 o f ee t b ic bc sa gn) ++ fr)))) H := hP
    have hD : va_D A ((wU u0 u1 u2 hg_140 (sp + 1) en bb) ++ ((wL4 cL u1 g) ++ ((wL4 cL u2 pl) ++ ((wB cI h0 q1 q2 q3 q4 q5 o f ee t b ic bc sa gn) ++ fr)))) := hD
    refine lv_lconst (v := 0) hx hb d_U_follow_143 (by decide) ?_
    refine W.lcmp hx hb d_U_follow_144 ?_
    refine lv_if_eq (tgt := 163) hx hb d_U_follow_145 (by decide) (fun c_145 => ?_) (fun c_145 => ?_)
    · refine lv_iload_n hx hb d_U_follow_163 rfl (lv_at hl 2 rfl) ?_
      refine lv_iload_n hx hb d_U_follow_164 rfl (lv_at hl 3 rfl) ?_
      refine goRi (va_runSN (As := [.int cd]) (rest := [.int at1]) ⟨hx, hb, hml, hown, hts⟩ (c_M_lengthOf l D cI cL cO cd) ⟨va_cnB 1 hts (gB0 k_co_M_lengthOf) rfl rfl rfl (hK.2 _ n_ml_U_110) (ht _ k_ini_M) (by decide +kernel) ⟨Nat.le_of_ble_eq_true rfl, Nat.le_of_ble_eq_true rfl⟩, ht _ k_st_M_lengthOf, trivial⟩ ⟨PR.bl, PR.pre P_nil hK⟩ rfl rfl hl.1 rfl (lv_room (Nat.le_of_ble_eq_true rfl)) d_U_follow_165 ⟨Nat.le_of_ble_eq_true rfl, Nat.le_of_ble_eq_true rfl⟩) ?_
      refine lv_iadd hx hb d_U_follow_168 ?_
      rw [hQ]; exact retMi (w1 := fun u : FL × FL × Int32 × Int32 => ((wU u0 u1 u2 u.2.2.1 u.2.2.2 en bb) ++ ((wL4 cL u1 u.1) ++ ((wL4 cL u2 u.2.1) ++ ((wB cI h0 q1 q2 q3 q4 q5 o f ee t b ic bc sa gn) ++ fr))))) (g, pl, hg_140, sp + 1) hx hb hr hlocks hP hD hS ⟨(by simp only [foF, poF, if_neg c_1_1, if_neg c_1_2, if_neg c_1_3, if_pos c_1_9, if_pos c_145, ← e_140.1, e_140.2.1]), e_140.2.2⟩ d_U_follow_169
    · refine lv_aload_n hx hb d_U_follow_148 rfl (lv_at hl 1 rfl) ?_
      refine lv_iload_n hx hb d_U_follow_149 rfl (lv_at hl 2 rfl) ?_
      refine lv_iconst (v := 1) hx hb d_U_follow_150 (by decide) ?_
      refine lv_iadd hx hb d_U_follow_151 ?_
      refine goRi (va_runVN (As := [.int (at1 + 1)]) (rest := []) ⟨hx, hb, hml, hown, hts⟩ (c_B_readTwo l D cI cL cO h0 q1 q2 q3 q4 q5 o f ee t b ic bc sa gn (at1 + 1)) ⟨va_cnB 1 hts (gB0 k_co_B_readTwo) rfl rfl rfl (hK.2 _ n_ml_U_103) (ht _ k_ini_B) (by decide +kernel) ⟨Nat.le_of_ble_eq_true rfl, Nat.le_of_ble_eq_true rfl⟩, ht _ k_im_B_readTwo, ht _ k_sel_B_readTwo⟩ ⟨PR.bl, va_recv hK.1 ((P_app.mp (P_app.mp (P_app.mp (P_app.mp hP).2).2).2).1) (ci := 0) (q0 := 0) rfl rfl, PR.pre ((P_app.mp (P_app.mp (P_app.mp (P_app.mp hP).2).2).2).1) hK⟩ rfl rfl hl.1 rfl (lv_room (Nat.le_of_ble_eq_true rfl)) d_U_follow_152 ⟨Nat.le_of_ble_eq_true rfl, Nat.le_of_ble_eq_true rfl⟩) ?_
      rw [hQ]; exact retMi (w1 := fun u : FL × FL × Int32 × Int32 => ((wU u0 u1 u2 u.2.2.1 u.2.2.2 en bb) ++ ((wL4 cL u1 u.1) ++ ((wL4 cL u2 u.2.1) ++ ((wB cI h0 q1 q2 q3 q4 q5 o f ee t b ic bc sa gn) ++ fr))))) (g, pl, hg_140, sp + 1) hx hb hr hlocks hP hD hS ⟨(by simp only [foF, poF, if_neg c_1_1, if_neg c_1_2, if_neg c_1_3, if_pos c_1_9, if_neg c_145, ← e_140.1, e_140.2.1]), e_140.2.2⟩ d_U_follow_155
  by_cases c_1_16 : cd = 16
  · refine lv_lookup (off := 112) (tgt := 113) hx hb d_U_follow_1 (by decide) (by rw [c_1_16] <;> rfl) (by decide) ?_
    refine lv_aload_n hx hb d_U_follow_113 rfl (lv_at hl 0 rfl) ?_
    refine lv_aload_n hx hb d_U_follow_114 rfl (lv_at hl 1 rfl) ?_
    refine lv_iload_n hx hb d_U_follow_115 rfl (lv_at hl 2 rfl) ?_
    refine lv_iconst (v := 1) hx hb d_U_follow_116 (by decide) ?_
    refine lv_iadd hx hb d_U_follow_117 ?_
    refine goRi (va_runVN (As := [.int (at1 + 1)]) (rest := [.ref u0]) ⟨hx, hb, hml, hown, hts⟩ (c_B_read l D cI cL cO h0 q1 q2 q3 q4 q5 o f ee t b ic bc sa gn (at1 + 1)) ⟨va_cnB 1 hts (gB0 k_co_B_read) rfl rfl rfl (hK.2 _ n_ml_U_80) (ht _ k_ini_B) (by decide +kernel) ⟨Nat.le_of_ble_eq_true rfl, Nat.le_of_ble_eq_true rfl⟩, ht _ k_im_B_read, ht _ k_sel_B_read⟩ ⟨PR.bl, va_recv hK.1 ((P_app.mp (P_app.mp (P_app.mp (P_app.mp hP).2).2).2).1) (ci := 0) (q0 := 0) rfl rfl, PR.pre ((P_app.mp (P_app.mp (P_app.mp (P_app.mp hP).2).2).2).1) hK⟩ rfl rfl hl.1 rfl (lv_room (Nat.le_of_ble_eq_true rfl)) d_U_follow_118 ⟨Nat.le_of_ble_eq_true rfl, Nat.le_of_ble_eq_true rfl⟩) ?_
    refine lv_i2b (v := (rdF b bc (at1 + 1)).toInt8.toInt32) hx hb d_U_follow_121 rfl ?_
    refine lv_i2l (v := ((rdF b bc (at1 + 1)).toInt8.toInt32).toInt64) hx hb d_U_follow_122 rfl ?_
    have hP := P_sw1 hP
    have hD := D_sw1 hD
    refine goMv (va_runV (As := [.long (((rdF b bc (at1 + 1)).toInt8.toInt32).toInt64)]) (rest := []) ⟨hx, hb, hml, hown, hts⟩ (c_U_push l D cI cL cO u0 u1 u2 hg sp en bb pl ((wL4 cL u1 g) ++ ((wB cI h0 q1 q2 q3 q4 q5 o f ee t b ic bc sa gn) ++ fr)) (((rdF b bc (at1 + 1)).toInt8.toInt32).toInt64) hh H.size) (cwV 1 hts (gBIG (m4 k_ml_U_92 k_im_U_push k_sel_U_push k_ini_U) k_co_U_push) rfl rfl rfl (by decide +kernel) ⟨Nat.le_of_ble_eq_true rfl, Nat.le_of_ble_eq_true rfl⟩) ⟨PM.bl, va_recv hK.1 hP (ci := 2) (q0 := 0) rfl rfl, PM.pre hP hD hK⟩ rfl rfl hl.1 rfl (lv_room (Nat.le_of_ble_eq_true rfl)) d_U_follow_123 ⟨Nat.le_of_ble_eq_true rfl, Nat.le_of_ble_eq_true rfl⟩) hD hS hA (fun u H locs hw hP hD hS => ?_)
    obtain ⟨pl_123, hg_123⟩ := u
    have e_123 : (pl_123, hg_123) = puF (((rdF b bc (at1 + 1)).toInt8.toInt32).toInt64) (pl, hg) ∧ (0 ≤ (pl_123, hg_123).2.toInt ∧ (pl_123, hg_123).2.toInt ≤ 4) := hw
    have hP : va_P D vwCl ((wU u0 u1 u2 hg_123 sp en bb) ++ ((wL4 cL u2 pl_123) ++ ((wL4 cL u1 g) ++ ((wB cI h0 q1 q2 q3 q4 q5 o f ee t b ic bc sa gn) ++ fr)))) H := hP
    have hD : va_D A ((wU u0 u1 u2 hg_123 sp en bb) ++ ((wL4 cL u2 pl_123) ++ ((wL4 cL u1 g) ++ ((wB cI h0 q1 q2 q3 q4 q5 o f ee t b ic bc sa gn) ++ fr)))) := hD
    have hP := P_sw1 hP
    have hD := D_sw1 hD
    have hP : va_P D vwCl ((wU u0 u1 u2 hg_123 sp en bb) ++ ((wL4 cL u1 g) ++ ((wL4 cL u2 pl_123) ++ ((wB cI h0 q1 q2 q3 q4 q5 o f ee t b ic bc sa gn) ++ fr)))) H := hP
    have hD : va_D A ((wU u0 u1 u2 hg_123 sp en bb) ++ ((wL4 cL u1 g) ++ ((wL4 cL u2 pl_123) ++ ((wB cI h0 q1 q2 q3 q4 q5 o f ee t b ic bc sa gn) ++ fr)))) := hD
    refine lv_goto (tgt := 163) hx hb d_U_follow_126 (by decide) ?_
    refine lv_iload_n hx hb d_U_follow_163 rfl (lv_at hl 2 rfl) ?_
    refine lv_iload_n hx hb d_U_follow_164 rfl (lv_at hl 3 rfl) ?_
    refine goRi (va_runSN (As := [.int cd]) (rest := [.int at1]) ⟨hx, hb, hml, hown, hts⟩ (c_M_lengthOf l D cI cL cO cd) ⟨va_cnB 1 hts (gB0 k_co_M_lengthOf) rfl rfl rfl (hK.2 _ n_ml_U_110) (ht _ k_ini_M) (by decide +kernel) ⟨Nat.le_of_ble_eq_true rfl, Nat.le_of_ble_eq_true rfl⟩, ht _ k_st_M_lengthOf, trivial⟩ ⟨PR.bl, PR.pre P_nil hK⟩ rfl rfl hl.1 rfl (lv_room (Nat.le_of_ble_eq_true rfl)) d_U_follow_165 ⟨Nat.le_of_ble_eq_true rfl, Nat.le_of_ble_eq_true rfl⟩) ?_
    refine lv_iadd hx hb d_U_follow_168 ?_
    rw [hQ]; exact retMi (w1 := fun u : FL × FL × Int32 × Int32 => ((wU u0 u1 u2 u.2.2.1 u.2.2.2 en bb) ++ ((wL4 cL u1 u.1) ++ ((wL4 cL u2 u.2.1) ++ ((wB cI h0 q1 q2 q3 q4 q5 o f ee t b ic bc sa gn) ++ fr))))) (g, pl_123, hg_123, sp) hx hb hr hlocks hP hD hS ⟨(by rw [e_123.1]; simp only [foF, poF, if_neg c_1_1, if_neg c_1_2, if_neg c_1_3, if_neg c_1_9, if_pos c_1_16]), e_123.2⟩ d_U_follow_169
  refine lv_lookup (off := 155) (tgt := 156) hx hb d_U_follow_1 (by decide) (by rw [lv_osw c_1_1 (by decide), lv_osw c_1_2 (by decide), lv_osw c_1_3 (by decide), lv_osw c_1_9 (by decide), lv_osw c_1_16 (by decide)] <;> rfl) (by decide) ?_
  refine lv_aload_n hx hb d_U_follow_156 rfl (lv_at hl 0 rfl) ?_
  refine lv_iload_n hx hb d_U_follow_157 rfl (lv_at hl 3 rfl) ?_
  refine lv_iconst (v := 3) hx hb d_U_follow_158 (by decide) ?_
  refine lv_isub hx hb d_U_follow_159 ?_
  have hP := P_sw1 hP
  have hD := D_sw1 hD
  refine goMv (va_runV (As := [.int (cd - 3)]) (rest := []) ⟨hx, hb, hml, hown, hts⟩ (c_U_workOnPile l D cI cL cO u0 u1 u2 hg sp en bb pl ((wL4 cL u1 g) ++ ((wB cI h0 q1 q2 q3 q4 q5 o f ee t b ic bc sa gn) ++ fr)) (cd - 3) hh H.size) (cwV 1 hts (gBIG (m4 k_ml_U_106 k_im_U_workOnPile k_sel_U_workOnPile k_ini_U) k_co_U_workOnPile) rfl rfl rfl (by decide +kernel) ⟨Nat.le_of_ble_eq_true rfl, Nat.le_of_ble_eq_true rfl⟩) ⟨PM.bl, va_recv hK.1 hP (ci := 2) (q0 := 0) rfl rfl, PM.pre hP hD hK⟩ rfl rfl hl.1 rfl (lv_room (Nat.le_of_ble_eq_true rfl)) d_U_follow_160 ⟨Nat.le_of_ble_eq_true rfl, Nat.le_of_ble_eq_true rfl⟩) hD hS hA (fun u H locs hw hP hD hS => ?_)
  obtain ⟨pl_160, hg_160⟩ := u
  have e_160 : (pl_160, hg_160) = woF (cd - 3) (pl, hg) ∧ (0 ≤ (pl_160, hg_160).2.toInt ∧ (pl_160, hg_160).2.toInt ≤ 4) := hw
  have hP : va_P D vwCl ((wU u0 u1 u2 hg_160 sp en bb) ++ ((wL4 cL u2 pl_160) ++ ((wL4 cL u1 g) ++ ((wB cI h0 q1 q2 q3 q4 q5 o f ee t b ic bc sa gn) ++ fr)))) H := hP
  have hD : va_D A ((wU u0 u1 u2 hg_160 sp en bb) ++ ((wL4 cL u2 pl_160) ++ ((wL4 cL u1 g) ++ ((wB cI h0 q1 q2 q3 q4 q5 o f ee t b ic bc sa gn) ++ fr)))) := hD
  have hP := P_sw1 hP
  have hD := D_sw1 hD
  have hP : va_P D vwCl ((wU u0 u1 u2 hg_160 sp en bb) ++ ((wL4 cL u1 g) ++ ((wL4 cL u2 pl_160) ++ ((wB cI h0 q1 q2 q3 q4 q5 o f ee t b ic bc sa gn) ++ fr)))) H := hP
  have hD : va_D A ((wU u0 u1 u2 hg_160 sp en bb) ++ ((wL4 cL u1 g) ++ ((wL4 cL u2 pl_160) ++ ((wB cI h0 q1 q2 q3 q4 q5 o f ee t b ic bc sa gn) ++ fr)))) := hD
  refine lv_iload_n hx hb d_U_follow_163 rfl (lv_at hl 2 rfl) ?_
  refine lv_iload_n hx hb d_U_follow_164 rfl (lv_at hl 3 rfl) ?_
  refine goRi (va_runSN (As := [.int cd]) (rest := [.int at1]) ⟨hx, hb, hml, hown, hts⟩ (c_M_lengthOf l D cI cL cO cd) ⟨va_cnB 1 hts (gB0 k_co_M_lengthOf) rfl rfl rfl (hK.2 _ n_ml_U_110) (ht _ k_ini_M) (by decide +kernel) ⟨Nat.le_of_ble_eq_true rfl, Nat.le_of_ble_eq_true rfl⟩, ht _ k_st_M_lengthOf, trivial⟩ ⟨PR.bl, PR.pre P_nil hK⟩ rfl rfl hl.1 rfl (lv_room (Nat.le_of_ble_eq_true rfl)) d_U_follow_165 ⟨Nat.le_of_ble_eq_true rfl, Nat.le_of_ble_eq_true rfl⟩) ?_
  refine lv_iadd hx hb d_U_follow_168 ?_
  rw [hQ]; exact retMi (w1 := fun u : FL × FL × Int32 × Int32 => ((wU u0 u1 u2 u.2.2.1 u.2.2.2 en bb) ++ ((wL4 cL u1 u.1) ++ ((wL4 cL u2 u.2.1) ++ ((wB cI h0 q1 q2 q3 q4 q5 o f ee t b ic bc sa gn) ++ fr))))) (g, pl_160, hg_160, sp) hx hb hr hlocks hP hD hS ⟨(by rw [e_160.1]; simp only [foF, poF, if_neg c_1_1, if_neg c_1_2, if_neg c_1_3, if_neg c_1_9, if_neg c_1_16]), e_160.2⟩ d_U_follow_169
end
section
abbrev w_U_followRows : List Cond := .code y_U_followRows b_U_followRows 11 none :: BIG
set_option maxHeartbeats 4000000 in
set_option maxRecDepth 100000 in
theorem c_U_followRows (l : Launch) (D : va_G) (cI cL cO : ClassId) (u0 : Nat) (u1 : Nat) (u2 : Nat) (hg : Int32) (sp : Int32) (en : Int32) (bb : Int32) (g : FL) (h0 : Nat) (q1 : Nat) (q2 : Nat) (q3 : Nat) (q4 : Nat) (q5 : Nat) (o : Fn) (f : Fn) (ee : Fn) (t : Fn) (b : Fn) (ic : Int32) (bc : Int32) (sa : Int32) (gn : Int32) (fr : va_W) (x : Int64) (y : Int64) (hic : ¬ ic < 0) : CMv l y_U_followRows w_U_followRows ({ frames := 3, cells := 0, slots := 0, locals := 64 }) D cI cL cO [.ref u0, .ref h0, .long x, .long y] ((wU u0 u1 u2 hg sp en bb) ++ ((wL4 cL u1 g) ++ ((wB cI h0 q1 q2 q3 q4 q5 o f ee t b ic bc sa gn) ++ fr))) (fun u : FL × Int32 × Int32 × Int32 × Int32 => (u.1, u.2.2.1, u.2.2.2.1) = roF o f ee ic x y ∧ u.2.1 = 0 ∧ u.2.2.2.2 = 0) (fun u : FL × Int32 × Int32 × Int32 × Int32 => ((wU u0 u1 u2 u.2.1 u.2.2.1 u.2.2.2.1 u.2.2.2.2) ++ ((wL4 cL u1 u.1) ++ ((wB cI h0 q1 q2 q3 q4 q5 o f ee t b ic bc sa gn) ++ fr)))) 0 0 := by
  refine ofMv (cc := b_U_followRows) (maxL := 11) (ret := none) (by decide) rfl (Nat.le_of_ble_eq_true rfl) ?_
  intro p e s m below meth c A ls H Q hQ hx hb hr hlocks hin hts hown hml hP hK hD hS hA hl
  have hl : lv_has ls 11 [(0, .ref u0), (1, .ref h0), (2, .long x), (4, .long y)] := hl
  have hown : s.vm.findClass R_U = some m.cls := hown
  have ht : ∀ w ∈ BIG, w.before _ s = true := fun w h => hts w (List.mem_cons_of_mem _ h)
  refine lv_aload_n hx hb d_U_followRows_0 rfl (lv_at hl 0 rfl) ?_
  refine lv_lload_n hx hb d_U_followRows_1 rfl (lv_at hl 2 rfl) ?_
  refine lv_lload hx hb d_U_followRows_2 (lv_at hl 3 rfl) ?_
  refine lv_iconst (v := 0) hx hb d_U_followRows_4 (by decide) ?_
  refine goMv (va_runV (As := [.long x, .long y, .int 0]) (rest := []) ⟨hx, hb, hml, hown, hts⟩ (c_U_begin l D cI cL cO u0 u1 u2 hg sp en bb g ((wB cI h0 q1 q2 q3 q4 q5 o f ee t b ic bc sa gn) ++ fr) x y 0 rfl rfl H.size) (cwV 3 hts (gBIG (m4 k_ml_U_38 k_im_U_begin k_sel_U_begin k_ini_U) k_co_U_begin) rfl rfl rfl (by decide +kernel) ⟨Nat.le_of_ble_eq_true rfl, Nat.le_of_ble_eq_true rfl⟩) ⟨PM.bl, va_recv hK.1 hP (ci := 2) (q0 := 0) rfl rfl, PM.pre hP hD hK⟩ rfl rfl hl.1 rfl (lv_room (Nat.le_of_ble_eq_true rfl)) d_U_followRows_5 ⟨Nat.le_of_ble_eq_true rfl, Nat.le_of_ble_eq_true rfl⟩) hD hS hA (fun u H locs hw hP hD hS => ?_)
  obtain ⟨g_5, hg_5, sp_5, en_5, bb_5⟩ := u
  have e_5 : (g_5, hg_5, sp_5, en_5, bb_5) = (begR x y, 0, 0, 0, 0) := hw
  have hP : va_P D vwCl ((wU u0 u1 u2 hg_5 sp_5 en_5 bb_5) ++ ((wL4 cL u1 g_5) ++ ((wB cI h0 q1 q2 q3 q4 q5 o f ee t b ic bc sa gn) ++ fr))) H := hP
  have hD : va_D A ((wU u0 u1 u2 hg_5 sp_5 en_5 bb_5) ++ ((wL4 cL u1 g_5) ++ ((wB cI h0 q1 q2 q3 q4 q5 o f ee t b ic bc sa gn) ++ fr))) := hD
  obtain ⟨eg, eh, es9, ee9, eb⟩ : g_5 = begR x y ∧ hg_5 = 0 ∧ sp_5 = 0 ∧ en_5 = 0 ∧ bb_5 = 0 := by simpa only [Prod.mk.injEq] using e_5
  refine lv_aload_n hx hb d_U_followRows_8 rfl (lv_at hl 1 rfl) ?_
  refine va_getN (ci := 0) (v := .int ic) (C := R_B) (T := T_B) (N := 9) hx hb ht in_B hown hK.1 hP 2 rfl rfl 5 (by decide) (va_Nw.use rfl (hK.2 _ n_fl_U_42)) (fun _ h9 => h9) rfl d_U_followRows_9 ?_
  refine lv_bipush (v := 60) hx hb d_U_followRows_12 (by decide) ?_
  refine w_min hx hb (hml.trans hl.1.symm) hown (ht _ k_ml_U_47) (ht _ k_st_Ma_min) (ht _ k_ini_Ma) (ht _ k_co_Ma_min) (Nat.le_of_ble_eq_true rfl) (Nat.le_of_ble_eq_true rfl) (Nat.zero_le _) (Nat.zero_le _) d_U_followRows_14 ?_
  refine lv_istore (lv' := [(6, .int (minF ic 60)), (0, .ref u0), (1, .ref h0), (2, .long x), (4, .long y)]) hx hb d_U_followRows_17 hl (by decide) rfl (fun ls hl => ?_)
  refine lv_iconst (v := 0) hx hb d_U_followRows_19 (by decide) ?_
  refine lv_istore (lv' := [(7, .int 0), (6, .int (minF ic 60)), (0, .ref u0), (1, .ref h0), (2, .long x), (4, .long y)]) hx hb d_U_followRows_20 hl (by decide) rfl (fun ls hl => ?_)
  have lp : ∀ (n : Nat) (at1 : Int32) (g1 : FL) (sp1 : Int32) (H : Heap) (locs : List Loc) (ls : Array Slot), (sp1.toInt + (n : Int) = 2001) → (0 ≤ sp1.toInt ∧ sp1.toInt ≤ 2000) → (roL o f ee (minF ic 60) n at1 g1 sp1 = roF o f ee ic x y) → va_P D vwCl ((wU u0 u1 u2 hg_5 sp1 en_5 bb_5) ++ ((wL4 cL u1 g1) ++ ((wB cI h0 q1 q2 q3 q4 q5 o f ee t b ic bc sa gn) ++ fr))) H → va_D A ((wU u0 u1 u2 hg_5 sp1 en_5 bb_5) ++ ((wL4 cL u1 g1) ++ ((wB cI h0 q1 q2 q3 q4 q5 o f ee t b ic bc sa gn) ++ fr))) → va_S A s.heap H locs → lv_has ls 11 [(0, .ref u0), (1, .ref h0), (2, .long x), (4, .long y), (6, .int (minF ic 60)), (7, .int at1)] → W p l e ({ frames := 3, cells := 0, slots := 0, locals := 64 } : Room) s m ([.ref u0, .ref h0, .long x, .long y] : List Value).toArray below meth c H locs 0 0 Q (F0 m 22 ls []) := by
    intro n
    induction n with
    | zero =>
      intro at1 g1 sp1 H locs ls hn hi hF hP hD hS hl
      exact absurd hn (by omega)
    | succ n ih =>
      intro at1 g1 sp1 H locs ls hn hi hF hP hD hS hl
      refine lv_aload_n hx hb d_U_followRows_22 rfl (lv_at hl 0 rfl) ?_
      refine va_get (ci := 2) (v := .int sp1) (C := R_U) (T := T_U) (N := 6) hx hb ht in_U hown hK.1 hP 0 rfl rfl 3 (by decide) (ht _ k_fl_U_31) (fun _ h9 => h9) rfl d_U_followRows_23 ?_
      refine lv_sipush (v := 2000) hx hb d_U_followRows_26 (by decide) ?_
      refine lv_icmp_ge (tgt := 158) hx hb d_U_followRows_29 (by decide) (fun c_29 => ?_) (fun c_29 => ?_)
      · refine lv_aload_n hx hb d_U_followRows_158 rfl (lv_at hl 0 rfl) ?_
        refine lv_iload hx hb d_U_followRows_159 (lv_at hl 5 rfl) ?_
        refine lv_iload hx hb d_U_followRows_161 (lv_at hl 4 rfl) ?_
        refine lv_icmp_ge (tgt := 170) hx hb d_U_followRows_163 (by decide) (fun c_163 => ?_) (fun c_163 => ?_)
        · refine lv_iconst (v := 0) hx hb d_U_followRows_170 (by decide) ?_
          refine va_put (ci := 2) (v := .int 0) (ty := .int) (C := R_U) (T := T_U) (N := 6) hx hb ht in_U t_U t_U_ok n_U hown hK.1 hP hD hS 0 rfl rfl 4 (by decide) (ht _ k_fl_U_18) (fun _ h9 => h9) rfl (by decide +kernel) rfl rfl (Nat.le_of_ble_eq_true rfl) d_U_followRows_171 (fun H locs hP hD hS => ?_)
          have hP : va_P D vwCl ((wU u0 u1 u2 hg_5 sp1 0 bb_5) ++ ((wL4 cL u1 g1) ++ ((wB cI h0 q1 q2 q3 q4 q5 o f ee t b ic bc sa gn) ++ fr))) H := hP
          have hD : va_D A ((wU u0 u1 u2 hg_5 sp1 0 bb_5) ++ ((wL4 cL u1 g1) ++ ((wB cI h0 q1 q2 q3 q4 q5 o f ee t b ic bc sa gn) ++ fr))) := hD
          rw [hQ]; exact retMv (w1 := fun u : FL × Int32 × Int32 × Int32 × Int32 => ((wU u0 u1 u2 u.2.1 u.2.2.1 u.2.2.2.1 u.2.2.2.2) ++ ((wL4 cL u1 u.1) ++ ((wB cI h0 q1 q2 q3 q4 q5 o f ee t b ic bc sa gn) ++ fr)))) (g1, hg_5, sp1, 0, bb_5) hx hb hr hlocks hP hD hS ⟨by rw [← hF]; first | (simp only [roL, if_pos c_29, if_pos c_163]; done) | simp [roL, c_29, c_163], eh, eb⟩ d_U_followRows_174
        · refine lv_iconst (v := 2) hx hb d_U_followRows_166 (by decide) ?_
          refine lv_goto (tgt := 171) hx hb d_U_followRows_167 (by decide) ?_
          refine va_put (ci := 2) (v := .int 2) (ty := .int) (C := R_U) (T := T_U) (N := 6) hx hb ht in_U t_U t_U_ok n_U hown hK.1 hP hD hS 0 rfl rfl 4 (by decide) (ht _ k_fl_U_18) (fun _ h9 => h9) rfl (by decide +kernel) rfl rfl (Nat.le_of_ble_eq_true rfl) d_U_followRows_171 (fun H locs hP hD hS => ?_)
          have hP : va_P D vwCl ((wU u0 u1 u2 hg_5 sp1 2 bb_5) ++ ((wL4 cL u1 g1) ++ ((wB cI h0 q1 q2 q3 q4 q5 o f ee t b ic bc sa gn) ++ fr))) H := hP
          have hD : va_D A ((wU u0 u1 u2 hg_5 sp1 2 bb_5) ++ ((wL4 cL u1 g1) ++ ((wB cI h0 q1 q2 q3 q4 q5 o f ee t b ic bc sa gn) ++ fr))) := hD
          rw [hQ]; exact retMv (w1 := fun u : FL × Int32 × Int32 × Int32 × Int32 => ((wU u0 u1 u2 u.2.1 u.2.2.1 u.2.2.2.1 u.2.2.2.2) ++ ((wL4 cL u1 u.1) ++ ((wB cI h0 q1 q2 q3 q4 q5 o f ee t b ic bc sa gn) ++ fr)))) (g1, hg_5, sp1, 2, bb_5) hx hb hr hlocks hP hD hS ⟨by rw [← hF]; first | (simp only [roL, if_pos c_29, if_neg c_163]; done) | simp [roL, c_29, c_163], eh, eb⟩ d_U_followRows_174
      · refine lv_iload hx hb d_U_followRows_32 (lv_at hl 5 rfl) ?_
        refine lv_if_lt (tgt := 158) hx hb d_U_followRows_34 (by decide) (fun c_34 => ?_) (fun c_34 => ?_)
        · refine lv_aload_n hx hb d_U_followRows_158 rfl (lv_at hl 0 rfl) ?_
          refine lv_iload hx hb d_U_followRows_159 (lv_at hl 5 rfl) ?_
          refine lv_iload hx hb d_U_followRows_161 (lv_at hl 4 rfl) ?_
          refine lv_icmp_ge (tgt := 170) hx hb d_U_followRows_163 (by decide) (fun c_163 => ?_) (fun c_163 => ?_)
          · refine lv_iconst (v := 0) hx hb d_U_followRows_170 (by decide) ?_
            refine va_put (ci := 2) (v := .int 0) (ty := .int) (C := R_U) (T := T_U) (N := 6) hx hb ht in_U t_U t_U_ok n_U hown hK.1 hP hD hS 0 rfl rfl 4 (by decide) (ht _ k_fl_U_18) (fun _ h9 => h9) rfl (by decide +kernel) rfl rfl (Nat.le_of_ble_eq_true rfl) d_U_followRows_171 (fun H locs hP hD hS => ?_)
            have hP : va_P D vwCl ((wU u0 u1 u2 hg_5 sp1 0 bb_5) ++ ((wL4 cL u1 g1) ++ ((wB cI h0 q1 q2 q3 q4 q5 o f ee t b ic bc sa gn) ++ fr))) H := hP
            have hD : va_D A ((wU u0 u1 u2 hg_5 sp1 0 bb_5) ++ ((wL4 cL u1 g1) ++ ((wB cI h0 q1 q2 q3 q4 q5 o f ee t b ic bc sa gn) ++ fr))) := hD
            rw [hQ]; exact retMv (w1 := fun u : FL × Int32 × Int32 × Int32 × Int32 => ((wU u0 u1 u2 u.2.1 u.2.2.1 u.2.2.2.1 u.2.2.2.2) ++ ((wL4 cL u1 u.1) ++ ((wB cI h0 q1 q2 q3 q4 q5 o f ee t b ic bc sa gn) ++ fr)))) (g1, hg_5, sp1, 0, bb_5) hx hb hr hlocks hP hD hS ⟨by rw [← hF]; first | (simp only [roL, if_neg c_29, if_pos c_34, if_pos c_163]; done) | simp [roL, c_29, c_34, c_163], eh, eb⟩ d_U_followRows_174
          · refine lv_iconst (v := 2) hx hb d_U_followRows_166 (by decide) ?_
            refine lv_goto (tgt := 171) hx hb d_U_followRows_167 (by decide) ?_
            refine va_put (ci := 2) (v := .int 2) (ty := .int) (C := R_U) (T := T_U) (N := 6) hx hb ht in_U t_U t_U_ok n_U hown hK.1 hP hD hS 0 rfl rfl 4 (by decide) (ht _ k_fl_U_18) (fun _ h9 => h9) rfl (by decide +kernel) rfl rfl (Nat.le_of_ble_eq_true rfl) d_U_followRows_171 (fun H locs hP hD hS => ?_)
            have hP : va_P D vwCl ((wU u0 u1 u2 hg_5 sp1 2 bb_5) ++ ((wL4 cL u1 g1) ++ ((wB cI h0 q1 q2 q3 q4 q5 o f ee t b ic bc sa gn) ++ fr))) H := hP
            have hD : va_D A ((wU u0 u1 u2 hg_5 sp1 2 bb_5) ++ ((wL4 cL u1 g1) ++ ((wB cI h0 q1 q2 q3 q4 q5 o f ee t b ic bc sa gn) ++ fr))) := hD
            rw [hQ]; exact retMv (w1 := fun u : FL × Int32 × Int32 × Int32 × Int32 => ((wU u0 u1 u2 u.2.1 u.2.2.1 u.2.2.2.1 u.2.2.2.2) ++ ((wL4 cL u1 u.1) ++ ((wB cI h0 q1 q2 q3 q4 q5 o f ee t b ic bc sa gn) ++ fr)))) (g1, hg_5, sp1, 2, bb_5) hx hb hr hlocks hP hD hS ⟨by rw [← hF]; first | (simp only [roL, if_neg c_29, if_pos c_34, if_neg c_163]; done) | simp [roL, c_29, c_34, c_163], eh, eb⟩ d_U_followRows_174
        · refine lv_iload hx hb d_U_followRows_37 (lv_at hl 5 rfl) ?_
          refine lv_iload hx hb d_U_followRows_39 (lv_at hl 4 rfl) ?_
          refine lv_icmp_ge (tgt := 158) hx hb d_U_followRows_41 (by decide) (fun c_41 => ?_) (fun c_41 => ?_)
          · refine lv_aload_n hx hb d_U_followRows_158 rfl (lv_at hl 0 rfl) ?_
            refine lv_iload hx hb d_U_followRows_159 (lv_at hl 5 rfl) ?_
            refine lv_iload hx hb d_U_followRows_161 (lv_at hl 4 rfl) ?_
            refine lv_icmp_ge (tgt := 170) hx hb d_U_followRows_163 (by decide) (fun c_163 => ?_) (fun c_163 => ?_)
            · refine lv_iconst (v := 0) hx hb d_U_followRows_170 (by decide) ?_
              refine va_put (ci := 2) (v := .int 0) (ty := .int) (C := R_U) (T := T_U) (N := 6) hx hb ht in_U t_U t_U_ok n_U hown hK.1 hP hD hS 0 rfl rfl 4 (by decide) (ht _ k_fl_U_18) (fun _ h9 => h9) rfl (by decide +kernel) rfl rfl (Nat.le_of_ble_eq_true rfl) d_U_followRows_171 (fun H locs hP hD hS => ?_)
              have hP : va_P D vwCl ((wU u0 u1 u2 hg_5 sp1 0 bb_5) ++ ((wL4 cL u1 g1) ++ ((wB cI h0 q1 q2 q3 q4 q5 o f ee t b ic bc sa gn) ++ fr))) H := hP
              have hD : va_D A ((wU u0 u1 u2 hg_5 sp1 0 bb_5) ++ ((wL4 cL u1 g1) ++ ((wB cI h0 q1 q2 q3 q4 q5 o f ee t b ic bc sa gn) ++ fr))) := hD
              rw [hQ]; exact retMv (w1 := fun u : FL × Int32 × Int32 × Int32 × Int32 => ((wU u0 u1 u2 u.2.1 u.2.2.1 u.2.2.2.1 u.2.2.2.2) ++ ((wL4 cL u1 u.1) ++ ((wB cI h0 q1 q2 q3 q4 q5 o f ee t b ic bc sa gn) ++ fr)))) (g1, hg_5, sp1, 0, bb_5) hx hb hr hlocks hP hD hS ⟨by rw [← hF]; first | (simp only [roL, if_neg c_29, if_neg c_34, if_pos c_41, if_pos c_163]; done) | simp [roL, c_29, c_34, c_41, c_163], eh, eb⟩ d_U_followRows_174
            · refine lv_iconst (v := 2) hx hb d_U_followRows_166 (by decide) ?_
              refine lv_goto (tgt := 171) hx hb d_U_followRows_167 (by decide) ?_
              refine va_put (ci := 2) (v := .int 2) (ty := .int) (C := R_U) (T := T_U) (N := 6) hx hb ht in_U t_U t_U_ok n_U hown hK.1 hP hD hS 0 rfl rfl 4 (by decide) (ht _ k_fl_U_18) (fun _ h9 => h9) rfl (by decide +kernel) rfl rfl (Nat.le_of_ble_eq_true rfl) d_U_followRows_171 (fun H locs hP hD hS => ?_)
              have hP : va_P D vwCl ((wU u0 u1 u2 hg_5 sp1 2 bb_5) ++ ((wL4 cL u1 g1) ++ ((wB cI h0 q1 q2 q3 q4 q5 o f ee t b ic bc sa gn) ++ fr))) H := hP
              have hD : va_D A ((wU u0 u1 u2 hg_5 sp1 2 bb_5) ++ ((wL4 cL u1 g1) ++ ((wB cI h0 q1 q2 q3 q4 q5 o f ee t b ic bc sa gn) ++ fr))) := hD
              rw [hQ]; exact retMv (w1 := fun u : FL × Int32 × Int32 × Int32 × Int32 => ((wU u0 u1 u2 u.2.1 u.2.2.1 u.2.2.2.1 u.2.2.2.2) ++ ((wL4 cL u1 u.1) ++ ((wB cI h0 q1 q2 q3 q4 q5 o f ee t b ic bc sa gn) ++ fr)))) (g1, hg_5, sp1, 2, bb_5) hx hb hr hlocks hP hD hS (absurd c_41 c_163) d_U_followRows_174
          · refine lv_aload_n hx hb d_U_followRows_44 rfl (lv_at hl 1 rfl) ?_
            refine va_getN (ci := 0) (v := .ref q1) (C := R_B) (T := T_B) (N := 9) hx hb ht in_B hown hK.1 hP 2 rfl rfl 0 (by decide) (va_Nw.use rfl (hK.2 _ n_fl_U_53)) (fun _ h9 => h9) rfl d_U_followRows_45 ?_
            refine lv_iload hx hb d_U_followRows_48 (lv_at hl 5 rfl) ?_
            refine va_iald hx hb hK.1 hP 3 0 rfl rfl (in_m60 hic c_34 c_41) d_U_followRows_50 ?_
            refine lv_istore (lv' := [(8, .int (o at1.toNatClampNeg)), (0, .ref u0), (1, .ref h0), (2, .long x), (4, .long y), (6, .int (minF ic 60)), (7, .int at1)]) hx hb d_U_followRows_51 hl (by decide) rfl (fun ls hl => ?_)
            refine lv_aload_n hx hb d_U_followRows_53 rfl (lv_at hl 2 rfl) ?_
            refine va_getN (ci := 0) (v := .ref q2) (C := R_B) (T := T_B) (N := 9) hx hb ht in_B hown hK.1 hP 2 rfl rfl 1 (by decide) (va_Nw.use rfl (hK.2 _ n_fl_U_57)) (fun _ h9 => h9) rfl d_U_followRows_54 ?_
            refine lv_iload hx hb d_U_followRows_57 (lv_at hl 6 rfl) ?_
            refine va_iald hx hb hK.1 hP 4 0 rfl rfl (in_m60 hic c_34 c_41) d_U_followRows_59 ?_
            refine lv_istore (lv' := [(9, .int (f at1.toNatClampNeg)), (8, .int (o at1.toNatClampNeg)), (0, .ref u0), (1, .ref h0), (2, .long x), (4, .long y), (6, .int (minF ic 60)), (7, .int at1)]) hx hb d_U_followRows_60 hl (by decide) rfl (fun ls hl => ?_)
            refine lv_aload_n hx hb d_U_followRows_62 rfl (lv_at hl 3 rfl) ?_
            refine va_getN (ci := 0) (v := .ref q3) (C := R_B) (T := T_B) (N := 9) hx hb ht in_B hown hK.1 hP 2 rfl rfl 2 (by decide) (va_Nw.use rfl (hK.2 _ n_fl_U_60)) (fun _ h9 => h9) rfl d_U_followRows_63 ?_
            refine lv_iload hx hb d_U_followRows_66 (lv_at hl 7 rfl) ?_
            refine va_iald hx hb hK.1 hP 5 0 rfl rfl (in_m60 hic c_34 c_41) d_U_followRows_68 ?_
            refine lv_istore (lv' := [(10, .int (ee at1.toNatClampNeg)), (9, .int (f at1.toNatClampNeg)), (8, .int (o at1.toNatClampNeg)), (0, .ref u0), (1, .ref h0), (2, .long x), (4, .long y), (6, .int (minF ic 60)), (7, .int at1)]) hx hb d_U_followRows_69 hl (by decide) rfl (fun ls hl => ?_)
            refine lv_iload hx hb d_U_followRows_71 (lv_at hl 2 rfl) ?_
            refine lv_iconst (v := 4) hx hb d_U_followRows_73 (by decide) ?_
            refine lv_icmp_ne (tgt := 94) hx hb d_U_followRows_74 (by decide) (fun c_74 => ?_) (fun c_74 => ?_)
            · refine lv_iload hx hb d_U_followRows_94 (lv_at hl 2 rfl) ?_
              refine lv_bipush (v := 6) hx hb d_U_followRows_96 (by decide) ?_
              refine lv_icmp_ne (tgt := 126) hx hb d_U_followRows_98 (by decide) (fun c_98 => ?_) (fun c_98 => ?_)
              · refine lv_aload_n hx hb d_U_followRows_126 rfl (lv_at hl 3 rfl) ?_
                refine lv_iload hx hb d_U_followRows_127 (lv_at hl 1 rfl) ?_
                refine lv_aload_n hx hb d_U_followRows_129 rfl (lv_at hl 3 rfl) ?_
                refine lv_iload hx hb d_U_followRows_130 (lv_at hl 2 rfl) ?_
                refine lv_iload hx hb d_U_followRows_132 (lv_at hl 1 rfl) ?_
                refine lv_iload hx hb d_U_followRows_134 (lv_at hl 0 rfl) ?_
                refine goRl (va_runV (As := [.int (o at1.toNatClampNeg), .int (f at1.toNatClampNeg), .int (ee at1.toNatClampNeg)]) (rest := [.int (f at1.toNatClampNeg), .ref u0]) ⟨hx, hb, hml, hown, hts⟩ (c_U_resultOf l D cI cL cO u0 u1 u2 hg_5 sp1 en_5 bb_5 g1 (o at1.toNatClampNeg) (f at1.toNatClampNeg) (ee at1.toNatClampNeg)) (cwV 3 hts (gBIG (m4 k_ml_U_67 k_im_U_resultOf k_sel_U_resultOf k_ini_U) k_co_U_resultOf) rfl rfl rfl (by decide +kernel) ⟨Nat.le_of_ble_eq_true rfl, Nat.le_of_ble_eq_true rfl⟩) ⟨PR.bl, va_recv hK.1 (P_app.mpr ⟨(P_app.mp hP).1, (P_app.mp (P_app.mp hP).2).1⟩) (ci := 2) (q0 := 0) rfl rfl, PR.pre (P_app.mpr ⟨(P_app.mp hP).1, (P_app.mp (P_app.mp hP).2).1⟩) hK⟩ rfl rfl hl.1 rfl (lv_room (Nat.le_of_ble_eq_true rfl)) d_U_followRows_136 ⟨Nat.le_of_ble_eq_true rfl, Nat.le_of_ble_eq_true rfl⟩) ?_
                refine goMv (va_runV (As := [.int (f at1.toNatClampNeg), .long (resF g1 (o at1.toNatClampNeg) (f at1.toNatClampNeg) (ee at1.toNatClampNeg))]) (rest := []) ⟨hx, hb, hml, hown, hts⟩ (c_U_store l D cI cL cO u0 u1 u2 hg_5 sp1 en_5 bb_5 g1 ((wB cI h0 q1 q2 q3 q4 q5 o f ee t b ic bc sa gn) ++ fr) (f at1.toNatClampNeg) (resF g1 (o at1.toNatClampNeg) (f at1.toNatClampNeg) (ee at1.toNatClampNeg)) H.size) (cwV 2 hts (gBIG (m4 k_ml_U_71 k_im_U_store k_sel_U_store k_ini_U) k_co_U_store) rfl rfl rfl (by decide +kernel) ⟨Nat.le_of_ble_eq_true rfl, Nat.le_of_ble_eq_true rfl⟩) ⟨PM.bl, va_recv hK.1 hP (ci := 2) (q0 := 0) rfl rfl, PM.pre hP hD hK⟩ rfl rfl hl.1 rfl (lv_room (Nat.le_of_ble_eq_true rfl)) d_U_followRows_139 ⟨Nat.le_of_ble_eq_true rfl, Nat.le_of_ble_eq_true rfl⟩) hD hS hA (fun u H locs hw hP hD hS => ?_)
                obtain ⟨g_139, rfl⟩ : ∃ z, z = u := ⟨_, rfl⟩
                have e_139 : g_139 = stF g1 (f at1.toNatClampNeg) (resF g1 (o at1.toNatClampNeg) (f at1.toNatClampNeg) (ee at1.toNatClampNeg)) := hw
                have hP : va_P D vwCl ((wU u0 u1 u2 hg_5 sp1 en_5 bb_5) ++ ((wL4 cL u1 g_139) ++ ((wB cI h0 q1 q2 q3 q4 q5 o f ee t b ic bc sa gn) ++ fr))) H := hP
                have hD : va_D A ((wU u0 u1 u2 hg_5 sp1 en_5 bb_5) ++ ((wL4 cL u1 g_139) ++ ((wB cI h0 q1 q2 q3 q4 q5 o f ee t b ic bc sa gn) ++ fr))) := hD
                refine lv_iinc (v := at1 + 1) (lv' := [(7, .int (at1 + 1)), (10, .int (ee at1.toNatClampNeg)), (9, .int (f at1.toNatClampNeg)), (8, .int (o at1.toNatClampNeg)), (0, .ref u0), (1, .ref h0), (2, .long x), (4, .long y), (6, .int (minF ic 60))]) hx hb d_U_followRows_142 hl (k := 8) rfl rfl (by decide) rfl (fun ls hl => ?_)
                refine lv_aload_n hx hb d_U_followRows_145 rfl (lv_at hl 4 rfl) ?_
                refine lv_dup hx hb d_U_followRows_146 rfl ?_
                refine va_get (ci := 2) (v := .int sp1) (C := R_U) (T := T_U) (N := 6) hx hb ht in_U hown hK.1 hP 0 rfl rfl 3 (by decide) (ht _ k_fl_U_31) (fun _ h9 => h9) rfl d_U_followRows_147 ?_
                refine lv_iconst (v := 1) hx hb d_U_followRows_150 (by decide) ?_
                refine lv_iadd hx hb d_U_followRows_151 ?_
                refine va_put (ci := 2) (v := .int (sp1 + 1)) (ty := .int) (C := R_U) (T := T_U) (N := 6) hx hb ht in_U t_U t_U_ok n_U hown hK.1 hP hD hS 0 rfl rfl 3 (by decide) (ht _ k_fl_U_31) (fun _ h9 => h9) rfl (by decide +kernel) rfl rfl (Nat.le_of_ble_eq_true rfl) d_U_followRows_152 (fun H locs hP hD hS => ?_)
                have hP : va_P D vwCl ((wU u0 u1 u2 hg_5 (sp1 + 1) en_5 bb_5) ++ ((wL4 cL u1 g_139) ++ ((wB cI h0 q1 q2 q3 q4 q5 o f ee t b ic bc sa gn) ++ fr))) H := hP
                have hD : va_D A ((wU u0 u1 u2 hg_5 (sp1 + 1) en_5 bb_5) ++ ((wL4 cL u1 g_139) ++ ((wB cI h0 q1 q2 q3 q4 q5 o f ee t b ic bc sa gn) ++ fr))) := hD
                refine lv_goto (tgt := 22) hx hb d_U_followRows_155 (by decide) ?_
                exact ih (at1 + 1) g_139 (sp1 + 1) _ _ ls (by rw [i32_1 (by omega)]; omega) (by rw [i32_1 (by omega)]; have := i_lt c_29; have h3 : (2000 : Int32).toInt = 2000 := (by decide); omega) (by rw [e_139, ← hF]; first | (simp only [roL, if_neg c_29, if_neg c_34, if_neg c_41, if_neg c_74, if_neg c_98]; done) | simp [roL, c_29, c_34, c_41, c_74, c_98]) hP hD hS (lv_sub hl [4, 5, 6, 7, 8, 0] rfl)
              · refine lv_aload_n hx hb d_U_followRows_101 rfl (lv_at hl 3 rfl) ?_
                refine lv_iload hx hb d_U_followRows_102 (lv_at hl 1 rfl) ?_
                refine goRl (va_runV (As := [.int (f at1.toNatClampNeg)]) (rest := []) ⟨hx, hb, hml, hown, hts⟩ (c_U_load l D cI cL cO u0 u1 u2 hg_5 sp1 en_5 bb_5 g1 (f at1.toNatClampNeg)) (cwV 1 hts (gBIG (m4 k_ml_U_63 k_im_U_load k_sel_U_load k_ini_U) k_co_U_load) rfl rfl rfl (by decide +kernel) ⟨Nat.le_of_ble_eq_true rfl, Nat.le_of_ble_eq_true rfl⟩) ⟨PR.bl, va_recv hK.1 (P_app.mpr ⟨(P_app.mp hP).1, (P_app.mp (P_app.mp hP).2).1⟩) (ci := 2) (q0 := 0) rfl rfl, PR.pre (P_app.mpr ⟨(P_app.mp hP).1, (P_app.mp (P_app.mp hP).2).1⟩) hK⟩ rfl rfl hl.1 rfl (lv_room (Nat.le_of_ble_eq_true rfl)) d_U_followRows_104 ⟨Nat.le_of_ble_eq_true rfl, Nat.le_of_ble_eq_true rfl⟩) ?_
                refine lv_lconst (v := 0) hx hb d_U_followRows_107 (by decide) ?_
                refine W.lcmp hx hb d_U_followRows_108 ?_
                refine lv_if_eq (tgt := 117) hx hb d_U_followRows_109 (by decide) (fun c_109 => ?_) (fun c_109 => ?_)
                · refine lv_iload hx hb d_U_followRows_117 (lv_at hl 8 rfl) ?_
                  refine lv_iconst (v := 1) hx hb d_U_followRows_119 (by decide) ?_
                  refine lv_iadd hx hb d_U_followRows_120 ?_
                  refine lv_istore (lv' := [(7, .int (at1 + 1)), (10, .int (ee at1.toNatClampNeg)), (9, .int (f at1.toNatClampNeg)), (8, .int (o at1.toNatClampNeg)), (0, .ref u0), (1, .ref h0), (2, .long x), (4, .long y), (6, .int (minF ic 60))]) hx hb d_U_followRows_121 hl (by decide) rfl (fun ls hl => ?_)
                  refine lv_goto (tgt := 145) hx hb d_U_followRows_123 (by decide) ?_
                  refine lv_aload_n hx hb d_U_followRows_145 rfl (lv_at hl 4 rfl) ?_
                  refine lv_dup hx hb d_U_followRows_146 rfl ?_
                  refine va_get (ci := 2) (v := .int sp1) (C := R_U) (T := T_U) (N := 6) hx hb ht in_U hown hK.1 hP 0 rfl rfl 3 (by decide) (ht _ k_fl_U_31) (fun _ h9 => h9) rfl d_U_followRows_147 ?_
                  refine lv_iconst (v := 1) hx hb d_U_followRows_150 (by decide) ?_
                  refine lv_iadd hx hb d_U_followRows_151 ?_
                  refine va_put (ci := 2) (v := .int (sp1 + 1)) (ty := .int) (C := R_U) (T := T_U) (N := 6) hx hb ht in_U t_U t_U_ok n_U hown hK.1 hP hD hS 0 rfl rfl 3 (by decide) (ht _ k_fl_U_31) (fun _ h9 => h9) rfl (by decide +kernel) rfl rfl (Nat.le_of_ble_eq_true rfl) d_U_followRows_152 (fun H locs hP hD hS => ?_)
                  have hP : va_P D vwCl ((wU u0 u1 u2 hg_5 (sp1 + 1) en_5 bb_5) ++ ((wL4 cL u1 g1) ++ ((wB cI h0 q1 q2 q3 q4 q5 o f ee t b ic bc sa gn) ++ fr))) H := hP
                  have hD : va_D A ((wU u0 u1 u2 hg_5 (sp1 + 1) en_5 bb_5) ++ ((wL4 cL u1 g1) ++ ((wB cI h0 q1 q2 q3 q4 q5 o f ee t b ic bc sa gn) ++ fr))) := hD
                  refine lv_goto (tgt := 22) hx hb d_U_followRows_155 (by decide) ?_
                  exact ih (at1 + 1) g1 (sp1 + 1) _ _ ls (by rw [i32_1 (by omega)]; omega) (by rw [i32_1 (by omega)]; have := i_lt c_29; have h3 : (2000 : Int32).toInt = 2000 := (by decide); omega) (by rw [← hF]; first | (simp only [roL, if_neg c_29, if_neg c_34, if_neg c_41, if_neg c_74, if_pos c_98, if_pos c_109]; done) | simp [roL, c_29, c_34, c_41, c_74, c_98, c_109]) hP hD hS (lv_sub hl [4, 5, 6, 7, 8, 0] rfl)
                · refine lv_iload hx hb d_U_followRows_112 (lv_at hl 0 rfl) ?_
                  refine lv_goto (tgt := 121) hx hb d_U_followRows_114 (by decide) ?_
                  refine lv_istore (lv' := [(7, .int (ee at1.toNatClampNeg)), (10, .int (ee at1.toNatClampNeg)), (9, .int (f at1.toNatClampNeg)), (8, .int (o at1.toNatClampNeg)), (0, .ref u0), (1, .ref h0), (2, .long x), (4, .long y), (6, .int (minF ic 60))]) hx hb d_U_followRows_121 hl (by decide) rfl (fun ls hl => ?_)
                  refine lv_goto (tgt := 145) hx hb d_U_followRows_123 (by decide) ?_
                  refine lv_aload_n hx hb d_U_followRows_145 rfl (lv_at hl 4 rfl) ?_
                  refine lv_dup hx hb d_U_followRows_146 rfl ?_
                  refine va_get (ci := 2) (v := .int sp1) (C := R_U) (T := T_U) (N := 6) hx hb ht in_U hown hK.1 hP 0 rfl rfl 3 (by decide) (ht _ k_fl_U_31) (fun _ h9 => h9) rfl d_U_followRows_147 ?_
                  refine lv_iconst (v := 1) hx hb d_U_followRows_150 (by decide) ?_
                  refine lv_iadd hx hb d_U_followRows_151 ?_
                  refine va_put (ci := 2) (v := .int (sp1 + 1)) (ty := .int) (C := R_U) (T := T_U) (N := 6) hx hb ht in_U t_U t_U_ok n_U hown hK.1 hP hD hS 0 rfl rfl 3 (by decide) (ht _ k_fl_U_31) (fun _ h9 => h9) rfl (by decide +kernel) rfl rfl (Nat.le_of_ble_eq_true rfl) d_U_followRows_152 (fun H locs hP hD hS => ?_)
                  have hP : va_P D vwCl ((wU u0 u1 u2 hg_5 (sp1 + 1) en_5 bb_5) ++ ((wL4 cL u1 g1) ++ ((wB cI h0 q1 q2 q3 q4 q5 o f ee t b ic bc sa gn) ++ fr))) H := hP
                  have hD : va_D A ((wU u0 u1 u2 hg_5 (sp1 + 1) en_5 bb_5) ++ ((wL4 cL u1 g1) ++ ((wB cI h0 q1 q2 q3 q4 q5 o f ee t b ic bc sa gn) ++ fr))) := hD
                  refine lv_goto (tgt := 22) hx hb d_U_followRows_155 (by decide) ?_
                  exact ih (ee at1.toNatClampNeg) g1 (sp1 + 1) _ _ ls (by rw [i32_1 (by omega)]; omega) (by rw [i32_1 (by omega)]; have := i_lt c_29; have h3 : (2000 : Int32).toInt = 2000 := (by decide); omega) (by rw [← hF]; first | (simp only [roL, if_neg c_29, if_neg c_34, if_neg c_41, if_neg c_74, if_pos c_98, if_neg c_109]; done) | simp [roL, c_29, c_34, c_41, c_74, c_98, c_109]) hP hD hS (lv_sub hl [4, 5, 6, 7, 8, 0] rfl)
            · refine lv_aload_n hx hb d_U_followRows_77 rfl (lv_at hl 3 rfl) ?_
              refine lv_iload hx hb d_U_followRows_78 (lv_at hl 0 rfl) ?_
              refine goRl (va_runV (As := [.int (ee at1.toNatClampNeg)]) (rest := []) ⟨hx, hb, hml, hown, hts⟩ (c_U_load l D cI cL cO u0 u1 u2 hg_5 sp1 en_5 bb_5 g1 (ee at1.toNatClampNeg)) (cwV 1 hts (gBIG (m4 k_ml_U_63 k_im_U_load k_sel_U_load k_ini_U) k_co_U_load) rfl rfl rfl (by decide +kernel) ⟨Nat.le_of_ble_eq_true rfl, Nat.le_of_ble_eq_true rfl⟩) ⟨PR.bl, va_recv hK.1 (P_app.mpr ⟨(P_app.mp hP).1, (P_app.mp (P_app.mp hP).2).1⟩) (ci := 2) (q0 := 0) rfl rfl, PR.pre (P_app.mpr ⟨(P_app.mp hP).1, (P_app.mp (P_app.mp hP).2).1⟩) hK⟩ rfl rfl hl.1 rfl (lv_room (Nat.le_of_ble_eq_true rfl)) d_U_followRows_80 ⟨Nat.le_of_ble_eq_true rfl, Nat.le_of_ble_eq_true rfl⟩) ?_
              refine lv_lconst (v := 0) hx hb d_U_followRows_83 (by decide) ?_
              refine W.lcmp hx hb d_U_followRows_84 ?_
              refine lv_if_ne (tgt := 94) hx hb d_U_followRows_85 (by decide) (fun c_85 => ?_) (fun c_85 => ?_)
              · refine lv_iload hx hb d_U_followRows_94 (lv_at hl 2 rfl) ?_
                refine lv_bipush (v := 6) hx hb d_U_followRows_96 (by decide) ?_
                refine lv_icmp_ne (tgt := 126) hx hb d_U_followRows_98 (by decide) (fun c_98 => ?_) (fun c_98 => ?_)
                · refine lv_aload_n hx hb d_U_followRows_126 rfl (lv_at hl 3 rfl) ?_
                  refine lv_iload hx hb d_U_followRows_127 (lv_at hl 1 rfl) ?_
                  refine lv_aload_n hx hb d_U_followRows_129 rfl (lv_at hl 3 rfl) ?_
                  refine lv_iload hx hb d_U_followRows_130 (lv_at hl 2 rfl) ?_
                  refine lv_iload hx hb d_U_followRows_132 (lv_at hl 1 rfl) ?_
                  refine lv_iload hx hb d_U_followRows_134 (lv_at hl 0 rfl) ?_
                  refine goRl (va_runV (As := [.int (o at1.toNatClampNeg), .int (f at1.toNatClampNeg), .int (ee at1.toNatClampNeg)]) (rest := [.int (f at1.toNatClampNeg), .ref u0]) ⟨hx, hb, hml, hown, hts⟩ (c_U_resultOf l D cI cL cO u0 u1 u2 hg_5 sp1 en_5 bb_5 g1 (o at1.toNatClampNeg) (f at1.toNatClampNeg) (ee at1.toNatClampNeg)) (cwV 3 hts (gBIG (m4 k_ml_U_67 k_im_U_resultOf k_sel_U_resultOf k_ini_U) k_co_U_resultOf) rfl rfl rfl (by decide +kernel) ⟨Nat.le_of_ble_eq_true rfl, Nat.le_of_ble_eq_true rfl⟩) ⟨PR.bl, va_recv hK.1 (P_app.mpr ⟨(P_app.mp hP).1, (P_app.mp (P_app.mp hP).2).1⟩) (ci := 2) (q0 := 0) rfl rfl, PR.pre (P_app.mpr ⟨(P_app.mp hP).1, (P_app.mp (P_app.mp hP).2).1⟩) hK⟩ rfl rfl hl.1 rfl (lv_room (Nat.le_of_ble_eq_true rfl)) d_U_followRows_136 ⟨Nat.le_of_ble_eq_true rfl, Nat.le_of_ble_eq_true rfl⟩) ?_
                  refine goMv (va_runV (As := [.int (f at1.toNatClampNeg), .long (resF g1 (o at1.toNatClampNeg) (f at1.toNatClampNeg) (ee at1.toNatClampNeg))]) (rest := []) ⟨hx, hb, hml, hown, hts⟩ (c_U_store l D cI cL cO u0 u1 u2 hg_5 sp1 en_5 bb_5 g1 ((wB cI h0 q1 q2 q3 q4 q5 o f ee t b ic bc sa gn) ++ fr) (f at1.toNatClampNeg) (resF g1 (o at1.toNatClampNeg) (f at1.toNatClampNeg) (ee at1.toNatClampNeg)) H.size) (cwV 2 hts (gBIG (m4 k_ml_U_71 k_im_U_store k_sel_U_store k_ini_U) k_co_U_store) rfl rfl rfl (by decide +kernel) ⟨Nat.le_of_ble_eq_true rfl, Nat.le_of_ble_eq_true rfl⟩) ⟨PM.bl, va_recv hK.1 hP (ci := 2) (q0 := 0) rfl rfl, PM.pre hP hD hK⟩ rfl rfl hl.1 rfl (lv_room (Nat.le_of_ble_eq_true rfl)) d_U_followRows_139 ⟨Nat.le_of_ble_eq_true rfl, Nat.le_of_ble_eq_true rfl⟩) hD hS hA (fun u H locs hw hP hD hS => ?_)
                  obtain ⟨g_139, rfl⟩ : ∃ z, z = u := ⟨_, rfl⟩
                  have e_139 : g_139 = stF g1 (f at1.toNatClampNeg) (resF g1 (o at1.toNatClampNeg) (f at1.toNatClampNeg) (ee at1.toNatClampNeg)) := hw
                  have hP : va_P D vwCl ((wU u0 u1 u2 hg_5 sp1 en_5 bb_5) ++ ((wL4 cL u1 g_139) ++ ((wB cI h0 q1 q2 q3 q4 q5 o f ee t b ic bc sa gn) ++ fr))) H := hP
                  have hD : va_D A ((wU u0 u1 u2 hg_5 sp1 en_5 bb_5) ++ ((wL4 cL u1 g_139) ++ ((wB cI h0 q1 q2 q3 q4 q5 o f ee t b ic bc sa gn) ++ fr))) := hD
                  refine lv_iinc (v := at1 + 1) (lv' := [(7, .int (at1 + 1)), (10, .int (ee at1.toNatClampNeg)), (9, .int (f at1.toNatClampNeg)), (8, .int (o at1.toNatClampNeg)), (0, .ref u0), (1, .ref h0), (2, .long x), (4, .long y), (6, .int (minF ic 60))]) hx hb d_U_followRows_142 hl (k := 8) rfl rfl (by decide) rfl (fun ls hl => ?_)
                  refine lv_aload_n hx hb d_U_followRows_145 rfl (lv_at hl 4 rfl) ?_
                  refine lv_dup hx hb d_U_followRows_146 rfl ?_
                  refine va_get (ci := 2) (v := .int sp1) (C := R_U) (T := T_U) (N := 6) hx hb ht in_U hown hK.1 hP 0 rfl rfl 3 (by decide) (ht _ k_fl_U_31) (fun _ h9 => h9) rfl d_U_followRows_147 ?_
                  refine lv_iconst (v := 1) hx hb d_U_followRows_150 (by decide) ?_
                  refine lv_iadd hx hb d_U_followRows_151 ?_
                  refine va_put (ci := 2) (v := .int (sp1 + 1)) (ty := .int) (C := R_U) (T := T_U) (N := 6) hx hb ht in_U t_U t_U_ok n_U hown hK.1 hP hD hS 0 rfl rfl 3 (by decide) (ht _ k_fl_U_31) (fun _ h9 => h9) rfl (by decide +kernel) rfl rfl (Nat.le_of_ble_eq_true rfl) d_U_followRows_152 (fun H locs hP hD hS => ?_)
                  have hP : va_P D vwCl ((wU u0 u1 u2 hg_5 (sp1 + 1) en_5 bb_5) ++ ((wL4 cL u1 g_139) ++ ((wB cI h0 q1 q2 q3 q4 q5 o f ee t b ic bc sa gn) ++ fr))) H := hP
                  have hD : va_D A ((wU u0 u1 u2 hg_5 (sp1 + 1) en_5 bb_5) ++ ((wL4 cL u1 g_139) ++ ((wB cI h0 q1 q2 q3 q4 q5 o f ee t b ic bc sa gn) ++ fr))) := hD
                  refine lv_goto (tgt := 22) hx hb d_U_followRows_155 (by decide) ?_
                  exact ih (at1 + 1) g_139 (sp1 + 1) _ _ ls (by rw [i32_1 (by omega)]; omega) (by rw [i32_1 (by omega)]; have := i_lt c_29; have h3 : (2000 : Int32).toInt = 2000 := (by decide); omega) (by rw [e_139, ← hF]; first | (simp only [roL, if_neg c_29, if_neg c_34, if_neg c_41, if_pos c_74, if_neg c_85, if_neg c_98]; done) | simp [roL, c_29, c_34, c_41, c_74, c_85, c_98]) hP hD hS (lv_sub hl [4, 5, 6, 7, 8, 0] rfl)
                · refine lv_aload_n hx hb d_U_followRows_101 rfl (lv_at hl 3 rfl) ?_
                  refine lv_iload hx hb d_U_followRows_102 (lv_at hl 1 rfl) ?_
                  refine goRl (va_runV (As := [.int (f at1.toNatClampNeg)]) (rest := []) ⟨hx, hb, hml, hown, hts⟩ (c_U_load l D cI cL cO u0 u1 u2 hg_5 sp1 en_5 bb_5 g1 (f at1.toNatClampNeg)) (cwV 1 hts (gBIG (m4 k_ml_U_63 k_im_U_load k_sel_U_load k_ini_U) k_co_U_load) rfl rfl rfl (by decide +kernel) ⟨Nat.le_of_ble_eq_true rfl, Nat.le_of_ble_eq_true rfl⟩) ⟨PR.bl, va_recv hK.1 (P_app.mpr ⟨(P_app.mp hP).1, (P_app.mp (P_app.mp hP).2).1⟩) (ci := 2) (q0 := 0) rfl rfl, PR.pre (P_app.mpr ⟨(P_app.mp hP).1, (P_app.mp (P_app.mp hP).2).1⟩) hK⟩ rfl rfl hl.1 rfl (lv_room (Nat.le_of_ble_eq_true rfl)) d_U_followRows_104 ⟨Nat.le_of_ble_eq_true rfl, Nat.le_of_ble_eq_true rfl⟩) ?_
                  refine lv_lconst (v := 0) hx hb d_U_followRows_107 (by decide) ?_
                  refine W.lcmp hx hb d_U_followRows_108 ?_
                  refine lv_if_eq (tgt := 117) hx hb d_U_followRows_109 (by decide) (fun c_109 => ?_) (fun c_109 => ?_)
                  · refine lv_iload hx hb d_U_followRows_117 (lv_at hl 8 rfl) ?_
                    refine lv_iconst (v := 1) hx hb d_U_followRows_119 (by decide) ?_
                    refine lv_iadd hx hb d_U_followRows_120 ?_
                    refine lv_istore (lv' := [(7, .int (at1 + 1)), (10, .int (ee at1.toNatClampNeg)), (9, .int (f at1.toNatClampNeg)), (8, .int (o at1.toNatClampNeg)), (0, .ref u0), (1, .ref h0), (2, .long x), (4, .long y), (6, .int (minF ic 60))]) hx hb d_U_followRows_121 hl (by decide) rfl (fun ls hl => ?_)
                    refine lv_goto (tgt := 145) hx hb d_U_followRows_123 (by decide) ?_
                    refine lv_aload_n hx hb d_U_followRows_145 rfl (lv_at hl 4 rfl) ?_
                    refine lv_dup hx hb d_U_followRows_146 rfl ?_
                    refine va_get (ci := 2) (v := .int sp1) (C := R_U) (T := T_U) (N := 6) hx hb ht in_U hown hK.1 hP 0 rfl rfl 3 (by decide) (ht _ k_fl_U_31) (fun _ h9 => h9) rfl d_U_followRows_147 ?_
                    refine lv_iconst (v := 1) hx hb d_U_followRows_150 (by decide) ?_
                    refine lv_iadd hx hb d_U_followRows_151 ?_
                    refine va_put (ci := 2) (v := .int (sp1 + 1)) (ty := .int) (C := R_U) (T := T_U) (N := 6) hx hb ht in_U t_U t_U_ok n_U hown hK.1 hP hD hS 0 rfl rfl 3 (by decide) (ht _ k_fl_U_31) (fun _ h9 => h9) rfl (by decide +kernel) rfl rfl (Nat.le_of_ble_eq_true rfl) d_U_followRows_152 (fun H locs hP hD hS => ?_)
                    have hP : va_P D vwCl ((wU u0 u1 u2 hg_5 (sp1 + 1) en_5 bb_5) ++ ((wL4 cL u1 g1) ++ ((wB cI h0 q1 q2 q3 q4 q5 o f ee t b ic bc sa gn) ++ fr))) H := hP
                    have hD : va_D A ((wU u0 u1 u2 hg_5 (sp1 + 1) en_5 bb_5) ++ ((wL4 cL u1 g1) ++ ((wB cI h0 q1 q2 q3 q4 q5 o f ee t b ic bc sa gn) ++ fr))) := hD
                    refine lv_goto (tgt := 22) hx hb d_U_followRows_155 (by decide) ?_
                    exact ih (at1 + 1) g1 (sp1 + 1) _ _ ls (by rw [i32_1 (by omega)]; omega) (by rw [i32_1 (by omega)]; have := i_lt c_29; have h3 : (2000 : Int32).toInt = 2000 := (by decide); omega) (by rw [← hF]; first | (simp only [roL, if_neg c_29, if_neg c_34, if_neg c_41, if_pos c_74, if_neg c_85, if_pos c_98, if_pos c_109]; done) | simp [roL, c_29, c_34, c_41, c_74, c_85, c_98, c_109]) hP hD hS (lv_sub hl [4, 5, 6, 7, 8, 0] rfl)
                  · refine lv_iload hx hb d_U_followRows_112 (lv_at hl 0 rfl) ?_
                    refine lv_goto (tgt := 121) hx hb d_U_followRows_114 (by decide) ?_
                    refine lv_istore (lv' := [(7, .int (ee at1.toNatClampNeg)), (10, .int (ee at1.toNatClampNeg)), (9, .int (f at1.toNatClampNeg)), (8, .int (o at1.toNatClampNeg)), (0, .ref u0), (1, .ref h0), (2, .long x), (4, .long y), (6, .int (minF ic 60))]) hx hb d_U_followRows_121 hl (by decide) rfl (fun ls hl => ?_)
                    refine lv_goto (tgt := 145) hx hb d_U_followRows_123 (by decide) ?_
                    refine lv_aload_n hx hb d_U_followRows_145 rfl (lv_at hl 4 rfl) ?_
                    refine lv_dup hx hb d_U_followRows_146 rfl ?_
                    refine va_get (ci := 2) (v := .int sp1) (C := R_U) (T := T_U) (N := 6) hx hb ht in_U hown hK.1 hP 0 rfl rfl 3 (by decide) (ht _ k_fl_U_31) (fun _ h9 => h9) rfl d_U_followRows_147 ?_
                    refine lv_iconst (v := 1) hx hb d_U_followRows_150 (by decide) ?_
                    refine lv_iadd hx hb d_U_followRows_151 ?_
                    refine va_put (ci := 2) (v := .int (sp1 + 1)) (ty := .int) (C := R_U) (T := T_U) (N := 6) hx hb ht in_U t_U t_U_ok n_U hown hK.1 hP hD hS 0 rfl rfl 3 (by decide) (ht _ k_fl_U_31) (fun _ h9 => h9) rfl (by decide +kernel) rfl rfl (Nat.le_of_ble_eq_true rfl) d_U_followRows_152 (fun H locs hP hD hS => ?_)
                    have hP : va_P D vwCl ((wU u0 u1 u2 hg_5 (sp1 + 1) en_5 bb_5) ++ ((wL4 cL u1 g1) ++ ((wB cI h0 q1 q2 q3 q4 q5 o f ee t b ic bc sa gn) ++ fr))) H := hP
                    have hD : va_D A ((wU u0 u1 u2 hg_5 (sp1 + 1) en_5 bb_5) ++ ((wL4 cL u1 g1) ++ ((wB cI h0 q1 q2 q3 q4 q5 o f ee t b ic bc sa gn) ++ fr))) := hD
                    refine lv_goto (tgt := 22) hx hb d_U_followRows_155 (by decide) ?_
                    exact ih (ee at1.toNatClampNeg) g1 (sp1 + 1) _ _ ls (by rw [i32_1 (by omega)]; omega) (by rw [i32_1 (by omega)]; have := i_lt c_29; have h3 : (2000 : Int32).toInt = 2000 := (by decide); omega) (by rw [← hF]; first | (simp only [roL, if_neg c_29, if_neg c_34, if_neg c_41, if_pos c_74, if_neg c_85, if_pos c_98, if_neg c_109]; done) | simp [roL, c_29, c_34, c_41, c_74, c_85, c_98, c_109]) hP hD hS (lv_sub hl [4, 5, 6, 7, 8, 0] rfl)
              · refine lv_aload_n hx hb d_U_followRows_88 rfl (lv_at hl 3 rfl) ?_
                refine lv_iconst (v := 1) hx hb d_U_followRows_89 (by decide) ?_
                refine va_put (ci := 2) (v := .int 1) (ty := .int) (C := R_U) (T := T_U) (N := 6) hx hb ht in_U t_U t_U_ok n_U hown hK.1 hP hD hS 0 rfl rfl 4 (by decide) (ht _ k_fl_U_18) (fun _ h9 => h9) rfl (by decide +kernel) rfl rfl (Nat.le_of_ble_eq_true rfl) d_U_followRows_90 (fun H locs hP hD hS => ?_)
                have hP : va_P D vwCl ((wU u0 u1 u2 hg_5 sp1 1 bb_5) ++ ((wL4 cL u1 g1) ++ ((wB cI h0 q1 q2 q3 q4 q5 o f ee t b ic bc sa gn) ++ fr))) H := hP
                have hD : va_D A ((wU u0 u1 u2 hg_5 sp1 1 bb_5) ++ ((wL4 cL u1 g1) ++ ((wB cI h0 q1 q2 q3 q4 q5 o f ee t b ic bc sa gn) ++ fr))) := hD
                rw [hQ]; exact retMv (w1 := fun u : FL × Int32 × Int32 × Int32 × Int32 => ((wU u0 u1 u2 u.2.1 u.2.2.1 u.2.2.2.1 u.2.2.2.2) ++ ((wL4 cL u1 u.1) ++ ((wB cI h0 q1 q2 q3 q4 q5 o f ee t b ic bc sa gn) ++ fr)))) (g1, hg_5, sp1, 1, bb_5) hx hb hr hlocks hP hD hS ⟨by rw [← hF]; first | (simp only [roL, if_neg c_29, if_neg c_34, if_neg c_41, if_pos c_74, if_pos c_85]; done) | simp [roL, c_29, c_34, c_41, c_74, c_85], eh, eb⟩ d_U_followRows_93
  exact lp 2001 0 g_5 sp_5 _ _ ls (by rw [es9]; decide) (by rw [es9]; decide) (by rw [eg, es9]; rfl) hP hD hS (lv_sub hl [2, 3, 4, 5, 1, 0] rfl)
end
section
abbrev w_U_followBytes : List Cond := .code y_U_followBytes b_U_followBytes 9 none :: BIG
set_option maxHeartbeats 4000000 in
set_option maxRecDepth 100000 in
theorem c_U_followBytes (l : Launch) (D : va_G) (cI cL cO : ClassId) (u0 : Nat) (u1 : Nat) (u2 : Nat) (hg : Int32) (sp : Int32) (en : Int32) (bb : Int32) (g : FL) (pl : FL) (h0 : Nat) (q1 : Nat) (q2 : Nat) (q3 : Nat) (q4 : Nat) (q5 : Nat) (o : Fn) (f : Fn) (ee : Fn) (t : Fn) (b : Fn) (ic : Int32) (bc : Int32) (sa : Int32) (gn : Int32) (fr : va_W) (x : Int64) (y : Int64) : CMv l y_U_followBytes w_U_followBytes ({ frames := 5, cells := 0, slots := 0, locals := 107 }) D cI cL cO [.ref u0, .ref h0, .long x, .long y] ((wU u0 u1 u2 hg sp en bb) ++ ((wL4 cL u1 g) ++ ((wL4 cL u2 pl) ++ ((wB cI h0 q1 q2 q3 q4 q5 o f ee t b ic bc sa gn) ++ fr)))) (fun u : FL × FL × Int32 × Int32 × Int32 × Int32 => (u.1, (u.2.1, u.2.2.1), u.2.2.2.1, u.2.2.2.2.1) = byF b bc x y pl ∧ u.2.2.2.2.2 = 1) (fun u : FL × FL × Int32 × Int32 × Int32 × Int32 => ((wU u0 u1 u2 u.2.2.1 u.2.2.2.1 u.2.2.2.2.1 u.2.2.2.2.2) ++ ((wL4 cL u1 u.1) ++ ((wL4 cL u2 u.2.1) ++ ((wB cI h0 q1 q2 q3 q4 q5 o f ee t b ic bc sa gn) ++ fr))))) 0 0 := by
  refine ofMv (cc := b_U_followBytes) (maxL := 9) (ret := none) (by decide) rfl (Nat.le_of_ble_eq_true rfl) ?_
  intro p e s m below meth c A ls H Q hQ hx hb hr hlocks hin hts hown hml hP hK hD hS hA hl
  have hl : lv_has ls 9 [(0, .ref u0), (1, .ref h0), (2, .long x), (4, .long y)] := hl
  have hown : s.vm.findClass R_U = some m.cls := hown
  have ht : ∀ w ∈ BIG, w.before _ s = true := fun w h => hts w (List.mem_cons_of_mem _ h)
  refine lv_aload_n hx hb d_U_followBytes_0 rfl (lv_at hl 0 rfl) ?_
  refine lv_lload_n hx hb d_U_followBytes_1 rfl (lv_at hl 2 rfl) ?_
  refine lv_lload hx hb d_U_followBytes_2 (lv_at hl 3 rfl) ?_
  refine lv_iconst (v := 1) hx hb d_U_followBytes_4 (by decide) ?_
  refine goMv (va_runV (As := [.long x, .long y, .int 1]) (rest := []) ⟨hx, hb, hml, hown, hts⟩ (c_U_begin l D cI cL cO u0 u1 u2 hg sp en bb g ((wL4 cL u2 pl) ++ ((wB cI h0 q1 q2 q3 q4 q5 o f ee t b ic bc sa gn) ++ fr)) x y 1 rfl rfl H.size) (cwV 3 hts (gBIG (m4 k_ml_U_38 k_im_U_begin k_sel_U_begin k_ini_U) k_co_U_begin) rfl rfl rfl (by decide +kernel) ⟨Nat.le_of_ble_eq_true rfl, Nat.le_of_ble_eq_true rfl⟩) ⟨PM.bl, va_recv hK.1 hP (ci := 2) (q0 := 0) rfl rfl, PM.pre hP hD hK⟩ rfl rfl hl.1 rfl (lv_room (Nat.le_of_ble_eq_true rfl)) d_U_followBytes_5 ⟨Nat.le_of_ble_eq_true rfl, Nat.le_of_ble_eq_true rfl⟩) hD hS hA (fun u H locs hw hP hD hS => ?_)
  obtain ⟨g_5, hg_5, sp_5, en_5, bb_5⟩ := u
  have e_5 : (g_5, hg_5, sp_5, en_5, bb_5) = (begR x y, 0, 0, 0, 1) := hw
  have hP : va_P D vwCl ((wU u0 u1 u2 hg_5 sp_5 en_5 bb_5) ++ ((wL4 cL u1 g_5) ++ ((wL4 cL u2 pl) ++ ((wB cI h0 q1 q2 q3 q4 q5 o f ee t b ic bc sa gn) ++ fr)))) H := hP
  have hD : va_D A ((wU u0 u1 u2 hg_5 sp_5 en_5 bb_5) ++ ((wL4 cL u1 g_5) ++ ((wL4 cL u2 pl) ++ ((wB cI h0 q1 q2 q3 q4 q5 o f ee t b ic bc sa gn) ++ fr)))) := hD
  obtain ⟨eg, eh, es9, ee9, eb⟩ : g_5 = begR x y ∧ hg_5 = 0 ∧ sp_5 = 0 ∧ en_5 = 0 ∧ bb_5 = 1 := by simpa only [Prod.mk.injEq] using e_5
  refine lv_iconst (v := 0) hx hb d_U_followBytes_8 (by decide) ?_
  refine lv_istore (lv' := [(6, .int 0), (0, .ref u0), (1, .ref h0), (2, .long x), (4, .long y)]) hx hb d_U_followBytes_9 hl (by decide) rfl (fun ls hl => ?_)
  refine lv_iconst (v := 0) hx hb d_U_followBytes_11 (by decide) ?_
  refine lv_istore (lv' := [(7, .int 0), (6, .int 0), (0, .ref u0), (1, .ref h0), (2, .long x), (4, .long y)]) hx hb d_U_followBytes_12 hl (by decide) rfl (fun ls hl => ?_)
  have lp : ∀ (n : Nat) (at1 : Int32) (k : Int32) (g1 : FL) (p1 : FL) (hg1 : Int32) (sp1 : Int32) (H : Heap) (locs : List Loc) (ls : Array Slot), (k.toInt + (n : Int) = 600301) → (0 ≤ k.toInt ∧ k.toInt ≤ 600300) → (0 ≤ hg1.toInt ∧ hg1.toInt ≤ 4) → (byL b bc n k at1 g1 (p1, hg1) sp1 = byF b bc x y pl) → va_P D vwCl ((wU u0 u1 u2 hg1 sp1 en_5 bb_5) ++ ((wL4 cL u1 g1) ++ ((wL4 cL u2 p1) ++ ((wB cI h0 q1 q2 q3 q4 q5 o f ee t b ic bc sa gn) ++ fr)))) H → va_D A ((wU u0 u1 u2 hg1 sp1 en_5 bb_5) ++ ((wL4 cL u1 g1) ++ ((wL4 cL u2 p1) ++ ((wB cI h0 q1 q2 q3 q4 q5 o f ee t b ic bc sa gn) ++ fr)))) → va_S A s.heap H locs → lv_has ls 9 [(0, .ref u0), (1, .ref h0), (2, .long x), (4, .long y), (6, .int at1), (7, .int k)] → W p l e ({ frames := 5, cells := 0, slots := 0, locals := 107 } : Room) s m ([.ref u0, .ref h0, .long x, .long y] : List Value).toArray below meth c H locs 0 0 Q (F0 m 14 ls []) := by
    intro n
    induction n with
    | zero =>
      intro at1 k g1 p1 hg1 sp1 H locs ls hn hi hh hF hP hD hS hl
      exact absurd hn (by omega)
    | succ n ih =>
      intro at1 k g1 p1 hg1 sp1 H locs ls hn hi hh hF hP hD hS hl
      refine lv_iload hx hb d_U_followBytes_14 (lv_at hl 5 rfl) ?_
      refine lv_ldc (v := 600300) hx hb hown (ht _ k_ct_U_79) d_U_followBytes_16 ?_
      refine lv_icmp_ge (tgt := 87) hx hb d_U_followBytes_18 (by decide) (fun c_18 => ?_) (fun c_18 => ?_)
      · refine lv_aload_n hx hb d_U_followBytes_87 rfl (lv_at hl 0 rfl) ?_
        refine lv_iconst (v := 2) hx hb d_U_followBytes_88 (by decide) ?_
        refine va_put (ci := 2) (v := .int 2) (ty := .int) (C := R_U) (T := T_U) (N := 6) hx hb ht in_U t_U t_U_ok n_U hown hK.1 hP hD hS 0 rfl rfl 4 (by decide) (ht _ k_fl_U_18) (fun _ h9 => h9) rfl (by decide +kernel) rfl rfl (Nat.le_of_ble_eq_true rfl) d_U_followBytes_89 (fun H locs hP hD hS => ?_)
        have hP : va_P D vwCl ((wU u0 u1 u2 hg1 sp1 2 bb_5) ++ ((wL4 cL u1 g1) ++ ((wL4 cL u2 p1) ++ ((wB cI h0 q1 q2 q3 q4 q5 o f ee t b ic bc sa gn) ++ fr)))) H := hP
        have hD : va_D A ((wU u0 u1 u2 hg1 sp1 2 bb_5) ++ ((wL4 cL u1 g1) ++ ((wL4 cL u2 p1) ++ ((wB cI h0 q1 q2 q3 q4 q5 o f ee t b ic bc sa gn) ++ fr)))) := hD
        rw [hQ]; exact retMv (w1 := fun u : FL × FL × Int32 × Int32 × Int32 × Int32 => ((wU u0 u1 u2 u.2.2.1 u.2.2.2.1 u.2.2.2.2.1 u.2.2.2.2.2) ++ ((wL4 cL u1 u.1) ++ ((wL4 cL u2 u.2.1) ++ ((wB cI h0 q1 q2 q3 q4 q5 o f ee t b ic bc sa gn) ++ fr))))) (g1, p1, hg1, sp1, 2, bb_5) hx hb hr hlocks hP hD hS ⟨by rw [← hF]; first | (simp only [byL, ee9, if_pos c_18]; done) | simp [byL, ee9, c_18], eb⟩ d_U_followBytes_92
      · refine lv_aload_n hx hb d_U_followBytes_21 rfl (lv_at hl 1 rfl) ?_
        refine lv_iload hx hb d_U_followBytes_22 (lv_at hl 4 rfl) ?_
        refine goRi (va_runVN (As := [.int at1]) (rest := []) ⟨hx, hb, hml, hown, hts⟩ (c_B_read l D cI cL cO h0 q1 q2 q3 q4 q5 o f ee t b ic bc sa gn at1) ⟨va_cnB 1 hts (gB0 k_co_B_read) rfl rfl rfl (hK.2 _ n_ml_U_80) (ht _ k_ini_B) (by decide +kernel) ⟨Nat.le_of_ble_eq_true rfl, Nat.le_of_ble_eq_true rfl⟩, ht _ k_im_B_read, ht _ k_sel_B_read⟩ ⟨PR.bl, va_recv hK.1 ((P_app.mp (P_app.mp (P_app.mp (P_app.mp hP).2).2).2).1) (ci := 0) (q0 := 0) rfl rfl, PR.pre ((P_app.mp (P_app.mp (P_app.mp (P_app.mp hP).2).2).2).1) hK⟩ rfl rfl hl.1 rfl (lv_room (Nat.le_of_ble_eq_true rfl)) d_U_followBytes_24 ⟨Nat.le_of_ble_eq_true rfl, Nat.le_of_ble_eq_true rfl⟩) ?_
        refine lv_istore (lv' := [(8, .int (rdF b bc at1)), (0, .ref u0), (1, .ref h0), (2, .long x), (4, .long y), (6, .int at1), (7, .int k)]) hx hb d_U_followBytes_27 hl (by decide) rfl (fun ls hl => ?_)
        refine lv_iload hx hb d_U_followBytes_29 (lv_at hl 0 rfl) ?_
        refine lv_bipush (v := 10) hx hb d_U_followBytes_31 (by decide) ?_
        refine lv_icmp_ne (tgt := 37) hx hb d_U_followBytes_33 (by decide) (fun c_33 => ?_) (fun c_33 => ?_)
        · refine lv_aload_n hx hb d_U_followBytes_37 rfl (lv_at hl 1 rfl) ?_
          refine va_get (ci := 2) (v := .int sp1) (C := R_U) (T := T_U) (N := 6) hx hb ht in_U hown hK.1 hP 0 rfl rfl 3 (by decide) (ht _ k_fl_U_31) (fun _ h9 => h9) rfl d_U_followBytes_38 ?_
          refine lv_sipush (v := 2000) hx hb d_U_followBytes_41 (by decide) ?_
          refine lv_icmp_lt (tgt := 50) hx hb d_U_followBytes_44 (by decide) (fun c_44 => ?_) (fun c_44 => ?_)
          · refine lv_iload hx hb d_U_followBytes_50 (lv_at hl 0 rfl) ?_
            refine lv_bipush (v := 7) hx hb d_U_followBytes_52 (by decide) ?_
            refine lv_icmp_ne (tgt := 70) hx hb d_U_followBytes_54 (by decide) (fun c_54 => ?_) (fun c_54 => ?_)
            · refine lv_aload_n hx hb d_U_followBytes_70 rfl (lv_at hl 1 rfl) ?_
              refine lv_aload_n hx hb d_U_followBytes_71 rfl (lv_at hl 2 rfl) ?_
              refine lv_iload hx hb d_U_followBytes_72 (lv_at hl 5 rfl) ?_
              refine lv_iload hx hb d_U_followBytes_74 (lv_at hl 0 rfl) ?_
              refine goMi (va_runV (As := [.ref h0, .int at1, .int (rdF b bc at1)]) (rest := []) ⟨hx, hb, hml, hown, hts⟩ (c_U_follow l D cI cL cO u0 u1 u2 hg1 sp1 en_5 bb_5 g1 p1 h0 q1 q2 q3 q4 q5 o f ee t b ic bc sa gn fr at1 (rdF b bc at1) hh H.size) (cwV 3 hts (gBIG (m4 k_ml_U_88 k_im_U_follow k_sel_U_follow k_ini_U) k_co_U_follow) rfl rfl rfl (by decide +kernel) ⟨Nat.le_of_ble_eq_true rfl, Nat.le_of_ble_eq_true rfl⟩) ⟨PM.bl, va_recv hK.1 hP (ci := 2) (q0 := 0) rfl rfl, PM.pre hP hD hK⟩ rfl rfl hl.1 rfl (lv_room (Nat.le_of_ble_eq_true rfl)) d_U_followBytes_76 ⟨Nat.le_of_ble_eq_true rfl, Nat.le_of_ble_eq_true rfl⟩) hD hS hA (fun r_76 u H locs hw hP hD hS => ?_)
              obtain ⟨g_76, pl_76, hg_76, sp_76⟩ := u
              have e_76 : (r_76, g_76, (pl_76, hg_76), sp_76) = foF b bc at1 (rdF b bc at1) g1 (p1, hg1) sp1 ∧ (0 ≤ (g_76, pl_76, hg_76, sp_76).2.2.1.toInt ∧ (g_76, pl_76, hg_76, sp_76).2.2.1.toInt ≤ 4) := hw
              have hP : va_P D vwCl ((wU u0 u1 u2 hg_76 sp_76 en_5 bb_5) ++ ((wL4 cL u1 g_76) ++ ((wL4 cL u2 pl_76) ++ ((wB cI h0 q1 q2 q3 q4 q5 o f ee t b ic bc sa gn) ++ fr)))) H := hP
              have hD : va_D A ((wU u0 u1 u2 hg_76 sp_76 en_5 bb_5) ++ ((wL4 cL u1 g_76) ++ ((wL4 cL u2 pl_76) ++ ((wB cI h0 q1 q2 q3 q4 q5 o f ee t b ic bc sa gn) ++ fr)))) := hD
              refine lv_istore (lv' := [(6, .int r_76), (8, .int (rdF b bc at1)), (0, .ref u0), (1, .ref h0), (2, .long x), (4, .long y), (7, .int k)]) hx hb d_U_followBytes_79 hl (by decide) rfl (fun ls hl => ?_)
              refine lv_iinc (v := k + 1) (lv' := [(7, .int (k + 1)), (6, .int r_76), (8, .int (rdF b bc at1)), (0, .ref u0), (1, .ref h0), (2, .long x), (4, .long y)]) hx hb d_U_followBytes_81 hl (k := 6) rfl rfl (by decide) rfl (fun ls hl => ?_)
              refine lv_goto (tgt := 14) hx hb d_U_followBytes_84 (by decide) ?_
              exact ih r_76 (k + 1) g_76 pl_76 hg_76 sp_76 _ _ ls (by rw [i32_1 (by omega)]; omega) (by rw [i32_1 (by omega)]; have := i_lt c_18; have h3 : (600300 : Int32).toInt = 600300 := (by decide); omega) e_76.2 (by rw [← hF]; first | (simp only [byL, ← e_76.1, if_neg c_18, if_neg c_33, if_pos c_44, if_neg c_54]; done) | simp [byL, ← e_76.1, c_18, c_33, c_44, c_54]) hP hD hS (lv_sub hl [3, 4, 5, 6, 1, 0] rfl)
            · refine lv_aload_n hx hb d_U_followBytes_57 rfl (lv_at hl 1 rfl) ?_
              refine goRi (va_runV (As := []) (rest := []) ⟨hx, hb, hml, hown, hts⟩ (c_U_topIsZero l D cI cL cO u0 u1 u2 hg1 sp1 en_5 bb_5 p1 hh) (cwV 0 hts (gBIG (m4 k_ml_U_84 k_im_U_topIsZero k_sel_U_topIsZero k_ini_U) k_co_U_topIsZero) rfl rfl rfl (by decide +kernel) ⟨Nat.le_of_ble_eq_true rfl, Nat.le_of_ble_eq_true rfl⟩) ⟨PR.bl, va_recv hK.1 (P_app.mpr ⟨(P_app.mp hP).1, (P_app.mp (P_app.mp (P_app.mp hP).2).2).1⟩) (ci := 2) (q0 := 0) rfl rfl, PR.pre (P_app.mpr ⟨(P_app.mp hP).1, (P_app.mp (P_app.mp (P_app.mp hP).2).2).1⟩) hK⟩ rfl rfl hl.1 rfl (lv_room (Nat.le_of_ble_eq_true rfl)) d_U_followBytes_58 ⟨Nat.le_of_ble_eq_true rfl, Nat.le_of_ble_eq_true rfl⟩) ?_
              refine lv_if_eq (tgt := 70) hx hb d_U_followBytes_61 (by decide) (fun c_61 => ?_) (fun c_61 => ?_)
              · refine lv_aload_n hx hb d_U_followBytes_70 rfl (lv_at hl 1 rfl) ?_
                refine lv_aload_n hx hb d_U_followBytes_71 rfl (lv_at hl 2 rfl) ?_
                refine lv_iload hx hb d_U_followBytes_72 (lv_at hl 5 rfl) ?_
                refine lv_iload hx hb d_U_followBytes_74 (lv_at hl 0 rfl) ?_
                refine goMi (va_runV (As := [.ref h0, .int at1, .int (rdF b bc at1)]) (rest := []) ⟨hx, hb, hml, hown, hts⟩ (c_U_follow l D cI cL cO u0 u1 u2 hg1 sp1 en_5 bb_5 g1 p1 h0 q1 q2 q3 q4 q5 o f ee t b ic bc sa gn fr at1 (rdF b bc at1) hh H.size) (cwV 3 hts (gBIG (m4 k_ml_U_88 k_im_U_follow k_sel_U_follow k_ini_U) k_co_U_follow) rfl rfl rfl (by decide +kernel) ⟨Nat.le_of_ble_eq_true rfl, Nat.le_of_ble_eq_true rfl⟩) ⟨PM.bl, va_recv hK.1 hP (ci := 2) (q0 := 0) rfl rfl, PM.pre hP hD hK⟩ rfl rfl hl.1 rfl (lv_room (Nat.le_of_ble_eq_true rfl)) d_U_followBytes_76 ⟨Nat.le_of_ble_eq_true rfl, Nat.le_of_ble_eq_true rfl⟩) hD hS hA (fun r_76 u H locs hw hP hD hS => ?_)
                obtain ⟨g_76, pl_76, hg_76, sp_76⟩ := u
                have e_76 : (r_76, g_76, (pl_76, hg_76), sp_76) = foF b bc at1 (rdF b bc at1) g1 (p1, hg1) sp1 ∧ (0 ≤ (g_76, pl_76, hg_76, sp_76).2.2.1.toInt ∧ (g_76, pl_76, hg_76, sp_76).2.2.1.toInt ≤ 4) := hw
                have hP : va_P D vwCl ((wU u0 u1 u2 hg_76 sp_76 en_5 bb_5) ++ ((wL4 cL u1 g_76) ++ ((wL4 cL u2 pl_76) ++ ((wB cI h0 q1 q2 q3 q4 q5 o f ee t b ic bc sa gn) ++ fr)))) H := hP
                have hD : va_D A ((wU u0 u1 u2 hg_76 sp_76 en_5 bb_5) ++ ((wL4 cL u1 g_76) ++ ((wL4 cL u2 pl_76) ++ ((wB cI h0 q1 q2 q3 q4 q5 o f ee t b ic bc sa gn) ++ fr)))) := hD
                refine lv_istore (lv' := [(6, .int r_76), (8, .int (rdF b bc at1)), (0, .ref u0), (1, .ref h0), (2, .long x), (4, .long y), (7, .int k)]) hx hb d_U_followBytes_79 hl (by decide) rfl (fun ls hl => ?_)
                refine lv_iinc (v := k + 1) (lv' := [(7, .int (k + 1)), (6, .int r_76), (8, .int (rdF b bc at1)), (0, .ref u0), (1, .ref h0), (2, .long x), (4, .long y)]) hx hb d_U_followBytes_81 hl (k := 6) rfl rfl (by decide) rfl (fun ls hl => ?_)
                refine lv_goto (tgt := 14) hx hb d_U_followBytes_84 (by decide) ?_
                exact ih r_76 (k + 1) g_76 pl_76 hg_76 sp_76 _ _ ls (by rw [i32_1 (by omega)]; omega) (by rw [i32_1 (by omega)]; have := i_lt c_18; have h3 : (600300 : Int32).toInt = 600300 := (by decide); omega) e_76.2 (by rw [← hF]; first | (simp only [byL, ← e_76.1, if_neg c_18, if_neg c_33, if_pos c_44, if_pos c_54, if_pos c_61]; done) | simp [byL, ← e_76.1, c_18, c_33, c_44, c_54, c_61]) hP hD hS (lv_sub hl [3, 4, 5, 6, 1, 0] rfl)
              · refine lv_aload_n hx hb d_U_followBytes_64 rfl (lv_at hl 1 rfl) ?_
                refine lv_iconst (v := 1) hx hb d_U_followBytes_65 (by decide) ?_
                refine va_put (ci := 2) (v := .int 1) (ty := .int) (C := R_U) (T := T_U) (N := 6) hx hb ht in_U t_U t_U_ok n_U hown hK.1 hP hD hS 0 rfl rfl 4 (by decide) (ht _ k_fl_U_18) (fun _ h9 => h9) rfl (by decide +kernel) rfl rfl (Nat.le_of_ble_eq_true rfl) d_U_followBytes_66 (fun H locs hP hD hS => ?_)
                have hP : va_P D vwCl ((wU u0 u1 u2 hg1 sp1 1 bb_5) ++ ((wL4 cL u1 g1) ++ ((wL4 cL u2 p1) ++ ((wB cI h0 q1 q2 q3 q4 q5 o f ee t b ic bc sa gn) ++ fr)))) H := hP
                have hD : va_D A ((wU u0 u1 u2 hg1 sp1 1 bb_5) ++ ((wL4 cL u1 g1) ++ ((wL4 cL u2 p1) ++ ((wB cI h0 q1 q2 q3 q4 q5 o f ee t b ic bc sa gn) ++ fr)))) := hD
                rw [hQ]; exact retMv (w1 := fun u : FL × FL × Int32 × Int32 × Int32 × Int32 => ((wU u0 u1 u2 u.2.2.1 u.2.2.2.1 u.2.2.2.2.1 u.2.2.2.2.2) ++ ((wL4 cL u1 u.1) ++ ((wL4 cL u2 u.2.1) ++ ((wB cI h0 q1 q2 q3 q4 q5 o f ee t b ic bc sa gn) ++ fr))))) (g1, p1, hg1, sp1, 1, bb_5) hx hb hr hlocks hP hD hS ⟨by rw [← hF]; first | (simp only [byL, ee9, if_neg c_18, if_neg c_33, if_pos c_44, if_pos c_54, if_neg c_61]; done) | simp [byL, ee9, c_18, c_33, c_44, c_54, c_61], eb⟩ d_U_followBytes_69
          · refine lv_goto (tgt := 87) hx hb d_U_followBytes_47 (by decide) ?_
            refine lv_aload_n hx hb d_U_followBytes_87 rfl (lv_at hl 1 rfl) ?_
            refine lv_iconst (v := 2) hx hb d_U_followBytes_88 (by decide) ?_
            refine va_put (ci := 2) (v := .int 2) (ty := .int) (C := R_U) (T := T_U) (N := 6) hx hb ht in_U t_U t_U_ok n_U hown hK.1 hP hD hS 0 rfl rfl 4 (by decide) (ht _ k_fl_U_18) (fun _ h9 => h9) rfl (by decide +kernel) rfl rfl (Nat.le_of_ble_eq_true rfl) d_U_followBytes_89 (fun H locs hP hD hS => ?_)
            have hP : va_P D vwCl ((wU u0 u1 u2 hg1 sp1 2 bb_5) ++ ((wL4 cL u1 g1) ++ ((wL4 cL u2 p1) ++ ((wB cI h0 q1 q2 q3 q4 q5 o f ee t b ic bc sa gn) ++ fr)))) H := hP
            have hD : va_D A ((wU u0 u1 u2 hg1 sp1 2 bb_5) ++ ((wL4 cL u1 g1) ++ ((wL4 cL u2 p1) ++ ((wB cI h0 q1 q2 q3 q4 q5 o f ee t b ic bc sa gn) ++ fr)))) := hD
            rw [hQ]; exact retMv (w1 := fun u : FL × FL × Int32 × Int32 × Int32 × Int32 => ((wU u0 u1 u2 u.2.2.1 u.2.2.2.1 u.2.2.2.2.1 u.2.2.2.2.2) ++ ((wL4 cL u1 u.1) ++ ((wL4 cL u2 u.2.1) ++ ((wB cI h0 q1 q2 q3 q4 q5 o f ee t b ic bc sa gn) ++ fr))))) (g1, p1, hg1, sp1, 2, bb_5) hx hb hr hlocks hP hD hS ⟨by rw [← hF]; first | (simp only [byL, ee9, if_neg c_18, if_neg c_33, if_neg c_44]; done) | simp [byL, ee9, c_18, c_33, c_44], eb⟩ d_U_followBytes_92
        · rw [hQ]; exact retMv (w1 := fun u : FL × FL × Int32 × Int32 × Int32 × Int32 => ((wU u0 u1 u2 u.2.2.1 u.2.2.2.1 u.2.2.2.2.1 u.2.2.2.2.2) ++ ((wL4 cL u1 u.1) ++ ((wL4 cL u2 u.2.1) ++ ((wB cI h0 q1 q2 q3 q4 q5 o f ee t b ic bc sa gn) ++ fr))))) (g1, p1, hg1, sp1, en_5, bb_5) hx hb hr hlocks hP hD hS ⟨by rw [← hF]; first | (simp only [byL, ee9, if_neg c_18, if_pos c_33]; done) | simp [byL, ee9, c_18, c_33], eb⟩ d_U_followBytes_36
  exact lp 600301 0 0 g_5 pl hg_5 sp_5 _ _ ls (by decide) (by decide) (by rw [eh]; decide) (by rw [eg, eh, es9]; rfl) hP hD hS (lv_sub hl [2, 3, 4, 5, 1, 0] rfl)

abbrev w_U_didAs : List Cond := .code y_U_didAs b_U_didAs 3 (some .boolean) :: BIG
set_option maxHeartbeats 4000000 in
set_option maxRecDepth 100000 in
theorem c_U_didAs (l : Launch) (D : va_G) (cI cL cO : ClassId) (u0 : Nat) (u1 : Nat) (u2 : Nat) (hg : Int32) (sp : Int32) (en : Int32) (bb : Int32) (g : FL) (v0 : Nat) (v1 : Nat) (v2 : Nat) (hg2 : Int32) (sp2 : Int32) (en2 : Int32) (bb2 : Int32) (g2 : FL) : CRi l y_U_didAs w_U_didAs ({ frames := 0, cells := 0, slots := 0, locals := 0 }) D cI cL cO [.ref u0, .ref v0] ((wU u0 u1 u2 hg sp en bb) ++ ((wL4 cL u1 g) ++ ((wU v0 v1 v2 hg2 sp2 en2 bb2) ++ (wL4 cL v1 g2)))) (didL g g2 sp sp2 en en2 5 0) := by
  refine ofR (cc := b_U_didAs) (maxL := 3) (ret := (some .boolean)) (by decide) rfl (Nat.le_of_ble_eq_true rfl) ?_
  intro p e s m below meth c ls Q hQ hx hb hr hlocks hts hown hml hP hK hl
  have hl : lv_has ls 3 [(0, .ref u0), (1, .ref v0)] := hl
  have hown : s.vm.findClass R_U = some m.cls := hown
  have ht : ∀ w ∈ BIG, w.before _ s = true := fun w h => hts w (List.mem_cons_of_mem _ h)
  refine lv_iconst (v := 0) hx hb d_U_didAs_0 (by decide) ?_
  refine lv_istore_n (lv' := [(2, .int 0), (0, .ref u0), (1, .ref v0)]) hx hb d_U_didAs_1 rfl hl (by decide) rfl (fun ls hl => ?_)
  have lp : ∀ (n : Nat) (i : Int32) (ls : Array Slot), (i.toInt + (n : Int) = 5) → (0 ≤ i.toInt ∧ i.toInt ≤ 4) → (didL g g2 sp sp2 en en2 n i = didL g g2 sp sp2 en en2 5 0) → lv_has ls 3 [(0, .ref u0), (1, .ref v0), (2, .int i)] → W p l e ({ frames := 0, cells := 0, slots := 0, locals := 0 } : Room) s m ([.ref u0, .ref v0] : List Value).toArray below meth c s.heap [] 0 0 Q (F0 m 2 ls []) := by
    intro n
    induction n with
    | zero =>
      intro i ls hn hi hF hl
      exact absurd hn (by omega)
    | succ n ih =>
      intro i ls hn hi hF hl
      refine lv_iload_n hx hb d_U_didAs_2 rfl (lv_at hl 2 rfl) ?_
      refine lv_iconst (v := 4) hx hb d_U_didAs_3 (by decide) ?_
      refine lv_icmp_ge (tgt := 31) hx hb d_U_didAs_4 (by decide) (fun c_4 => ?_) (fun c_4 => ?_)
      · refine lv_aload_n hx hb d_U_didAs_31 rfl (lv_at hl 0 rfl) ?_
        refine va_get (ci := 2) (v := .int sp) (C := R_U) (T := T_U) (N := 6) hx hb ht in_U hown hK.1 hP 0 rfl rfl 3 (by decide) (ht _ k_fl_U_31) (fun _ h9 => h9) rfl d_U_didAs_32 ?_
        refine lv_aload_n hx hb d_U_didAs_35 rfl (lv_at hl 1 rfl) ?_
        refine va_get (ci := 2) (v := .int sp2) (C := R_U) (T := T_U) (N := 6) hx hb ht in_U hown hK.1 hP 2 rfl rfl 3 (by decide) (ht _ k_fl_U_31) (fun _ h9 => h9) rfl d_U_didAs_36 ?_
        refine lv_icmp_ne (tgt := 57) hx hb d_U_didAs_39 (by decide) (fun c_39 => ?_) (fun c_39 => ?_)
        · refine lv_iconst (v := 0) hx hb d_U_didAs_57 (by decide) ?_
          rw [hQ]; exact retRz hx hb hr hlocks rfl (by rw [← hF]; first | (simp only [didL, if_pos c_4, if_neg c_39]; done) | simp [didL, c_4, c_39]) d_U_didAs_58
        · refine lv_aload_n hx hb d_U_didAs_42 rfl (lv_at hl 0 rfl) ?_
          refine va_get (ci := 2) (v := .int en) (C := R_U) (T := T_U) (N := 6) hx hb ht in_U hown hK.1 hP 0 rfl rfl 4 (by decide) (ht _ k_fl_U_18) (fun _ h9 => h9) rfl d_U_didAs_43 ?_
          refine lv_aload_n hx hb d_U_didAs_46 rfl (lv_at hl 1 rfl) ?_
          refine va_get (ci := 2) (v := .int en2) (C := R_U) (T := T_U) (N := 6) hx hb ht in_U hown hK.1 hP 2 rfl rfl 4 (by decide) (ht _ k_fl_U_18) (fun _ h9 => h9) rfl d_U_didAs_47 ?_
          refine lv_icmp_ne (tgt := 57) hx hb d_U_didAs_50 (by decide) (fun c_50 => ?_) (fun c_50 => ?_)
          · refine lv_iconst (v := 0) hx hb d_U_didAs_57 (by decide) ?_
            rw [hQ]; exact retRz hx hb hr hlocks rfl (by rw [← hF]; first | (simp only [didL, if_pos c_4, if_pos c_39, if_neg c_50]; done) | simp [didL, c_4, c_39, c_50]) d_U_didAs_58
          · refine lv_iconst (v := 1) hx hb d_U_didAs_53 (by decide) ?_
            refine lv_goto (tgt := 58) hx hb d_U_didAs_54 (by decide) ?_
            rw [hQ]; exact retRz hx hb hr hlocks rfl (by rw [← hF]; first | (simp only [didL, if_pos c_4, if_pos c_39, if_pos c_50]; done) | simp [didL, c_4, c_39, c_50]) d_U_didAs_58
      · refine lv_aload_n hx hb d_U_didAs_7 rfl (lv_at hl 0 rfl) ?_
        refine va_get (ci := 2) (v := .ref u1) (C := R_U) (T := T_U) (N := 6) hx hb ht in_U hown hK.1 hP 0 rfl rfl 0 (by decide) (ht _ k_fl_U_9) (fun _ h9 => h9) rfl d_U_didAs_8 ?_
        refine lv_iload_n hx hb d_U_didAs_11 rfl (lv_at hl 2 rfl) ?_
        refine va_lald hx hb hK.1 hP 1 1 rfl rfl (in_of (N := 4) (by decide) (nn_of hi.1) c_4) d_U_didAs_12 ?_
        refine lv_aload_n hx hb d_U_didAs_13 rfl (lv_at hl 1 rfl) ?_
        refine va_get (ci := 2) (v := .ref v1) (C := R_U) (T := T_U) (N := 6) hx hb ht in_U hown hK.1 hP 2 rfl rfl 0 (by decide) (ht _ k_fl_U_9) (fun _ h9 => h9) rfl d_U_didAs_14 ?_
        refine lv_iload_n hx hb d_U_didAs_17 rfl (lv_at hl 2 rfl) ?_
        refine va_lald hx hb hK.1 hP 3 1 rfl rfl (in_of (N := 4) (by decide) (nn_of hi.1) c_4) d_U_didAs_18 ?_
        refine W.lcmp hx hb d_U_didAs_19 ?_
        refine lv_if_eq (tgt := 25) hx hb d_U_didAs_20 (by decide) (fun c_20 => ?_) (fun c_20 => ?_)
        · refine lv_iinc (v := i + 1) (lv' := [(2, .int (i + 1)), (0, .ref u0), (1, .ref v0)]) hx hb d_U_didAs_25 hl (k := 2) rfl rfl (by decide) rfl (fun ls hl => ?_)
          refine lv_goto (tgt := 2) hx hb d_U_didAs_28 (by decide) ?_
          exact ih (i + 1) ls (by rw [i32_1 (by omega)]; omega) (by rw [i32_1 (by omega)]; have := i_lt c_4; have h3 : (4 : Int32).toInt = 4 := (by decide); omega) (by rw [← hF]; first | (simp only [didL, if_neg c_4, if_pos c_20]; done) | simp [didL, c_4, c_20]) (lv_sub hl [1, 2, 0] rfl)
        · refine lv_iconst (v := 0) hx hb d_U_didAs_23 (by decide) ?_
          rw [hQ]; exact retRz hx hb hr hlocks rfl (by rw [← hF]; first | (simp only [didL, if_neg c_4, if_neg c_20]; done) | simp [didL, c_4, c_20]) d_U_didAs_24
  exact lp 5 0 ls (by decide) (by decide) rfl (lv_sub hl [1, 2, 0] rfl)
end
section
/-! the reference: one object and fourteen rows -/
def wZ (cI : ClassId) (cL : ClassId) (z0 : Nat) (y1 : Nat) (y2 : Nat) (y3 : Nat) (y4 : Nat) (y5 : Nat) (y6 : Nat) (y7 : Nat) (y8 : Nat) (y9 : Nat) (y10 : Nat) (y11 : Nat) (y12 : Nat) (y13 : Nat) (y14 : Nat) (mn : Fn) (oo : Fn) (oa : Fn) (ob : Fn) (ss : Fn) (gg : Fn) (zz : Fn) (md : Fn) (sd : Fn) (da : Fn) (rg : FL) (pp : FL) (kp : FL) (ot : FL) (th : Int32) (li : Int32) (bl : Int32) (nw : Int32) (wr : Int32) (ru : Int32) (al : Int32) (sp : Int32) (en : Int32) (ke : Int32) (kb : Int32) (at0 : Int32) : va_W := [(z0, .inr (5, [.int th, .int li, .int bl, .int nw, .int wr, .int ru, .int al, .ref y1, .ref y2, .ref y3, .ref y4, .ref y5, .ref y6, .ref y7, .ref y8, .ref y9, .ref y10, .ref y11, .ref y12, .int sp, .int en, .ref y13, .ref y14, .int ke, .int kb, .int at0])), (y1, .inl (cI, 24, .inl mn)), (y2, .inl (cI, 1440, .inl oo)), (y3, .inl (cI, 1440, .inl oa)), (y4, .inl (cI, 1440, .inl ob)), (y5, .inl (cI, 24, .inl ss)), (y6, .inl (cI, 24, .inl gg)), (y7, .inl (cI, 24, .inl zz)), (y8, .inl (cI, 7200, .inl md)), (y9, .inl (cI, 61, .inl sd)), (y10, .inl (cI, 301, .inl da)), (y11, .inl (cL, 4, .inr (.inl rg))), (y12, .inl (cL, 8, .inr (.inl pp))), (y13, .inl (cL, 4, .inr (.inl kp))), (y14, .inl (cL, 4, .inr (.inl ot)))]

def wiF (v lo hi : Int32) : Int32 := if v < lo then 0 else if hi < v then 0 else 1
def zinF (o x y : Int32) : Int32 := if wiF o 0 7 = 0 then 0 else if wiF x 0 3 = 0 then 0 else if o = 0 then 1 else if o = 6 then (if wiF y 0 60 = 0 then 0 else 1) else (if wiF y 0 3 = 0 then 0 else 1)
def zbyF (o y : Int32) : Int32 := if o = 0 then (if wiF y (-128) 127 = 0 then 7 else 4) else if o = 6 then 5 else if 6 ≤ o then 4 else 7
def zcoF (c : Int32) : Int32 := if wiF c 1 10 = 0 then (if c = 16 then 1 else 0) else 1
def zleF (c : Int32) : Int32 := if c = 3 then 5 else if c = 9 then 3 else if c < 3 then 2 else if c = 16 then 2 else 1
def ztaF (c : Int32) : Int32 := if c = 2 then 1 else if c = 9 then 1 else if wiF c 4 8 = 0 then 0 else 2
def zpuF (c : Int32) : Int32 := if c = 2 then 0 else if c = 9 then 0 else if c = 10 then 0 else 1
def zreF (o : Int32) (x y : Int64) : Int64 := if o = 1 then x + y else if o = 2 then x - y else if o = 3 then x * y else if o = 4 then x / y else (if 0 ≤ lg_cmp x y then 0 else 1)

abbrev w_Z_within : List Cond := .code y_Z_within b_Z_within 3 (some .boolean) :: BIG
set_option maxHeartbeats 4000000 in
set_option maxRecDepth 100000 in
theorem c_Z_within (l : Launch) (D : va_G) (cI cL cO : ClassId) (v : Int32) (lo : Int32) (hi : Int32) : CRi l y_Z_within w_Z_within ({ frames := 0, cells := 0, slots := 0, locals := 0 }) D cI cL cO [.int v, .int lo, .int hi] ([]) (wiF v lo hi) := by
  refine ofR (cc := b_Z_within) (maxL := 3) (ret := (some .boolean)) (by decide) rfl (Nat.le_of_ble_eq_true rfl) ?_
  intro p e s m below meth c ls Q hQ hx hb hr hlocks hts hown hml hP hK hl
  have hl : lv_has ls 3 [(0, .int v), (1, .int lo), (2, .int hi)] := hl
  have hown : s.vm.findClass R_Z = some m.cls := hown
  have ht : ∀ w ∈ BIG, w.before _ s = true := fun w h => hts w (List.mem_cons_of_mem _ h)
  refine lv_iload_n hx hb d_Z_within_0 rfl (lv_at hl 0 rfl) ?_
  refine lv_iload_n hx hb d_Z_within_1 rfl (lv_at hl 1 rfl) ?_
  refine lv_icmp_lt (tgt := 14) hx hb d_Z_within_2 (by decide) (fun c_2 => ?_) (fun c_2 => ?_)
  · refine lv_iconst (v := 0) hx hb d_Z_within_14 (by decide) ?_
    rw [hQ]; exact retRz hx hb hr hlocks rfl (by first | (simp only [wiF, if_pos c_2]; done) | simp [wiF, c_2]) d_Z_within_15
  · refine lv_iload_n hx hb d_Z_within_5 rfl (lv_at hl 0 rfl) ?_
    refine lv_iload_n hx hb d_Z_within_6 rfl (lv_at hl 2 rfl) ?_
    refine lv_icmp_gt (tgt := 14) hx hb d_Z_within_7 (by decide) (fun c_7 => ?_) (fun c_7 => ?_)
    · refine lv_iconst (v := 0) hx hb d_Z_within_14 (by decide) ?_
      rw [hQ]; exact retRz hx hb hr hlocks rfl (by first | (simp only [wiF, if_neg c_2, if_pos c_7]; done) | simp [wiF, c_2, c_7]) d_Z_within_15
    · refine lv_iconst (v := 1) hx hb d_Z_within_10 (by decide) ?_
      refine lv_goto (tgt := 15) hx hb d_Z_within_11 (by decide) ?_
      rw [hQ]; exact retRz hx hb hr hlocks rfl (by first | (simp only [wiF, if_neg c_2, if_neg c_7]; done) | simp [wiF, c_2, c_7]) d_Z_within_15

abbrev w_Z_isInstruction : List Cond := .code y_Z_isInstruction b_Z_isInstruction 3 (some .boolean) :: BIG
set_option maxHeartbeats 4000000 in
set_option maxRecDepth 100000 in
theorem c_Z_isInstruction (l : Launch) (D : va_G) (cI cL cO : ClassId) (ox : Int32) (x : Int32) (y : Int32) : CRi l y_Z_isInstruction w_Z_isInstruction ({ frames := 1, cells := 0, slots := 0, locals := 22 }) D cI cL cO [.int ox, .int x, .int y] ([]) (zinF ox x y) := by
  refine ofR (cc := b_Z_isInstruction) (maxL := 3) (ret := (some .boolean)) (by decide) rfl (Nat.le_of_ble_eq_true rfl) ?_
  intro p e s m below meth c ls Q hQ hx hb hr hlocks hts hown hml hP hK hl
  have hl : lv_has ls 3 [(0, .int ox), (1, .int x), (2, .int y)] := hl
  have hown : s.vm.findClass R_Z = some m.cls := hown
  have ht : ∀ w ∈ BIG, w.before _ s = true := fun w h => hts w (List.mem_cons_of_mem _ h)
  refine lv_iload_n hx hb d_Z_isInstruction_0 rfl (lv_at hl 0 rfl) ?_
  refine lv_iconst (v := 0) hx hb d_Z_isInstruction_1 (by decide) ?_
  refine lv_bipush (v := 7) hx hb d_Z_isInstruction_2 (by decide) ?_
  refine goRi (va_runS (As := [.int ox, .int 0, .int 7]) (rest := []) ⟨hx, hb, hml, hown, hts⟩ (c_Z_within l D cI cL cO ox 0 7) (cwS 3 hts (gBIG (m3 k_ml_Z_63 k_st_Z_within k_ini_Z) k_co_Z_within) rfl rfl rfl (by decide +kernel) ⟨Nat.le_of_ble_eq_true rfl, Nat.le_of_ble_eq_true rfl⟩) ⟨PR.bl, PR.pre P_nil hK⟩ rfl rfl hl.1 rfl (lv_room (Nat.le_of_ble_eq_true rfl)) d_Z_isInstruction_4 ⟨Nat.le_of_ble_eq_true rfl, Nat.le_of_ble_eq_true rfl⟩) ?_
  refine lv_if_eq (tgt := 19) hx hb d_Z_isInstruction_7 (by decide) (fun c_7 => ?_) (fun c_7 => ?_)
  · refine lv_iconst (v := 0) hx hb d_Z_isInstruction_19 (by decide) ?_
    rw [hQ]; exact retRz hx hb hr hlocks rfl (by first | (simp only [zinF, if_pos c_7]; done) | simp [zinF, c_7]) d_Z_isInstruction_20
  · refine lv_iload_n hx hb d_Z_isInstruction_10 rfl (lv_at hl 1 rfl) ?_
    refine lv_iconst (v := 0) hx hb d_Z_isInstruction_11 (by decide) ?_
    refine lv_iconst (v := 3) hx hb d_Z_isInstruction_12 (by decide) ?_
    refine goRi (va_runS (As := [.int x, .int 0, .int 3]) (rest := []) ⟨hx, hb, hml, hown, hts⟩ (c_Z_within l D cI cL cO x 0 3) (cwS 3 hts (gBIG (m3 k_ml_Z_63 k_st_Z_within k_ini_Z) k_co_Z_within) rfl rfl rfl (by decide +kernel) ⟨Nat.le_of_ble_eq_true rfl, Nat.le_of_ble_eq_true rfl⟩) ⟨PR.bl, PR.pre P_nil hK⟩ rfl rfl hl.1 rfl (lv_room (Nat.le_of_ble_eq_true rfl)) d_Z_isInstruction_13 ⟨Nat.le_of_ble_eq_true rfl, Nat.le_of_ble_eq_true rfl⟩) ?_
    refine lv_if_ne (tgt := 21) hx hb d_Z_isInstruction_16 (by decide) (fun c_16 => ?_) (fun c_16 => ?_)
    · refine lv_iload_n hx hb d_Z_isInstruction_21 rfl (lv_at hl 0 rfl) ?_
      refine lv_if_eq (tgt := 53) hx hb d_Z_isInstruction_22 (by decide) (fun c_22 => ?_) (fun c_22 => ?_)
      · refine lv_iconst (v := 1) hx hb d_Z_isInstruction_53 (by decide) ?_
        refine lv_goto (tgt := 58) hx hb d_Z_isInstruction_54 (by decide) ?_
        rw [hQ]; exact retRz hx hb hr hlocks rfl (by first | (simp only [zinF, if_neg c_7, if_neg c_16, if_pos c_22]; done) | simp [zinF, c_7, c_16, c_22]) d_Z_isInstruction_58
      · refine lv_iload_n hx hb d_Z_isInstruction_25 rfl (lv_at hl 0 rfl) ?_
        refine lv_bipush (v := 6) hx hb d_Z_isInstruction_26 (by decide) ?_
        refine lv_icmp_ne (tgt := 44) hx hb d_Z_isInstruction_28 (by decide) (fun c_28 => ?_) (fun c_28 => ?_)
        · refine lv_iload_n hx hb d_Z_isInstruction_44 rfl (lv_at hl 2 rfl) ?_
          refine lv_iconst (v := 0) hx hb d_Z_isInstruction_45 (by decide) ?_
          refine lv_iconst (v := 3) hx hb d_Z_isInstruction_46 (by decide) ?_
          refine goRi (va_runS (As := [.int y, .int 0, .int 3]) (rest := []) ⟨hx, hb, hml, hown, hts⟩ (c_Z_within l D cI cL cO y 0 3) (cwS 3 hts (gBIG (m3 k_ml_Z_63 k_st_Z_within k_ini_Z) k_co_Z_within) rfl rfl rfl (by decide +kernel) ⟨Nat.le_of_ble_eq_true rfl, Nat.le_of_ble_eq_true rfl⟩) ⟨PR.bl, PR.pre P_nil hK⟩ rfl rfl hl.1 rfl (lv_room (Nat.le_of_ble_eq_true rfl)) d_Z_isInstruction_47 ⟨Nat.le_of_ble_eq_true rfl, Nat.le_of_ble_eq_true rfl⟩) ?_
          refine lv_if_eq (tgt := 57) hx hb d_Z_isInstruction_50 (by decide) (fun c_50 => ?_) (fun c_50 => ?_)
          · refine lv_iconst (v := 0) hx hb d_Z_isInstruction_57 (by decide) ?_
            rw [hQ]; exact retRz hx hb hr hlocks rfl (by first | (simp only [zinF, if_neg c_7, if_neg c_16, if_neg c_22, if_neg c_28, if_pos c_50]; done) | simp [zinF, c_7, c_16, c_22, c_28, c_50]) d_Z_isInstruction_58
          · refine lv_iconst (v := 1) hx hb d_Z_isInstruction_53 (by decide) ?_
            refine lv_goto (tgt := 58) hx hb d_Z_isInstruction_54 (by decide) ?_
            rw [hQ]; exact retRz hx hb hr hlocks rfl (by first | (simp only [zinF, if_neg c_7, if_neg c_16, if_neg c_22, if_neg c_28, if_neg c_50]; done) | simp [zinF, c_7, c_16, c_22, c_28, c_50]) d_Z_isInstruction_58
        · refine lv_iload_n hx hb d_Z_isInstruction_31 rfl (lv_at hl 2 rfl) ?_
          refine lv_iconst (v := 0) hx hb d_Z_isInstruction_32 (by decide) ?_
          refine lv_bipush (v := 60) hx hb d_Z_isInstruction_33 (by decide) ?_
          refine goRi (va_runS (As := [.int y, .int 0, .int 60]) (rest := []) ⟨hx, hb, hml, hown, hts⟩ (c_Z_within l D cI cL cO y 0 60) (cwS 3 hts (gBIG (m3 k_ml_Z_63 k_st_Z_within k_ini_Z) k_co_Z_within) rfl rfl rfl (by decide +kernel) ⟨Nat.le_of_ble_eq_true rfl, Nat.le_of_ble_eq_true rfl⟩) ⟨PR.bl, PR.pre P_nil hK⟩ rfl rfl hl.1 rfl (lv_room (Nat.le_of_ble_eq_true rfl)) d_Z_isInstruction_35 ⟨Nat.le_of_ble_eq_true rfl, Nat.le_of_ble_eq_true rfl⟩) ?_
          refine lv_if_eq (tgt := 57) hx hb d_Z_isInstruction_38 (by decide) (fun c_38 => ?_) (fun c_38 => ?_)
          · refine lv_iconst (v := 0) hx hb d_Z_isInstruction_57 (by decide) ?_
            rw [hQ]; exact retRz hx hb hr hlocks rfl (by first | (simp only [zinF, if_neg c_7, if_neg c_16, if_neg c_22, if_pos c_28, if_pos c_38]; done) | simp [zinF, c_7, c_16, c_22, c_28, c_38]) d_Z_isInstruction_58
          · refine lv_goto (tgt := 53) hx hb d_Z_isInstruction_41 (by decide) ?_
            refine lv_iconst (v := 1) hx hb d_Z_isInstruction_53 (by decide) ?_
            refine lv_goto (tgt := 58) hx hb d_Z_isInstruction_54 (by decide) ?_
            rw [hQ]; exact retRz hx hb hr hlocks rfl (by first | (simp only [zinF, if_neg c_7, if_neg c_16, if_neg c_22, if_pos c_28, if_neg c_38]; done) | simp [zinF, c_7, c_16, c_22, c_28, c_38]) d_Z_isInstruction_58
    · refine lv_iconst (v := 0) hx hb d_Z_isInstruction_19 (by decide) ?_
      rw [hQ]; exact retRz hx hb hr hlocks rfl (by first | (simp only [zinF, if_neg c_7, if_pos c_16]; done) | simp [zinF, c_7, c_16]) d_Z_isInstruction_20

abbrev w_Z_bytesOf : List Cond := .code y_Z_bytesOf b_Z_bytesOf 2 (some .int) :: BIG
set_option maxHeartbeats 4000000 in
set_option maxRecDepth 100000 in
theorem c_Z_bytesOf (l : Launch) (D : va_G) (cI cL cO : ClassId) (ox : Int32) (y : Int32) : CRi l y_Z_bytesOf w_Z_bytesOf ({ frames := 1, cells := 0, slots := 0, locals := 22 }) D cI cL cO [.int ox, .int y] ([]) (zbyF ox y) := by
  refine ofR (cc := b_Z_bytesOf) (maxL := 2) (ret := (some .int)) (by decide) rfl (Nat.le_of_ble_eq_true rfl) ?_
  intro p e s m below meth c ls Q hQ hx hb hr hlocks hts hown hml hP hK hl
  have hl : lv_has ls 2 [(0, .int ox), (1, .int y)] := hl
  have hown : s.vm.findClass R_Z = some m.cls := hown
  have ht : ∀ w ∈ BIG, w.before _ s = true := fun w h => hts w (List.mem_cons_of_mem _ h)
  refine lv_iload_n hx hb d_Z_bytesOf_0 rfl (lv_at hl 0 rfl) ?_
  refine lv_if_ne (tgt := 24) hx hb d_Z_bytesOf_1 (by decide) (fun c_1 => ?_) (fun c_1 => ?_)
  · refine lv_iload_n hx hb d_Z_bytesOf_24 rfl (lv_at hl 0 rfl) ?_
    refine lv_bipush (v := 6) hx hb d_Z_bytesOf_25 (by decide) ?_
    refine lv_icmp_ne (tgt := 34) hx hb d_Z_bytesOf_27 (by decide) (fun c_27 => ?_) (fun c_27 => ?_)
    · refine lv_iload_n hx hb d_Z_bytesOf_34 rfl (lv_at hl 0 rfl) ?_
      refine lv_bipush (v := 6) hx hb d_Z_bytesOf_35 (by decide) ?_
      refine lv_icmp_ge (tgt := 45) hx hb d_Z_bytesOf_37 (by decide) (fun c_37 => ?_) (fun c_37 => ?_)
      · refine lv_iconst (v := 4) hx hb d_Z_bytesOf_45 (by decide) ?_
        rw [hQ]; exact retRi hx hb hr hlocks (by first | (simp only [zbyF, if_neg c_1, if_neg c_27, if_pos c_37]; done) | simp [zbyF, c_1, c_27, c_37]) d_Z_bytesOf_46
      · refine lv_bipush (v := 7) hx hb d_Z_bytesOf_40 (by decide) ?_
        refine lv_goto (tgt := 46) hx hb d_Z_bytesOf_42 (by decide) ?_
        rw [hQ]; exact retRi hx hb hr hlocks (by first | (simp only [zbyF, if_neg c_1, if_neg c_27, if_neg c_37]; done) | simp [zbyF, c_1, c_27, c_37]) d_Z_bytesOf_46
    · refine lv_iconst (v := 5) hx hb d_Z_bytesOf_30 (by decide) ?_
      refine lv_goto (tgt := 46) hx hb d_Z_bytesOf_31 (by decide) ?_
      rw [hQ]; exact retRi hx hb hr hlocks (by first | (simp only [zbyF, if_neg c_1, if_pos c_27]; done) | simp [zbyF, c_1, c_27]) d_Z_bytesOf_46
  · refine lv_iload_n hx hb d_Z_bytesOf_4 rfl (lv_at hl 1 rfl) ?_
    refine lv_bipush (v := (-128)) hx hb d_Z_bytesOf_5 (by decide) ?_
    refine lv_bipush (v := 127) hx hb d_Z_bytesOf_7 (by decide) ?_
    refine goRi (va_runS (As := [.int y, .int (-128), .int 127]) (rest := []) ⟨hx, hb, hml, hown, hts⟩ (c_Z_within l D cI cL cO y (-128) 127) (cwS 3 hts (gBIG (m3 k_ml_Z_63 k_st_Z_within k_ini_Z) k_co_Z_within) rfl rfl rfl (by decide +kernel) ⟨Nat.le_of_ble_eq_true rfl, Nat.le_of_ble_eq_true rfl⟩) ⟨PR.bl, PR.pre P_nil hK⟩ rfl rfl hl.1 rfl (lv_room (Nat.le_of_ble_eq_true rfl)) d_Z_bytesOf_9 ⟨Nat.le_of_ble_eq_true rfl, Nat.le_of_ble_eq_true rfl⟩) ?_
    refine lv_if_eq (tgt := 19) hx hb d_Z_bytesOf_12 (by decide) (fun c_12 => ?_) (fun c_12 => ?_)
    · refine lv_bipush (v := 7) hx hb d_Z_bytesOf_19 (by decide) ?_
      refine lv_goto (tgt := 46) hx hb d_Z_bytesOf_21 (by decide) ?_
      rw [hQ]; exact retRi hx hb hr hlocks (by first | (simp only [zbyF, if_pos c_1, if_pos c_12]; done) | simp [zbyF, c_1, c_12]) d_Z_bytesOf_46
    · refine lv_iconst (v := 4) hx hb d_Z_bytesOf_15 (by decide) ?_
      refine lv_goto (tgt := 46) hx hb d_Z_bytesOf_16 (by decide) ?_
      rw [hQ]; exact retRi hx hb hr hlocks (by first | (simp only [zbyF, if_pos c_1, if_neg c_12]; done) | simp [zbyF, c_1, c_12]) d_Z_bytesOf_46

abbrev w_Z_isCode : List Cond := .code y_Z_isCode b_Z_isCode 1 (some .boolean) :: BIG
set_option maxHeartbeats 4000000 in
set_option maxRecDepth 100000 in
theorem c_Z_isCode (l : Launch) (D : va_G) (cI cL cO : ClassId) (cd : Int32) : CRi l y_Z_isCode w_Z_isCode ({ frames := 1, cells := 0, slots := 0, locals := 22 }) D cI cL cO [.int cd] ([]) (zcoF cd) := by
  refine ofR (cc := b_Z_isCode) (maxL := 1) (ret := (some .boolean)) (by decide) rfl (Nat.le_of_ble_eq_true rfl) ?_
  intro p e s m below meth c ls Q hQ hx hb hr hlocks hts hown hml hP hK hl
  have hl : lv_has ls 1 [(0, .int cd)] := hl
  have hown : s.vm.findClass R_Z = some m.cls := hown
  have ht : ∀ w ∈ BIG, w.before _ s = true := fun w h => hts w (List.mem_cons_of_mem _ h)
  refine lv_iload_n hx hb d_Z_isCode_0 rfl (lv_at hl 0 rfl) ?_
  refine lv_iconst (v := 1) hx hb d_Z_isCode_1 (by decide) ?_
  refine lv_bipush (v := 10) hx hb d_Z_isCode_2 (by decide) ?_
  refine goRi (va_runS (As := [.int cd, .int 1, .int 10]) (rest := []) ⟨hx, hb, hml, hown, hts⟩ (c_Z_within l D cI cL cO cd 1 10) (cwS 3 hts (gBIG (m3 k_ml_Z_63 k_st_Z_within k_ini_Z) k_co_Z_within) rfl rfl rfl (by decide +kernel) ⟨Nat.le_of_ble_eq_true rfl, Nat.le_of_ble_eq_true rfl⟩) ⟨PR.bl, PR.pre P_nil hK⟩ rfl rfl hl.1 rfl (lv_room (Nat.le_of_ble_eq_true rfl)) d_Z_isCode_4 ⟨Nat.le_of_ble_eq_true rfl, Nat.le_of_ble_eq_true rfl⟩) ?_
  refine lv_if_ne (tgt := 16) hx hb d_Z_isCode_7 (by decide) (fun c_7 => ?_) (fun c_7 => ?_)
  · refine lv_iconst (v := 1) hx hb d_Z_isCode_16 (by decide) ?_
    refine lv_goto (tgt := 21) hx hb d_Z_isCode_17 (by decide) ?_
    rw [hQ]; exact retRz hx hb hr hlocks rfl (by first | (simp only [zcoF, if_neg c_7]; done) | simp [zcoF, c_7]) d_Z_isCode_21
  · refine lv_iload_n hx hb d_Z_isCode_10 rfl (lv_at hl 0 rfl) ?_
    refine lv_bipush (v := 16) hx hb d_Z_isCode_11 (by decide) ?_
    refine lv_icmp_ne (tgt := 20) hx hb d_Z_isCode_13 (by decide) (fun c_13 => ?_) (fun c_13 => ?_)
    · refine lv_iconst (v := 0) hx hb d_Z_isCode_20 (by decide) ?_
      rw [hQ]; exact retRz hx hb hr hlocks rfl (by first | (simp only [zcoF, if_pos c_7, if_neg c_13]; done) | simp [zcoF, c_7, c_13]) d_Z_isCode_21
    · refine lv_iconst (v := 1) hx hb d_Z_isCode_16 (by decide) ?_
      refine lv_goto (tgt := 21) hx hb d_Z_isCode_17 (by decide) ?_
      rw [hQ]; exact retRz hx hb hr hlocks rfl (by first | (simp only [zcoF, if_pos c_7, if_pos c_13]; done) | simp [zcoF, c_7, c_13]) d_Z_isCode_21

abbrev w_Z_lengthOf : List Cond := .code y_Z_lengthOf b_Z_lengthOf 1 (some .int) :: BIG
set_option maxHeartbeats 4000000 in
set_option maxRecDepth 100000 in
theorem c_Z_lengthOf (l : Launch) (D : va_G) (cI cL cO : ClassId) (cd : Int32) : CRi l y_Z_lengthOf w_Z_lengthOf ({ frames := 0, cells := 0, slots := 0, locals := 0 }) D cI cL cO [.int cd] ([]) (zleF cd) := by
  refine ofR (cc := b_Z_lengthOf) (maxL := 1) (ret := (some .int)) (by decide) rfl (Nat.le_of_ble_eq_true rfl) ?_
  intro p e s m below meth c ls Q hQ hx hb hr hlocks hts hown hml hP hK hl
  have hl : lv_has ls 1 [(0, .int cd)] := hl
  have hown : s.vm.findClass R_Z = some m.cls := hown
  have ht : ∀ w ∈ BIG, w.before _ s = true := fun w h => hts w (List.mem_cons_of_mem _ h)
  refine lv_iload_n hx hb d_Z_lengthOf_0 rfl (lv_at hl 0 rfl) ?_
  refine lv_iconst (v := 3) hx hb d_Z_lengthOf_1 (by decide) ?_
  refine lv_icmp_ne (tgt := 9) hx hb d_Z_lengthOf_2 (by decide) (fun c_2 => ?_) (fun c_2 => ?_)
  · refine lv_iload_n hx hb d_Z_lengthOf_9 rfl (lv_at hl 0 rfl) ?_
    refine lv_bipush (v := 9) hx hb d_Z_lengthOf_10 (by decide) ?_
    refine lv_icmp_ne (tgt := 19) hx hb d_Z_lengthOf_12 (by decide) (fun c_12 => ?_) (fun c_12 => ?_)
    · refine lv_iload_n hx hb d_Z_lengthOf_19 rfl (lv_at hl 0 rfl) ?_
      refine lv_iconst (v := 3) hx hb d_Z_lengthOf_20 (by decide) ?_
      refine lv_icmp_lt (tgt := 30) hx hb d_Z_lengthOf_21 (by decide) (fun c_21 => ?_) (fun c_21 => ?_)
      · refine lv_iconst (v := 2) hx hb d_Z_lengthOf_30 (by decide) ?_
        refine lv_goto (tgt := 35) hx hb d_Z_lengthOf_31 (by decide) ?_
        rw [hQ]; exact retRi hx hb hr hlocks (by first | (simp only [zleF, if_neg c_2, if_neg c_12, if_pos c_21]; done) | simp [zleF, c_2, c_12, c_21]) d_Z_lengthOf_35
      · refine lv_iload_n hx hb d_Z_lengthOf_24 rfl (lv_at hl 0 rfl) ?_
        refine lv_bipush (v := 16) hx hb d_Z_lengthOf_25 (by decide) ?_
        refine lv_icmp_ne (tgt := 34) hx hb d_Z_lengthOf_27 (by decide) (fun c_27 => ?_) (fun c_27 => ?_)
        · refine lv_iconst (v := 1) hx hb d_Z_lengthOf_34 (by decide) ?_
          rw [hQ]; exact retRi hx hb hr hlocks (by first | (simp only [zleF, if_neg c_2, if_neg c_12, if_neg c_21, if_neg c_27]; done) | simp [zleF, c_2, c_12, c_21, c_27]) d_Z_lengthOf_35
        · refine lv_iconst (v := 2) hx hb d_Z_lengthOf_30 (by decide) ?_
          refine lv_goto (tgt := 35) hx hb d_Z_lengthOf_31 (by decide) ?_
          rw [hQ]; exact retRi hx hb hr hlocks (by first | (simp only [zleF, if_neg c_2, if_neg c_12, if_neg c_21, if_pos c_27]; done) | simp [zleF, c_2, c_12, c_21, c_27]) d_Z_lengthOf_35
    · refine lv_iconst (v := 3) hx hb d_Z_lengthOf_15 (by decide) ?_
      refine lv_goto (tgt := 35) hx hb d_Z_lengthOf_16 (by decide) ?_
      rw [hQ]; exact retRi hx hb hr hlocks (by first | (simp only [zleF, if_neg c_2, if_pos c_12]; done) | simp [zleF, c_2, c_12]) d_Z_lengthOf_35
  · refine lv_iconst (v := 5) hx hb d_Z_lengthOf_5 (by decide) ?_
    refine lv_goto (tgt := 35) hx hb d_Z_lengthOf_6 (by decide) ?_
    rw [hQ]; exact retRi hx hb hr hlocks (by first | (simp only [zleF, if_pos c_2]; done) | simp [zleF, c_2]) d_Z_lengthOf_35

abbrev w_Z_takes : List Cond := .code y_Z_takes b_Z_takes 1 (some .int) :: BIG
set_option maxHeartbeats 4000000 in
set_option maxRecDepth 100000 in
theorem c_Z_takes (l : Launch) (D : va_G) (cI cL cO : ClassId) (cd : Int32) : CRi l y_Z_takes w_Z_takes ({ frames := 1, cells := 0, slots := 0, locals := 22 }) D cI cL cO [.int cd] ([]) (ztaF cd) := by
  refine ofR (cc := b_Z_takes) (maxL := 1) (ret := (some .int)) (by decide) rfl (Nat.le_of_ble_eq_true rfl) ?_
  intro p e s m below meth c ls Q hQ hx hb hr hlocks hts hown hml hP hK hl
  have hl : lv_has ls 1 [(0, .int cd)] := hl
  have hown : s.vm.findClass R_Z = some m.cls := hown
  have ht : ∀ w ∈ BIG, w.before _ s = true := fun w h => hts w (List.mem_cons_of_mem _ h)
  refine lv_iload_n hx hb d_Z_takes_0 rfl (lv_at hl 0 rfl) ?_
  refine lv_iconst (v := 2) hx hb d_Z_takes_1 (by decide) ?_
  refine lv_icmp_eq (tgt := 11) hx hb d_Z_takes_2 (by decide) (fun c_2 => ?_) (fun c_2 => ?_)
  · refine lv_iconst (v := 1) hx hb d_Z_takes_11 (by decide) ?_
    refine lv_goto (tgt := 30) hx hb d_Z_takes_12 (by decide) ?_
    rw [hQ]; exact retRi hx hb hr hlocks (by first | (simp only [ztaF, if_pos c_2]; done) | simp [ztaF, c_2]) d_Z_takes_30
  · refine lv_iload_n hx hb d_Z_takes_5 rfl (lv_at hl 0 rfl) ?_
    refine lv_bipush (v := 9) hx hb d_Z_takes_6 (by decide) ?_
    refine lv_icmp_ne (tgt := 15) hx hb d_Z_takes_8 (by decide) (fun c_8 => ?_) (fun c_8 => ?_)
    · refine lv_iload_n hx hb d_Z_takes_15 rfl (lv_at hl 0 rfl) ?_
      refine lv_iconst (v := 4) hx hb d_Z_takes_16 (by decide) ?_
      refine lv_bipush (v := 8) hx hb d_Z_takes_17 (by decide) ?_
      refine goRi (va_runS (As := [.int cd, .int 4, .int 8]) (rest := []) ⟨hx, hb, hml, hown, hts⟩ (c_Z_within l D cI cL cO cd 4 8) (cwS 3 hts (gBIG (m3 k_ml_Z_63 k_st_Z_within k_ini_Z) k_co_Z_within) rfl rfl rfl (by decide +kernel) ⟨Nat.le_of_ble_eq_true rfl, Nat.le_of_ble_eq_true rfl⟩) ⟨PR.bl, PR.pre P_nil hK⟩ rfl rfl hl.1 rfl (lv_room (Nat.le_of_ble_eq_true rfl)) d_Z_takes_19 ⟨Nat.le_of_ble_eq_true rfl, Nat.le_of_ble_eq_true rfl⟩) ?_
      refine lv_if_eq (tgt := 29) hx hb d_Z_takes_22 (by decide) (fun c_22 => ?_) (fun c_22 => ?_)
      · refine lv_iconst (v := 0) hx hb d_Z_takes_29 (by decide) ?_
        rw [hQ]; exact retRi hx hb hr hlocks (by first | (simp only [ztaF, if_neg c_2, if_neg c_8, if_pos c_22]; done) | simp [ztaF, c_2, c_8, c_22]) d_Z_takes_30
      · refine lv_iconst (v := 2) hx hb d_Z_takes_25 (by decide) ?_
        refine lv_goto (tgt := 30) hx hb d_Z_takes_26 (by decide) ?_
        rw [hQ]; exact retRi hx hb hr hlocks (by first | (simp only [ztaF, if_neg c_2, if_neg c_8, if_neg c_22]; done) | simp [ztaF, c_2, c_8, c_22]) d_Z_takes_30
    · refine lv_iconst (v := 1) hx hb d_Z_takes_11 (by decide) ?_
      refine lv_goto (tgt := 30) hx hb d_Z_takes_12 (by decide) ?_
      rw [hQ]; exact retRi hx hb hr hlocks (by first | (simp only [ztaF, if_neg c_2, if_pos c_8]; done) | simp [ztaF, c_2, c_8]) d_Z_takes_30

abbrev w_Z_puts : List Cond := .code y_Z_puts b_Z_puts 1 (some .int) :: BIG
set_option maxHeartbeats 4000000 in
set_option maxRecDepth 100000 in
theorem c_Z_puts (l : Launch) (D : va_G) (cI cL cO : ClassId) (cd : Int32) : CRi l y_Z_puts w_Z_puts ({ frames := 0, cells := 0, slots := 0, locals := 0 }) D cI cL cO [.int cd] ([]) (zpuF cd) := by
  refine ofR (cc := b_Z_puts) (maxL := 1) (ret := (some .int)) (by decide) rfl (Nat.le_of_ble_eq_true rfl) ?_
  intro p e s m below meth c ls Q hQ hx hb hr hlocks hts hown hml hP hK hl
  have hl : lv_has ls 1 [(0, .int cd)] := hl
  have hown : s.vm.findClass R_Z = some m.cls := hown
  have ht : ∀ w ∈ BIG, w.before _ s = true := fun w h => hts w (List.mem_cons_of_mem _ h)
  refine lv_iload_n hx hb d_Z_puts_0 rfl (lv_at hl 0 rfl) ?_
  refine lv_iconst (v := 2) hx hb d_Z_puts_1 (by decide) ?_
  refine lv_icmp_eq (tgt := 17) hx hb d_Z_puts_2 (by decide) (fun c_2 => ?_) (fun c_2 => ?_)
  · refine lv_iconst (v := 0) hx hb d_Z_puts_17 (by decide) ?_
    refine lv_goto (tgt := 22) hx hb d_Z_puts_18 (by decide) ?_
    rw [hQ]; exact retRi hx hb hr hlocks (by first | (simp only [zpuF, if_pos c_2]; done) | simp [zpuF, c_2]) d_Z_puts_22
  · refine lv_iload_n hx hb d_Z_puts_5 rfl (lv_at hl 0 rfl) ?_
    refine lv_bipush (v := 9) hx hb d_Z_puts_6 (by decide) ?_
    refine lv_icmp_eq (tgt := 17) hx hb d_Z_puts_8 (by decide) (fun c_8 => ?_) (fun c_8 => ?_)
    · refine lv_iconst (v := 0) hx hb d_Z_puts_17 (by decide) ?_
      refine lv_goto (tgt := 22) hx hb d_Z_puts_18 (by decide) ?_
      rw [hQ]; exact retRi hx hb hr hlocks (by first | (simp only [zpuF, if_neg c_2, if_pos c_8]; done) | simp [zpuF, c_2, c_8]) d_Z_puts_22
    · refine lv_iload_n hx hb d_Z_puts_11 rfl (lv_at hl 0 rfl) ?_
      refine lv_bipush (v := 10) hx hb d_Z_puts_12 (by decide) ?_
      refine lv_icmp_ne (tgt := 21) hx hb d_Z_puts_14 (by decide) (fun c_14 => ?_) (fun c_14 => ?_)
      · refine lv_iconst (v := 1) hx hb d_Z_puts_21 (by decide) ?_
        rw [hQ]; exact retRi hx hb hr hlocks (by first | (simp only [zpuF, if_neg c_2, if_neg c_8, if_neg c_14]; done) | simp [zpuF, c_2, c_8, c_14]) d_Z_puts_22
      · refine lv_iconst (v := 0) hx hb d_Z_puts_17 (by decide) ?_
        refine lv_goto (tgt := 22) hx hb d_Z_puts_18 (by decide) ?_
        rw [hQ]; exact retRi hx hb hr hlocks (by first | (simp only [zpuF, if_neg c_2, if_neg c_8, if_pos c_14]; done) | simp [zpuF, c_2, c_8, c_14]) d_Z_puts_22

abbrev w_Z_result : List Cond := .code y_Z_result b_Z_result 5 (some .long) :: BIG
set_option maxHeartbeats 4000000 in
set_option maxRecDepth 100000 in
theorem c_Z_result (l : Launch) (D : va_G) (cI cL cO : ClassId) (ox : Int32) (x : Int64) (y : Int64) (hz : ox = 4 → ¬ y = 0) : CRl l y_Z_result w_Z_result ({ frames := 0, cells := 0, slots := 0, locals := 0 }) D cI cL cO [.int ox, .long x, .long y] ([]) (zreF ox x y) := by
  refine ofR (cc := b_Z_result) (maxL := 5) (ret := (some .long)) (by decide) rfl (Nat.le_of_ble_eq_true rfl) ?_
  intro p e s m below meth c ls Q hQ hx hb hr hlocks hts hown hml hP hK hl
  have hl : lv_has ls 5 [(0, .int ox), (1, .long x), (3, .long y)] := hl
  have hown : s.vm.findClass R_Z = some m.cls := hown
  have ht : ∀ w ∈ BIG, w.before _ s = true := fun w h => hts w (List.mem_cons_of_mem _ h)
  refine lv_iload_n hx hb d_Z_result_0 rfl (lv_at hl 0 rfl) ?_
  by_cases c_1_1 : ox = 1
  · refine lv_tableIn (off := 31) (tgt := 32) hx hb d_Z_result_1 (by rw [c_1_1]; decide) (by rw [c_1_1]; decide) (by rw [c_1_1] <;> rfl) (by decide) ?_
    refine lv_lload_n hx hb d_Z_result_32 rfl (lv_at hl 1 rfl) ?_
    refine lv_lload_n hx hb d_Z_result_33 rfl (lv_at hl 2 rfl) ?_
    refine lv_ladd hx hb d_Z_result_34 ?_
    rw [hQ]; exact retRl hx hb hr hlocks (by first | (simp only [zreF, if_pos c_1_1]; done) | simp [zreF, c_1_1]) d_Z_result_35
  by_cases c_1_2 : ox = 2
  · refine lv_tableIn (off := 35) (tgt := 36) hx hb d_Z_result_1 (by rw [c_1_2]; decide) (by rw [c_1_2]; decide) (by rw [c_1_2] <;> rfl) (by decide) ?_
    refine lv_lload_n hx hb d_Z_result_36 rfl (lv_at hl 1 rfl) ?_
    refine lv_lload_n hx hb d_Z_result_37 rfl (lv_at hl 2 rfl) ?_
    refine lv_lsub hx hb d_Z_result_38 ?_
    rw [hQ]; exact retRl hx hb hr hlocks (by first | (simp only [zreF, if_neg c_1_1, if_pos c_1_2]; done) | simp [zreF, c_1_1, c_1_2]) d_Z_result_39
  by_cases c_1_3 : ox = 3
  · refine lv_tableIn (off := 39) (tgt := 40) hx hb d_Z_result_1 (by rw [c_1_3]; decide) (by rw [c_1_3]; decide) (by rw [c_1_3] <;> rfl) (by decide) ?_
    refine lv_lload_n hx hb d_Z_result_40 rfl (lv_at hl 1 rfl) ?_
    refine lv_lload_n hx hb d_Z_result_41 rfl (lv_at hl 2 rfl) ?_
    refine lv_lmul hx hb d_Z_result_42 ?_
    rw [hQ]; exact retRl hx hb hr hlocks (by first | (simp only [zreF, if_neg c_1_1, if_neg c_1_2, if_pos c_1_3]; done) | simp [zreF, c_1_1, c_1_2, c_1_3]) d_Z_result_43
  by_cases c_1_4 : ox = 4
  · refine lv_tableIn (off := 43) (tgt := 44) hx hb d_Z_result_1 (by rw [c_1_4]; decide) (by rw [c_1_4]; decide) (by rw [c_1_4] <;> rfl) (by decide) ?_
    refine lv_lload_n hx hb d_Z_result_44 rfl (lv_at hl 1 rfl) ?_
    refine lv_lload_n hx hb d_Z_result_45 rfl (lv_at hl 2 rfl) ?_
    refine lv_ldiv hx hb d_Z_result_46 (hz c_1_4) ?_
    rw [hQ]; exact retRl hx hb hr hlocks (by first | (simp only [zreF, if_neg c_1_1, if_neg c_1_2, if_neg c_1_3, if_pos c_1_4]; done) | simp [zreF, c_1_1, c_1_2, c_1_3, c_1_4]) d_Z_result_47
  refine lv_tableOut (tgt := 48) hx hb d_Z_result_1 (by have := lv_neT c_1_1 (show (1 : Int32).toInt = 1 by decide); have := lv_neT c_1_2 (show (2 : Int32).toInt = 2 by decide); have := lv_neT c_1_3 (show (3 : Int32).toInt = 3 by decide); have := lv_neT c_1_4 (show (4 : Int32).toInt = 4 by decide); omega) (by decide) ?_
  refine lv_lload_n hx hb d_Z_result_48 rfl (lv_at hl 1 rfl) ?_
  refine lv_lload_n hx hb d_Z_result_49 rfl (lv_at hl 2 rfl) ?_
  refine W.lcmp hx hb d_Z_result_50 ?_
  refine lv_if_ge (tgt := 58) hx hb d_Z_result_51 (by decide) (fun c_51 => ?_) (fun c_51 => ?_)
  · refine lv_lconst (v := 0) hx hb d_Z_result_58 (by decide) ?_
    rw [hQ]; exact retRl hx hb hr hlocks (by first | (simp only [zreF, if_neg c_1_1, if_neg c_1_2, if_neg c_1_3, if_neg c_1_4, if_pos c_51]; done) | simp [zreF, c_1_1, c_1_2, c_1_3, c_1_4, c_51]) d_Z_result_59
  · refine lv_lconst (v := 1) hx hb d_Z_result_54 (by decide) ?_
    refine lv_goto (tgt := 59) hx hb d_Z_result_55 (by decide) ?_
    rw [hQ]; exact retRl hx hb hr hlocks (by first | (simp only [zreF, if_neg c_1_1, if_neg c_1_2, if_neg c_1_3, if_neg c_1_4, if_neg c_51]; done) | simp [zreF, c_1_1, c_1_2, c_1_3, c_1_4, c_51]) d_Z_result_59
end
section
theorem wi_01 (v lo hi : Int32) : wiF v lo hi = 0 ∨ wiF v lo hi = 1 := by
  unfold wiF
  split
  · exact Or.inl rfl
  · split
    · exact Or.inl rfl
    · exact Or.inr rfl
theorem wi_p {v lo hi : Int32} (h : wiF v lo hi = 0) : 0 = wiF v lo hi := h.symm
theorem wi_n {v lo hi : Int32} (h : ¬ wiF v lo hi = 0) : 1 = wiF v lo hi := ((wi_01 v lo hi).resolve_left h).symm
theorem wi_r {v lo hi : Int32} (h : ¬ wiF v lo hi = 0) : lo.toInt ≤ v.toInt ∧ v.toInt ≤ hi.toInt := by
  unfold wiF at h
  split at h
  · exact absurd rfl h
  · split at h
    · exact absurd rfl h
    · rename_i h1 h2
      rw [Int32.lt_iff_toInt_lt] at h1 h2
      omega
theorem wi_k {k bl : Int32} (hb : 0 ≤ bl.toInt ∧ bl.toInt ≤ 24) (h : ¬ wiF k 0 (bl - 1) = 0) : 0 ≤ k.toInt ∧ k.toInt < 24 ∧ k.toInt < bl.toInt := by
  have h1 := wi_r h
  rw [i32_m (by omega), Int32.toInt_zero] at h1
  omega
theorem in_k {P : Prop} {k : Int32} (h : 0 ≤ k.toInt ∧ k.toInt < 24 ∧ P) : vp_in k 24 := vp_in_iff.mpr ⟨h.1, h.2.1⟩

abbrev w_Z_thrown : List Cond := .code y_Z_thrown b_Z_thrown 1 (some .int) :: BIG
set_option maxHeartbeats 4000000 in
set_option maxRecDepth 100000 in
theorem c_Z_thrown (l : Launch) (D : va_G) (cI cL cO : ClassId) (z0 : Nat) (y1 : Nat) (y2 : Nat) (y3 : Nat) (y4 : Nat) (y5 : Nat) (y6 : Nat) (y7 : Nat) (y8 : Nat) (y9 : Nat) (y10 : Nat) (y11 : Nat) (y12 : Nat) (y13 : Nat) (y14 : Nat) (mn : Fn) (oo : Fn) (oa : Fn) (ob : Fn) (ss : Fn) (gg : Fn) (zz : Fn) (md : Fn) (sd : Fn) (da : Fn) (rg : FL) (pp : FL) (kp : FL) (ot : FL) (th : Int32) (li : Int32) (bl : Int32) (nw : Int32) (wr : Int32) (ru : Int32) (al : Int32) (sp : Int32) (en : Int32) (ke : Int32) (kb : Int32) (at0 : Int32) : CRi l y_Z_thrown w_Z_thrown ({ frames := 0, cells := 0, slots := 0, locals := 0 }) D cI cL cO [.ref z0] (wZ cI cL z0 y1 y2 y3 y4 y5 y6 y7 y8 y9 y10 y11 y12 y13 y14 mn oo oa ob ss gg zz md sd da rg pp kp ot th li bl nw wr ru al sp en ke kb at0) th := by
  refine ofR (cc := b_Z_thrown) (maxL := 1) (ret := (some .int)) (by decide) rfl (Nat.le_of_ble_eq_true rfl) ?_
  intro p e s m below meth c ls Q hQ hx hb hr hlocks hts hown hml hP hK hl
  have hl : lv_has ls 1 [(0, .ref z0)] := hl
  have hown : s.vm.findClass R_Z = some m.cls := hown
  have ht : ∀ w ∈ BIG, w.before _ s = true := fun w h => hts w (List.mem_cons_of_mem _ h)
  refine lv_aload_n hx hb d_Z_thrown_0 rfl (lv_at hl 0 rfl) ?_
  refine va_get (ci := 5) (v := .int th) (C := R_Z) (T := T_Z) (N := 26) hx hb ht in_Z hown hK.1 hP 0 rfl rfl 0 (by decide) (ht _ k_fl_Z_57) (fun _ h9 => h9) rfl d_Z_thrown_1 ?_
  rw [hQ]; exact retRi hx hb hr hlocks rfl d_Z_thrown_4

abbrev w_Z_fail : List Cond := .code y_Z_fail b_Z_fail 2 (some .int) :: BIG
set_option maxHeartbeats 4000000 in
set_option maxRecDepth 100000 in
theorem c_Z_fail (l : Launch) (D : va_G) (cI cL cO : ClassId) (z0 : Nat) (y1 : Nat) (y2 : Nat) (y3 : Nat) (y4 : Nat) (y5 : Nat) (y6 : Nat) (y7 : Nat) (y8 : Nat) (y9 : Nat) (y10 : Nat) (y11 : Nat) (y12 : Nat) (y13 : Nat) (y14 : Nat) (mn : Fn) (oo : Fn) (oa : Fn) (ob : Fn) (ss : Fn) (gg : Fn) (zz : Fn) (md : Fn) (sd : Fn) (da : Fn) (rg : FL) (pp : FL) (kp : FL) (ot : FL) (th : Int32) (li : Int32) (bl : Int32) (nw : Int32) (wr : Int32) (ru : Int32) (al : Int32) (sp : Int32) (en : Int32) (ke : Int32) (kb : Int32) (at0 : Int32) (fr : va_W) (cd : Int32) : CMi l y_Z_fail w_Z_fail ({ frames := 0, cells := 0, slots := 0, locals := 0 }) D cI cL cO [.ref z0, .int cd] ((wZ cI cL z0 y1 y2 y3 y4 y5 y6 y7 y8 y9 y10 y11 y12 y13 y14 mn oo oa ob ss gg zz md sd da rg pp kp ot th li bl nw wr ru al sp en ke kb at0) ++ fr) (fun (r : Int32) (u : Int32) => r = 0 ∧ u = cd) (fun u : Int32 => ((wZ cI cL z0 y1 y2 y3 y4 y5 y6 y7 y8 y9 y10 y11 y12 y13 y14 mn oo oa ob ss gg zz md sd da rg pp kp ot u li bl nw wr ru al sp en ke kb at0) ++ fr)) 0 0 := by
  refine ofMi (cc := b_Z_fail) (maxL := 2) (ret := (some .int)) (by decide) rfl (Nat.le_of_ble_eq_true rfl) ?_
  intro p e s m below meth c A ls H Q hQ hx hb hr hlocks hin hts hown hml hP hK hD hS hA hl
  have hl : lv_has ls 2 [(0, .ref z0), (1, .int cd)] := hl
  have hown : s.vm.findClass R_Z = some m.cls := hown
  have ht : ∀ w ∈ BIG, w.before _ s = true := fun w h => hts w (List.mem_cons_of_mem _ h)
  refine lv_aload_n hx hb d_Z_fail_0 rfl (lv_at hl 0 rfl) ?_
  refine lv_iload_n hx hb d_Z_fail_1 rfl (lv_at hl 1 rfl) ?_
  refine va_put (ci := 5) (v := .int cd) (ty := .int) (C := R_Z) (T := T_Z) (N := 26) hx hb ht in_Z t_Z t_Z_ok n_Z hown hK.1 hP hD hS 0 rfl rfl 0 (by decide) (ht _ k_fl_Z_57) (fun _ h9 => h9) rfl (by decide +kernel) rfl rfl (Nat.le_of_ble_eq_true rfl) d_Z_fail_2 (fun H locs hP hD hS => ?_)
  have hP : va_P D vwCl ((wZ cI cL z0 y1 y2 y3 y4 y5 y6 y7 y8 y9 y10 y11 y12 y13 y14 mn oo oa ob ss gg zz md sd da rg pp kp ot cd li bl nw wr ru al sp en ke kb at0) ++ fr) H := hP
  have hD : va_D A ((wZ cI cL z0 y1 y2 y3 y4 y5 y6 y7 y8 y9 y10 y11 y12 y13 y14 mn oo oa ob ss gg zz md sd da rg pp kp ot cd li bl nw wr ru al sp en ke kb at0) ++ fr) := hD
  refine lv_iconst (v := 0) hx hb d_Z_fail_5 (by decide) ?_
  rw [hQ]; exact retMi (w1 := fun u : Int32 => ((wZ cI cL z0 y1 y2 y3 y4 y5 y6 y7 y8 y9 y10 y11 y12 y13 y14 mn oo oa ob ss gg zz md sd da rg pp kp ot u li bl nw wr ru al sp en ke kb at0) ++ fr)) cd hx hb hr hlocks hP hD hS ⟨rfl, rfl⟩ d_Z_fail_6

abbrev w_Z_isBlock : List Cond := .code y_Z_isBlock b_Z_isBlock 2 (some .boolean) :: BIG
set_option maxHeartbeats 4000000 in
set_option maxRecDepth 100000 in
theorem c_Z_isBlock (l : Launch) (D : va_G) (cI cL cO : ClassId) (z0 : Nat) (y1 : Nat) (y2 : Nat) (y3 : Nat) (y4 : Nat) (y5 : Nat) (y6 : Nat) (y7 : Nat) (y8 : Nat) (y9 : Nat) (y10 : Nat) (y11 : Nat) (y12 : Nat) (y13 : Nat) (y14 : Nat) (mn : Fn) (oo : Fn) (oa : Fn) (ob : Fn) (ss : Fn) (gg : Fn) (zz : Fn) (md : Fn) (sd : Fn) (da : Fn) (rg : FL) (pp : FL) (kp : FL) (ot : FL) (th : Int32) (li : Int32) (bl : Int32) (nw : Int32) (wr : Int32) (ru : Int32) (al : Int32) (sp : Int32) (en : Int32) (ke : Int32) (kb : Int32) (at0 : Int32) (fr : va_W) (k : Int32) : CMi l y_Z_isBlock w_Z_isBlock ({ frames := 1, cells := 0, slots := 0, locals := 22 }) D cI cL cO [.ref z0, .int k] ((wZ cI cL z0 y1 y2 y3 y4 y5 y6 y7 y8 y9 y10 y11 y12 y13 y14 mn oo oa ob ss gg zz md sd da rg pp kp ot th li bl nw wr ru al sp en ke kb at0) ++ fr) (fun (r : Int32) (u : Int32) => r = wiF k 0 (bl - 1) ∧ u = if wiF k 0 (bl - 1) = 0 then 1 else 0) (fun u : Int32 => ((wZ cI cL z0 y1 y2 y3 y4 y5 y6 y7 y8 y9 y10 y11 y12 y13 y14 mn oo oa ob ss gg zz md sd da rg pp kp ot u li bl nw wr ru al sp en ke kb at0) ++ fr)) 0 0 := by
  refine ofMi (cc := b_Z_isBlock) (maxL := 2) (ret := (some .boolean)) (by decide) rfl (Nat.le_of_ble_eq_true rfl) ?_
  intro p e s m below meth c A ls H Q hQ hx hb hr hlocks hin hts hown hml hP hK hD hS hA hl
  have hl : lv_has ls 2 [(0, .ref z0), (1, .int k)] := hl
  have hown : s.vm.findClass R_Z = some m.cls := hown
  have ht : ∀ w ∈ BIG, w.before _ s = true := fun w h => hts w (List.mem_cons_of_mem _ h)
  refine lv_aload_n hx hb d_Z_isBlock_0 rfl (lv_at hl 0 rfl) ?_
  refine lv_iload_n hx hb d_Z_isBlock_1 rfl (lv_at hl 1 rfl) ?_
  refine lv_iconst (v := 0) hx hb d_Z_isBlock_2 (by decide) ?_
  refine lv_aload_n hx hb d_Z_isBlock_3 rfl (lv_at hl 0 rfl) ?_
  refine va_get (ci := 5) (v := .int bl) (C := R_Z) (T := T_Z) (N := 26) hx hb ht in_Z hown hK.1 hP 0 rfl rfl 2 (by decide) (ht _ k_fl_Z_60) (fun _ h9 => h9) rfl d_Z_isBlock_4 ?_
  refine lv_iconst (v := 1) hx hb d_Z_isBlock_7 (by decide) ?_
  refine lv_isub hx hb d_Z_isBlock_8 ?_
  refine goRi (va_runS (As := [.int k, .int 0, .int (bl - 1)]) (rest := [.ref z0]) ⟨hx, hb, hml, hown, hts⟩ (c_Z_within l D cI cL cO k 0 (bl - 1)) (cwS 3 hts (gBIG (m3 k_ml_Z_63 k_st_Z_within k_ini_Z) k_co_Z_within) rfl rfl rfl (by decide +kernel) ⟨Nat.le_of_ble_eq_true rfl, Nat.le_of_ble_eq_true rfl⟩) ⟨PR.bl, PR.pre P_nil hK⟩ rfl rfl hl.1 rfl (lv_room (Nat.le_of_ble_eq_true rfl)) d_Z_isBlock_9 ⟨Nat.le_of_ble_eq_true rfl, Nat.le_of_ble_eq_true rfl⟩) ?_
  refine lv_if_eq (tgt := 19) hx hb d_Z_isBlock_12 (by decide) (fun c_12 => ?_) (fun c_12 => ?_)
  · refine lv_iconst (v := 1) hx hb d_Z_isBlock_19 (by decide) ?_
    refine va_put (ci := 5) (v := .int 1) (ty := .int) (C := R_Z) (T := T_Z) (N := 26) hx hb ht in_Z t_Z t_Z_ok n_Z hown hK.1 hP hD hS 0 rfl rfl 0 (by decide) (ht _ k_fl_Z_57) (fun _ h9 => h9) rfl (by decide +kernel) rfl rfl (Nat.le_of_ble_eq_true rfl) d_Z_isBlock_20 (fun H locs hP hD hS => ?_)
    have hP : va_P D vwCl ((wZ cI cL z0 y1 y2 y3 y4 y5 y6 y7 y8 y9 y10 y11 y12 y13 y14 mn oo oa ob ss gg zz md sd da rg pp kp ot 1 li bl nw wr ru al sp en ke kb at0) ++ fr) H := hP
    have hD : va_D A ((wZ cI cL z0 y1 y2 y3 y4 y5 y6 y7 y8 y9 y10 y11 y12 y13 y14 mn oo oa ob ss gg zz md sd da rg pp kp ot 1 li bl nw wr ru al sp en ke kb at0) ++ fr) := hD
    refine lv_aload_n hx hb d_Z_isBlock_23 rfl (lv_at hl 0 rfl) ?_
    refine va_get (ci := 5) (v := .int 1) (C := R_Z) (T := T_Z) (N := 26) hx hb ht in_Z hown hK.1 hP 0 rfl rfl 0 (by decide) (ht _ k_fl_Z_57) (fun _ h9 => h9) rfl d_Z_isBlock_24 ?_
    refine lv_if_ne (tgt := 34) hx hb d_Z_isBlock_27 (by decide) (fun c_27 => ?_) (fun c_27 => ?_)
    · refine lv_iconst (v := 0) hx hb d_Z_isBlock_34 (by decide) ?_
      rw [hQ]; exact retMz (w1 := fun u : Int32 => ((wZ cI cL z0 y1 y2 y3 y4 y5 y6 y7 y8 y9 y10 y11 y12 y13 y14 mn oo oa ob ss gg zz md sd da rg pp kp ot u li bl nw wr ru al sp en ke kb at0) ++ fr)) 1 hx hb hr hlocks rfl hP hD hS ⟨wi_p c_12, (by rw [if_pos c_12])⟩ d_Z_isBlock_35
    · exact absurd c_27 (by decide)
  · refine lv_iconst (v := 0) hx hb d_Z_isBlock_15 (by decide) ?_
    refine lv_goto (tgt := 20) hx hb d_Z_isBlock_16 (by decide) ?_
    refine va_put (ci := 5) (v := .int 0) (ty := .int) (C := R_Z) (T := T_Z) (N := 26) hx hb ht in_Z t_Z t_Z_ok n_Z hown hK.1 hP hD hS 0 rfl rfl 0 (by decide) (ht _ k_fl_Z_57) (fun _ h9 => h9) rfl (by decide +kernel) rfl rfl (Nat.le_of_ble_eq_true rfl) d_Z_isBlock_20 (fun H locs hP hD hS => ?_)
    have hP : va_P D vwCl ((wZ cI cL z0 y1 y2 y3 y4 y5 y6 y7 y8 y9 y10 y11 y12 y13 y14 mn oo oa ob ss gg zz md sd da rg pp kp ot 0 li bl nw wr ru al sp en ke kb at0) ++ fr) H := hP
    have hD : va_D A ((wZ cI cL z0 y1 y2 y3 y4 y5 y6 y7 y8 y9 y10 y11 y12 y13 y14 mn oo oa ob ss gg zz md sd da rg pp kp ot 0 li bl nw wr ru al sp en ke kb at0) ++ fr) := hD
    refine lv_aload_n hx hb d_Z_isBlock_23 rfl (lv_at hl 0 rfl) ?_
    refine va_get (ci := 5) (v := .int 0) (C := R_Z) (T := T_Z) (N := 26) hx hb ht in_Z hown hK.1 hP 0 rfl rfl 0 (by decide) (ht _ k_fl_Z_57) (fun _ h9 => h9) rfl d_Z_isBlock_24 ?_
    refine lv_if_ne (tgt := 34) hx hb d_Z_isBlock_27 (by decide) (fun c_27 => ?_) (fun c_27 => ?_)
    · exact absurd c_27 (by decide)
    · refine lv_iconst (v := 1) hx hb d_Z_isBlock_30 (by decide) ?_
      refine lv_goto (tgt := 35) hx hb d_Z_isBlock_31 (by decide) ?_
      rw [hQ]; exact retMz (w1 := fun u : Int32 => ((wZ cI cL z0 y1 y2 y3 y4 y5 y6 y7 y8 y9 y10 y11 y12 y13 y14 mn oo oa ob ss gg zz md sd da rg pp kp ot u li bl nw wr ru al sp en ke kb at0) ++ fr)) 0 hx hb hr hlocks rfl hP hD hS ⟨wi_n c_12, (by rw [if_neg c_12])⟩ d_Z_isBlock_35

abbrev w_Z_block : List Cond := .code y_Z_block b_Z_block 1 (some .int) :: BIG
set_option maxHeartbeats 4000000 in
set_option maxRecDepth 100000 in
theorem c_Z_block (l : Launch) (D : va_G) (cI cL cO : ClassId) (z0 : Nat) (y1 : Nat) (y2 : Nat) (y3 : Nat) (y4 : Nat) (y5 : Nat) (y6 : Nat) (y7 : Nat) (y8 : Nat) (y9 : Nat) (y10 : Nat) (y11 : Nat) (y12 : Nat) (y13 : Nat) (y14 : Nat) (mn : Fn) (oo : Fn) (oa : Fn) (ob : Fn) (ss : Fn) (gg : Fn) (zz : Fn) (md : Fn) (sd : Fn) (da : Fn) (rg : FL) (pp : FL) (kp : FL) (ot : FL) (th : Int32) (li : Int32) (bl : Int32) (nw : Int32) (wr : Int32) (ru : Int32) (al : Int32) (sp : Int32) (en : Int32) (ke : Int32) (kb : Int32) (at0 : Int32) (fr : va_W) : CMi l y_Z_block w_Z_block ({ frames := 1, cells := 0, slots := 0, locals := 21 }) D cI cL cO [.ref z0] ((wZ cI cL z0 y1 y2 y3 y4 y5 y6 y7 y8 y9 y10 y11 y12 y13 y14 mn oo oa ob ss gg zz md sd da rg pp kp ot th li bl nw wr ru al sp en ke kb at0) ++ fr) (fun (r : Int32) (u : Int32 × Int32) => (r, u.1, u.2) = (if bl = 24 then (0, 1, bl) else (bl + 1 - 1, 0, bl + 1))) (fun u : Int32 × Int32 => ((wZ cI cL z0 y1 y2 y3 y4 y5 y6 y7 y8 y9 y10 y11 y12 y13 y14 mn oo oa ob ss gg zz md sd da rg pp kp ot u.1 li u.2 nw wr ru al sp en ke kb at0) ++ fr)) 0 0 := by
  refine ofMi (cc := b_Z_block) (maxL := 1) (ret := (some .int)) (by decide) rfl (Nat.le_of_ble_eq_true rfl) ?_
  intro p e s m below meth c A ls H Q hQ hx hb hr hlocks hin hts hown hml hP hK hD hS hA hl
  have hl : lv_has ls 1 [(0, .ref z0)] := hl
  have hown : s.vm.findClass R_Z = some m.cls := hown
  have ht : ∀ w ∈ BIG, w.before _ s = true := fun w h => hts w (List.mem_cons_of_mem _ h)
  refine lv_aload_n hx hb d_Z_block_0 rfl (lv_at hl 0 rfl) ?_
  refine lv_iconst (v := 0) hx hb d_Z_block_1 (by decide) ?_
  refine va_put (ci := 5) (v := .int 0) (ty := .int) (C := R_Z) (T := T_Z) (N := 26) hx hb ht in_Z t_Z t_Z_ok n_Z hown hK.1 hP hD hS 0 rfl rfl 0 (by decide) (ht _ k_fl_Z_57) (fun _ h9 => h9) rfl (by decide +kernel) rfl rfl (Nat.le_of_ble_eq_true rfl) d_Z_block_2 (fun H locs hP hD hS => ?_)
  have hP : va_P D vwCl ((wZ cI cL z0 y1 y2 y3 y4 y5 y6 y7 y8 y9 y10 y11 y12 y13 y14 mn oo oa ob ss gg zz md sd da rg pp kp ot 0 li bl nw wr ru al sp en ke kb at0) ++ fr) H := hP
  have hD : va_D A ((wZ cI cL z0 y1 y2 y3 y4 y5 y6 y7 y8 y9 y10 y11 y12 y13 y14 mn oo oa ob ss gg zz md sd da rg pp kp ot 0 li bl nw wr ru al sp en ke kb at0) ++ fr) := hD
  refine lv_aload_n hx hb d_Z_block_5 rfl (lv_at hl 0 rfl) ?_
  refine va_get (ci := 5) (v := .int bl) (C := R_Z) (T := T_Z) (N := 26) hx hb ht in_Z hown hK.1 hP 0 rfl rfl 2 (by decide) (ht _ k_fl_Z_60) (fun _ h9 => h9) rfl d_Z_block_6 ?_
  refine lv_bipush (v := 24) hx hb d_Z_block_9 (by decide) ?_
  refine lv_icmp_ne (tgt := 20) hx hb d_Z_block_11 (by decide) (fun c_11 => ?_) (fun c_11 => ?_)
  · refine lv_aload_n hx hb d_Z_block_20 rfl (lv_at hl 0 rfl) ?_
    refine lv_dup hx hb d_Z_block_21 rfl ?_
    refine va_get (ci := 5) (v := .int bl) (C := R_Z) (T := T_Z) (N := 26) hx hb ht in_Z hown hK.1 hP 0 rfl rfl 2 (by decide) (ht _ k_fl_Z_60) (fun _ h9 => h9) rfl d_Z_block_22 ?_
    refine lv_iconst (v := 1) hx hb d_Z_block_25 (by decide) ?_
    refine lv_iadd hx hb d_Z_block_26 ?_
    refine va_put (ci := 5) (v := .int (bl + 1)) (ty := .int) (C := R_Z) (T := T_Z) (N := 26) hx hb ht in_Z t_Z t_Z_ok n_Z hown hK.1 hP hD hS 0 rfl rfl 2 (by decide) (ht _ k_fl_Z_60) (fun _ h9 => h9) rfl (by decide +kernel) rfl rfl (Nat.le_of_ble_eq_true rfl) d_Z_block_27 (fun H locs hP hD hS => ?_)
    have hP : va_P D vwCl ((wZ cI cL z0 y1 y2 y3 y4 y5 y6 y7 y8 y9 y10 y11 y12 y13 y14 mn oo oa ob ss gg zz md sd da rg pp kp ot 0 li (bl + 1) nw wr ru al sp en ke kb at0) ++ fr) H := hP
    have hD : va_D A ((wZ cI cL z0 y1 y2 y3 y4 y5 y6 y7 y8 y9 y10 y11 y12 y13 y14 mn oo oa ob ss gg zz md sd da rg pp kp ot 0 li (bl + 1) nw wr ru al sp en ke kb at0) ++ fr) := hD
    refine lv_aload_n hx hb d_Z_block_30 rfl (lv_at hl 0 rfl) ?_
    refine va_get (ci := 5) (v := .int (bl + 1)) (C := R_Z) (T := T_Z) (N := 26) hx hb ht in_Z hown hK.1 hP 0 rfl rfl 2 (by decide) (ht _ k_fl_Z_60) (fun _ h9 => h9) rfl d_Z_block_31 ?_
    refine lv_iconst (v := 1) hx hb d_Z_block_34 (by decide) ?_
    refine lv_isub hx hb d_Z_block_35 ?_
    rw [hQ]; exact retMi (w1 := fun u : Int32 × Int32 => ((wZ cI cL z0 y1 y2 y3 y4 y5 y6 y7 y8 y9 y10 y11 y12 y13 y14 mn oo oa ob ss gg zz md sd da rg pp kp ot u.1 li u.2 nw wr ru al sp en ke kb at0) ++ fr)) (0, bl + 1) hx hb hr hlocks hP hD hS (by rw [if_neg c_11]) d_Z_block_36
  · refine lv_aload_n hx hb d_Z_block_14 rfl (lv_at hl 0 rfl) ?_
    refine lv_iconst (v := 1) hx hb d_Z_block_15 (by decide) ?_
    refine goMi (va_runV (As := [.int 1]) (rest := []) ⟨hx, hb, hml, hown, hts⟩ (c_Z_fail l D cI cL cO z0 y1 y2 y3 y4 y5 y6 y7 y8 y9 y10 y11 y12 y13 y14 mn oo oa ob ss gg zz md sd da rg pp kp ot 0 li bl nw wr ru al sp en ke kb at0 fr 1 H.size) (cwV 1 hts (gBIG (m4 k_ml_Z_67 k_im_Z_fail k_sel_Z_fail k_ini_Z) k_co_Z_fail) rfl rfl rfl (by decide +kernel) ⟨Nat.le_of_ble_eq_true rfl, Nat.le_of_ble_eq_true rfl⟩) ⟨PM.bl, va_recv hK.1 hP (ci := 5) (q0 := 0) rfl rfl, PM.pre hP hD hK⟩ rfl rfl hl.1 rfl (lv_room (Nat.le_of_ble_eq_true rfl)) d_Z_block_16 ⟨Nat.le_of_ble_eq_true rfl, Nat.le_of_ble_eq_true rfl⟩) hD hS hA (fun r_16 u H locs hw hP hD hS => ?_)
    obtain ⟨rfl, rfl⟩ := hw
    have hP : va_P D vwCl ((wZ cI cL z0 y1 y2 y3 y4 y5 y6 y7 y8 y9 y10 y11 y12 y13 y14 mn oo oa ob ss gg zz md sd da rg pp kp ot 1 li bl nw wr ru al sp en ke kb at0) ++ fr) H := hP
    have hD : va_D A ((wZ cI cL z0 y1 y2 y3 y4 y5 y6 y7 y8 y9 y10 y11 y12 y13 y14 mn oo oa ob ss gg zz md sd da rg pp kp ot 1 li bl nw wr ru al sp en ke kb at0) ++ fr) := hD
    rw [hQ]; exact retMi (w1 := fun u : Int32 × Int32 => ((wZ cI cL z0 y1 y2 y3 y4 y5 y6 y7 y8 y9 y10 y11 y12 y13 y14 mn oo oa ob ss gg zz md sd da rg pp kp ot u.1 li u.2 nw wr ru al sp en ke kb at0) ++ fr)) (1, bl) hx hb hr hlocks hP hD hS (by rw [if_pos c_11]) d_Z_block_19
end
section
theorem i32_mul {x y : Int32} (h1 : -2147483648 ≤ x.toInt * y.toInt) (h2 : x.toInt * y.toInt < 2147483648) : (x * y).toInt = x.toInt * y.toInt := by
  rw [Int32.toInt_mul]
  exact Int.bmod_eq_of_le (by omega) (by omega)
theorem ix60 {P : Prop} {k i : Int32} (hk : 0 ≤ k.toInt ∧ k.toInt < 24 ∧ P) (hi : 0 ≤ i.toInt ∧ i.toInt < 60) : (60 * k + i).toInt = 60 * k.toInt + i.toInt := by
  have h6 : (60 : Int32).toInt = 60 := by decide
  have h : (60 * k).toInt = 60 * k.toInt := by rw [i32_mul (by rw [h6]; omega) (by rw [h6]; omega), h6]
  rw [i32_add (by omega) (by omega), h]
theorem in60 {P : Prop} {k i : Int32} (hk : 0 ≤ k.toInt ∧ k.toInt < 24 ∧ P) (hi : 0 ≤ i.toInt ∧ i.toInt < 60) : vp_in (60 * k + i) 1440 := vp_in_iff.mpr (by rw [ix60 hk hi]; omega)
theorem ix300 {P : Prop} {k i : Int32} (hk : 0 ≤ k.toInt ∧ k.toInt < 24 ∧ P) (hi : 0 ≤ i.toInt ∧ i.toInt < 300) : (300 * k + i).toInt = 300 * k.toInt + i.toInt := by
  have h6 : (300 : Int32).toInt = 300 := by decide
  have h : (300 * k).toInt = 300 * k.toInt := by rw [i32_mul (by rw [h6]; omega) (by rw [h6]; omega), h6]
  rw [i32_add (by omega) (by omega), h]
theorem in300 {P : Prop} {k i : Int32} (hk : 0 ≤ k.toInt ∧ k.toInt < 24 ∧ P) (hi : 0 ≤ i.toInt ∧ i.toInt < 300) : vp_in (300 * k + i) 7200 := vp_in_iff.mpr (by rw [ix300 hk hi]; omega)
theorem kc {P : Prop} {k : Int32} (h : 0 ≤ k.toInt ∧ k.toInt < 24 ∧ P) : k.toNatClampNeg < 24 := by have := clN h.1; omega
theorem mn60 {x : Int32} (h : 0 ≤ x.toInt ∧ x.toInt ≤ 60) (c : ¬ x = 60) : 0 ≤ x.toInt ∧ x.toInt < 60 := by
  have h6 : (60 : Int32).toInt = 60 := by decide
  have : ¬ x.toInt = 60 := fun q => c (Int32.toInt_inj.mp (by rw [h6]; exact q))
  omega
def zinsF (k o x y bl : Int32) (mn oo oa ob ss : Fn) : Int32 × Int32 × Fn × Fn × Fn × Fn × Fn :=
  if wiF k 0 (bl - 1) = 0 then (0, 1, mn, oo, oa, ob, ss) else if zinF o x y = 0 then (0, 2, mn, oo, oa, ob, ss) else if mn k.toNatClampNeg = 60 then (0, 3, mn, oo, oa, ob, ss)
  else (mn k.toNatClampNeg + 1, 0, upd mn k.toNatClampNeg (mn k.toNatClampNeg + 1), upd oo (60 * k + mn k.toNatClampNeg).toNatClampNeg o, upd oa (60 * k + mn k.toNatClampNeg).toNatClampNeg x, upd ob (60 * k + mn k.toNatClampNeg).toNatClampNeg y, upd ss k.toNatClampNeg 0)
def zbatF (k i bl : Int32) (ss zz md : Fn) : Int32 × Int32 :=
  if wiF k 0 (bl - 1) = 0 then (0, 1) else if ss k.toNatClampNeg = 0 then (0, 2) else if wiF i 0 (zz k.toNatClampNeg - 1) = 0 then (0, 3) else (md (300 * k + i).toNatClampNeg, 0)
def zaltF (k i v bl : Int32) (ss zz md : Fn) : Int32 × Int32 × Fn :=
  if wiF k 0 (bl - 1) = 0 then (0, 1, md) else if ss k.toNatClampNeg = 1 then (if wiF i 0 (zz k.toNatClampNeg - 1) = 0 then (0, 3, md) else if wiF v 0 255 = 0 then (0, 3, md) else (md (300 * k + i).toNatClampNeg, 0, upd md (300 * k + i).toNatClampNeg v)) else (0, 2, md)
def zwhaF (k w bl : Int32) (mn ss gg zz : Fn) : Int32 × Int32 :=
  if wiF k 0 (bl - 1) = 0 then (0, 1) else if w = 0 then (ss k.toNatClampNeg, 0) else if w = 1 then (if ss k.toNatClampNeg = 0 then (-1, 0) else (gg k.toNatClampNeg, 0)) else if w = 2 then (mn k.toNatClampNeg, 0) else if w = 3 then (if ss k.toNatClampNeg = 0 then (0, 0) else (zz k.toNatClampNeg, 0)) else (0, 2)
theorem zz_i {x i : Int32} (hz : 0 ≤ x.toInt ∧ x.toInt ≤ 300) (h : ¬ wiF i 0 (x - 1) = 0) : 0 ≤ i.toInt ∧ i.toInt < 300 := by
  have h1 := wi_r h
  rw [i32_m (by omega), Int32.toInt_zero] at h1
  omega

theorem in_w4 {i : Int32} (h : ¬ wiF i 0 3 = 0) : vp_in i 4 := by
  have h1 := wi_r h
  rw [Int32.toInt_zero, show (3 : Int32).toInt = 3 by decide] at h1
  exact vp_in_iff.mpr ⟨h1.1, by omega⟩

abbrev w_Z_instruction : List Cond := .code y_Z_instruction b_Z_instruction 6 (some .int) :: BIG
set_option maxHeartbeats 4000000 in
set_option maxRecDepth 100000 in
theorem c_Z_instruction (l : Launch) (D : va_G) (cI cL cO : ClassId) (z0 : Nat) (y1 : Nat) (y2 : Nat) (y3 : Nat) (y4 : Nat) (y5 : Nat) (y6 : Nat) (y7 : Nat) (y8 : Nat) (y9 : Nat) (y10 : Nat) (y11 : Nat) (y12 : Nat) (y13 : Nat) (y14 : Nat) (mn : Fn) (oo : Fn) (oa : Fn) (ob : Fn) (ss : Fn) (gg : Fn) (zz : Fn) (md : Fn) (sd : Fn) (da : Fn) (rg : FL) (pp : FL) (kp : FL) (ot : FL) (th : Int32) (li : Int32) (bl : Int32) (nw : Int32) (wr : Int32) (ru : Int32) (al : Int32) (sp : Int32) (en : Int32) (ke : Int32) (kb : Int32) (at0 : Int32) (fr : va_W) (k : Int32) (ox : Int32) (x : Int32) (y : Int32) (hbl : 0 ≤ bl.toInt ∧ bl.toInt ≤ 24) (hmn : ∀ j, j < 24 → 0 ≤ (mn j).toInt ∧ (mn j).toInt ≤ 60) : CMi l y_Z_instruction w_Z_instruction ({ frames := 2, cells := 0, slots := 0, locals := 44 }) D cI cL cO [.ref z0, .int k, .int ox, .int x, .int y] ((wZ cI cL z0 y1 y2 y3 y4 y5 y6 y7 y8 y9 y10 y11 y12 y13 y14 mn oo oa ob ss gg zz md sd da rg pp kp ot th li bl nw wr ru al sp en ke kb at0) ++ fr) (fun (r : Int32) (u : Int32 × Fn × Fn × Fn × Fn × Fn) => (r, u.1, u.2.1, u.2.2.1, u.2.2.2.1, u.2.2.2.2.1, u.2.2.2.2.2) = zinsF k ox x y bl mn oo oa ob ss) (fun u : Int32 × Fn × Fn × Fn × Fn × Fn => ((wZ cI cL z0 y1 y2 y3 y4 y5 y6 y7 y8 y9 y10 y11 y12 y13 y14 u.2.1 u.2.2.1 u.2.2.2.1 u.2.2.2.2.1 u.2.2.2.2.2 gg zz md sd da rg pp kp ot u.1 li bl nw wr ru al sp en ke kb at0) ++ fr)) 0 0 := by
  refine ofMi (cc := b_Z_instruction) (maxL := 6) (ret := (some .int)) (by decide) rfl (Nat.le_of_ble_eq_true rfl) ?_
  intro p e s m below meth c A ls H Q hQ hx hb hr hlocks hin hts hown hml hP hK hD hS hA hl
  have hl : lv_has ls 6 [(0, .ref z0), (1, .int k), (2, .int ox), (3, .int x), (4, .int y)] := hl
  have hown : s.vm.findClass R_Z = some m.cls := hown
  have ht : ∀ w ∈ BIG, w.before _ s = true := fun w h => hts w (List.mem_cons_of_mem _ h)
  refine lv_aload_n hx hb d_Z_instruction_0 rfl (lv_at hl 0 rfl) ?_
  refine lv_iload_n hx hb d_Z_instruction_1 rfl (lv_at hl 1 rfl) ?_
  refine goMi (va_runV (As := [.int k]) (rest := []) ⟨hx, hb, hml, hown, hts⟩ (c_Z_isBlock l D cI cL cO z0 y1 y2 y3 y4 y5 y6 y7 y8 y9 y10 y11 y12 y13 y14 mn oo oa ob ss gg zz md sd da rg pp kp ot th li bl nw wr ru al sp en ke kb at0 fr k H.size) (cwV 1 hts (gBIG (m4 k_ml_Z_71 k_im_Z_isBlock k_sel_Z_isBlock k_ini_Z) k_co_Z_isBlock) rfl rfl rfl (by decide +kernel) ⟨Nat.le_of_ble_eq_true rfl, Nat.le_of_ble_eq_true rfl⟩) ⟨PM.bl, va_recv hK.1 hP (ci := 5) (q0 := 0) rfl rfl, PM.pre hP hD hK⟩ rfl rfl hl.1 rfl (lv_room (Nat.le_of_ble_eq_true rfl)) d_Z_instruction_2 ⟨Nat.le_of_ble_eq_true rfl, Nat.le_of_ble_eq_true rfl⟩) hD hS hA (fun r_2 u H locs hw hP hD hS => ?_)
  obtain ⟨rfl, rfl⟩ := hw
  have hP : va_P D vwCl ((wZ cI cL z0 y1 y2 y3 y4 y5 y6 y7 y8 y9 y10 y11 y12 y13 y14 mn oo oa ob ss gg zz md sd da rg pp kp ot (if wiF k 0 (bl - 1) = 0 then 1 else 0) li bl nw wr ru al sp en ke kb at0) ++ fr) H := hP
  have hD : va_D A ((wZ cI cL z0 y1 y2 y3 y4 y5 y6 y7 y8 y9 y10 y11 y12 y13 y14 mn oo oa ob ss gg zz md sd da rg pp kp ot (if wiF k 0 (bl - 1) = 0 then 1 else 0) li bl nw wr ru al sp en ke kb at0) ++ fr) := hD
  refine lv_if_ne (tgt := 10) hx hb d_Z_instruction_5 (by decide) (fun c_5 => ?_) (fun c_5 => ?_)
  · refine lv_iload_n hx hb d_Z_instruction_10 rfl (lv_at hl 2 rfl) ?_
    refine lv_iload_n hx hb d_Z_instruction_11 rfl (lv_at hl 3 rfl) ?_
    refine lv_iload hx hb d_Z_instruction_12 (lv_at hl 4 rfl) ?_
    refine goRi (va_runS (As := [.int ox, .int x, .int y]) (rest := []) ⟨hx, hb, hml, hown, hts⟩ (c_Z_isInstruction l D cI cL cO ox x y) (cwS 3 hts (gBIG (m3 k_ml_Z_75 k_st_Z_isInstruction k_ini_Z) k_co_Z_isInstruction) rfl rfl rfl (by decide +kernel) ⟨Nat.le_of_ble_eq_true rfl, Nat.le_of_ble_eq_true rfl⟩) ⟨PR.bl, PR.pre P_nil hK⟩ rfl rfl hl.1 rfl (lv_room (Nat.le_of_ble_eq_true rfl)) d_Z_instruction_14 ⟨Nat.le_of_ble_eq_true rfl, Nat.le_of_ble_eq_true rfl⟩) ?_
    refine lv_if_ne (tgt := 26) hx hb d_Z_instruction_17 (by decide) (fun c_17 => ?_) (fun c_17 => ?_)
    · refine lv_aload_n hx hb d_Z_instruction_26 rfl (lv_at hl 0 rfl) ?_
      refine va_get (ci := 5) (v := .ref y1) (C := R_Z) (T := T_Z) (N := 26) hx hb ht in_Z hown hK.1 hP 0 rfl rfl 7 (by decide) (ht _ k_fl_Z_7) (fun _ h9 => h9) rfl d_Z_instruction_27 ?_
      refine lv_iload_n hx hb d_Z_instruction_30 rfl (lv_at hl 1 rfl) ?_
      refine va_iald hx hb hK.1 hP 1 0 rfl rfl (in_k (wi_k hbl c_5)) d_Z_instruction_31 ?_
      refine lv_bipush (v := 60) hx hb d_Z_instruction_32 (by decide) ?_
      refine lv_icmp_ne (tgt := 43) hx hb d_Z_instruction_34 (by decide) (fun c_34 => ?_) (fun c_34 => ?_)
      · refine lv_bipush (v := 60) hx hb d_Z_instruction_43 (by decide) ?_
        refine lv_iload_n hx hb d_Z_instruction_45 rfl (lv_at hl 1 rfl) ?_
        refine lv_imul hx hb d_Z_instruction_46 ?_
        refine lv_aload_n hx hb d_Z_instruction_47 rfl (lv_at hl 0 rfl) ?_
        refine va_get (ci := 5) (v := .ref y1) (C := R_Z) (T := T_Z) (N := 26) hx hb ht in_Z hown hK.1 hP 0 rfl rfl 7 (by decide) (ht _ k_fl_Z_7) (fun _ h9 => h9) rfl d_Z_instruction_48 ?_
        refine lv_iload_n hx hb d_Z_instruction_51 rfl (lv_at hl 1 rfl) ?_
        refine va_iald hx hb hK.1 hP 1 0 rfl rfl (in_k (wi_k hbl c_5)) d_Z_instruction_52 ?_
        refine lv_iadd hx hb d_Z_instruction_53 ?_
        refine lv_istore (lv' := [(5, .int ((60 * k) + (mn k.toNatClampNeg))), (0, .ref z0), (1, .int k), (2, .int ox), (3, .int x), (4, .int y)]) hx hb d_Z_instruction_54 hl (by decide) rfl (fun ls hl => ?_)
        refine lv_aload_n hx hb d_Z_instruction_56 rfl (lv_at hl 1 rfl) ?_
        refine va_get (ci := 5) (v := .ref y2) (C := R_Z) (T := T_Z) (N := 26) hx hb ht in_Z hown hK.1 hP 0 rfl rfl 8 (by decide) (ht _ k_fl_Z_13) (fun _ h9 => h9) rfl d_Z_instruction_57 ?_
        refine lv_iload hx hb d_Z_instruction_60 (lv_at hl 0 rfl) ?_
        refine lv_iload_n hx hb d_Z_instruction_62 rfl (lv_at hl 3 rfl) ?_
        refine va_iast hx hb hK.1 hP hD hS 2 0 rfl rfl (in60 (wi_k hbl c_5) (mn60 (hmn _ (kc (wi_k hbl c_5))) c_34)) d_Z_instruction_63 (fun H locs hP hD hS => ?_)
        have hP : va_P D vwCl ((wZ cI cL z0 y1 y2 y3 y4 y5 y6 y7 y8 y9 y10 y11 y12 y13 y14 mn (upd oo ((60 * k) + (mn k.toNatClampNeg)).toNatClampNeg ox) oa ob ss gg zz md sd da rg pp kp ot (if wiF k 0 (bl - 1) = 0 then 1 else 0) li bl nw wr ru al sp en ke kb at0) ++ fr) H := hP
        have hD : va_D A ((wZ cI cL z0 y1 y2 y3 y4 y5 y6 y7 y8 y9 y10 y11 y12 y13 y14 mn (upd oo ((60 * k) + (mn k.toNatClampNeg)).toNatClampNeg ox) oa ob ss gg zz md sd da rg pp kp ot (if wiF k 0 (bl - 1) = 0 then 1 else 0) li bl nw wr ru al sp en ke kb at0) ++ fr) := hD
        refine lv_aload_n hx hb d_Z_instruction_64 rfl (lv_at hl 1 rfl) ?_
        refine va_get (ci := 5) (v := .ref y3) (C := R_Z) (T := T_Z) (N := 26) hx hb ht in_Z hown hK.1 hP 0 rfl rfl 9 (by decide) (ht _ k_fl_Z_16) (fun _ h9 => h9) rfl d_Z_instruction_65 ?_
        refine lv_iload hx hb d_Z_instruction_68 (lv_at hl 0 rfl) ?_
        refine lv_iload_n hx hb d_Z_instruction_70 rfl (lv_at hl 4 rfl) ?_
        refine va_iast hx hb hK.1 hP hD hS 3 0 rfl rfl (in60 (wi_k hbl c_5) (mn60 (hmn _ (kc (wi_k hbl c_5))) c_34)) d_Z_instruction_71 (fun H locs hP hD hS => ?_)
        have hP : va_P D vwCl ((wZ cI cL z0 y1 y2 y3 y4 y5 y6 y7 y8 y9 y10 y11 y12 y13 y14 mn (upd oo ((60 * k) + (mn k.toNatClampNeg)).toNatClampNeg ox) (upd oa ((60 * k) + (mn k.toNatClampNeg)).toNatClampNeg x) ob ss gg zz md sd da rg pp kp ot (if wiF k 0 (bl - 1) = 0 then 1 else 0) li bl nw wr ru al sp en ke kb at0) ++ fr) H := hP
        have hD : va_D A ((wZ cI cL z0 y1 y2 y3 y4 y5 y6 y7 y8 y9 y10 y11 y12 y13 y14 mn (upd oo ((60 * k) + (mn k.toNatClampNeg)).toNatClampNeg ox) (upd oa ((60 * k) + (mn k.toNatClampNeg)).toNatClampNeg x) ob ss gg zz md sd da rg pp kp ot (if wiF k 0 (bl - 1) = 0 then 1 else 0) li bl nw wr ru al sp en ke kb at0) ++ fr) := hD
        refine lv_aload_n hx hb d_Z_instruction_72 rfl (lv_at hl 1 rfl) ?_
        refine va_get (ci := 5) (v := .ref y4) (C := R_Z) (T := T_Z) (N := 26) hx hb ht in_Z hown hK.1 hP 0 rfl rfl 10 (by decide) (ht _ k_fl_Z_19) (fun _ h9 => h9) rfl d_Z_instruction_73 ?_
        refine lv_iload hx hb d_Z_instruction_76 (lv_at hl 0 rfl) ?_
        refine lv_iload hx hb d_Z_instruction_78 (lv_at hl 5 rfl) ?_
        refine va_iast hx hb hK.1 hP hD hS 4 0 rfl rfl (in60 (wi_k hbl c_5) (mn60 (hmn _ (kc (wi_k hbl c_5))) c_34)) d_Z_instruction_80 (fun H locs hP hD hS => ?_)
        have hP : va_P D vwCl ((wZ cI cL z0 y1 y2 y3 y4 y5 y6 y7 y8 y9 y10 y11 y12 y13 y14 mn (upd oo ((60 * k) + (mn k.toNatClampNeg)).toNatClampNeg ox) (upd oa ((60 * k) + (mn k.toNatClampNeg)).toNatClampNeg x) (upd ob ((60 * k) + (mn k.toNatClampNeg)).toNatClampNeg y) ss gg zz md sd da rg pp kp ot (if wiF k 0 (bl - 1) = 0 then 1 else 0) li bl nw wr ru al sp en ke kb at0) ++ fr) H := hP
        have hD : va_D A ((wZ cI cL z0 y1 y2 y3 y4 y5 y6 y7 y8 y9 y10 y11 y12 y13 y14 mn (upd oo ((60 * k) + (mn k.toNatClampNeg)).toNatClampNeg ox) (upd oa ((60 * k) + (mn k.toNatClampNeg)).toNatClampNeg x) (upd ob ((60 * k) + (mn k.toNatClampNeg)).toNatClampNeg y) ss gg zz md sd da rg pp kp ot (if wiF k 0 (bl - 1) = 0 then 1 else 0) li bl nw wr ru al sp en ke kb at0) ++ fr) := hD
        refine lv_aload_n hx hb d_Z_instruction_81 rfl (lv_at hl 1 rfl) ?_
        refine va_get (ci := 5) (v := .ref y1) (C := R_Z) (T := T_Z) (N := 26) hx hb ht in_Z hown hK.1 hP 0 rfl rfl 7 (by decide) (ht _ k_fl_Z_7) (fun _ h9 => h9) rfl d_Z_instruction_82 ?_
        refine lv_iload_n hx hb d_Z_instruction_85 rfl (lv_at hl 2 rfl) ?_
        refine lv_dup2_11 hx hb d_Z_instruction_86 rfl rfl ?_
        refine va_iald hx hb hK.1 hP 1 0 rfl rfl (in_k (wi_k hbl c_5)) d_Z_instruction_87 ?_
        refine lv_iconst (v := 1) hx hb d_Z_instruction_88 (by decide) ?_
        refine lv_iadd hx hb d_Z_instruction_89 ?_
        refine va_iast hx hb hK.1 hP hD hS 1 0 rfl rfl (in_k (wi_k hbl c_5)) d_Z_instruction_90 (fun H locs hP hD hS => ?_)
        have hP : va_P D vwCl ((wZ cI cL z0 y1 y2 y3 y4 y5 y6 y7 y8 y9 y10 y11 y12 y13 y14 (upd mn k.toNatClampNeg ((mn k.toNatClampNeg) + 1)) (upd oo ((60 * k) + (mn k.toNatClampNeg)).toNatClampNeg ox) (upd oa ((60 * k) + (mn k.toNatClampNeg)).toNatClampNeg x) (upd ob ((60 * k) + (mn k.toNatClampNeg)).toNatClampNeg y) ss gg zz md sd da rg pp kp ot (if wiF k 0 (bl - 1) = 0 then 1 else 0) li bl nw wr ru al sp en ke kb at0) ++ fr) H := hP
        have hD : va_D A ((wZ cI cL z0 y1 y2 y3 y4 y5 y6 y7 y8 y9 y10 y11 y12 y13 y14 (upd mn k.toNatClampNeg ((mn k.toNatClampNeg) + 1)) (upd oo ((60 * k) + (mn k.toNatClampNeg)).toNatClampNeg ox) (upd oa ((60 * k) + (mn k.toNatClampNeg)).toNatClampNeg x) (upd ob ((60 * k) + (mn k.toNatClampNeg)).toNatClampNeg y) ss gg zz md sd da rg pp kp ot (if wiF k 0 (bl - 1) = 0 then 1 else 0) li bl nw wr ru al sp en ke kb at0) ++ fr) := hD
        refine lv_aload_n hx hb d_Z_instruction_91 rfl (lv_at hl 1 rfl) ?_
        refine va_get (ci := 5) (v := .ref y5) (C := R_Z) (T := T_Z) (N := 26) hx hb ht in_Z hown hK.1 hP 0 rfl rfl 11 (by decide) (ht _ k_fl_Z_22) (fun _ h9 => h9) rfl d_Z_instruction_92 ?_
        refine lv_iload_n hx hb d_Z_instruction_95 rfl (lv_at hl 2 rfl) ?_
        refine lv_iconst (v := 0) hx hb d_Z_instruction_96 (by decide) ?_
        refine va_iast hx hb hK.1 hP hD hS 5 0 rfl rfl (in_k (wi_k hbl c_5)) d_Z_instruction_97 (fun H locs hP hD hS => ?_)
        have hP : va_P D vwCl ((wZ cI cL z0 y1 y2 y3 y4 y5 y6 y7 y8 y9 y10 y11 y12 y13 y14 (upd mn k.toNatClampNeg ((mn k.toNatClampNeg) + 1)) (upd oo ((60 * k) + (mn k.toNatClampNeg)).toNatClampNeg ox) (upd oa ((60 * k) + (mn k.toNatClampNeg)).toNatClampNeg x) (upd ob ((60 * k) + (mn k.toNatClampNeg)).toNatClampNeg y) (upd ss k.toNatClampNeg 0) gg zz md sd da rg pp kp ot (if wiF k 0 (bl - 1) = 0 then 1 else 0) li bl nw wr ru al sp en ke kb at0) ++ fr) H := hP
        have hD : va_D A ((wZ cI cL z0 y1 y2 y3 y4 y5 y6 y7 y8 y9 y10 y11 y12 y13 y14 (upd mn k.toNatClampNeg ((mn k.toNatClampNeg) + 1)) (upd oo ((60 * k) + (mn k.toNatClampNeg)).toNatClampNeg ox) (upd oa ((60 * k) + (mn k.toNatClampNeg)).toNatClampNeg x) (upd ob ((60 * k) + (mn k.toNatClampNeg)).toNatClampNeg y) (upd ss k.toNatClampNeg 0) gg zz md sd da rg pp kp ot (if wiF k 0 (bl - 1) = 0 then 1 else 0) li bl nw wr ru al sp en ke kb at0) ++ fr) := hD
        refine lv_aload_n hx hb d_Z_instruction_98 rfl (lv_at hl 1 rfl) ?_
        refine va_get (ci := 5) (v := .ref y1) (C := R_Z) (T := T_Z) (N := 26) hx hb ht in_Z hown hK.1 hP 0 rfl rfl 7 (by decide) (ht _ k_fl_Z_7) (fun _ h9 => h9) rfl d_Z_instruction_99 ?_
        refine lv_iload_n hx hb d_Z_instruction_102 rfl (lv_at hl 2 rfl) ?_
        refine va_iald hx hb hK.1 hP 1 0 rfl rfl (in_k (wi_k hbl c_5)) d_Z_instruction_103 ?_
        rw [hQ]; exact retMi (w1 := fun u : Int32 × Fn × Fn × Fn × Fn × Fn => ((wZ cI cL z0 y1 y2 y3 y4 y5 y6 y7 y8 y9 y10 y11 y12 y13 y14 u.2.1 u.2.2.1 u.2.2.2.1 u.2.2.2.2.1 u.2.2.2.2.2 gg zz md sd da rg pp kp ot u.1 li bl nw wr ru al sp en ke kb at0) ++ fr)) (if wiF k 0 (bl - 1) = 0 then 1 else 0, upd mn k.toNatClampNeg ((mn k.toNatClampNeg) + 1), upd oo ((60 * k) + (mn k.toNatClampNeg)).toNatClampNeg ox, upd oa ((60 * k) + (mn k.toNatClampNeg)).toNatClampNeg x, upd ob ((60 * k) + (mn k.toNatClampNeg)).toNatClampNeg y, upd ss k.toNatClampNeg 0) hx hb hr hlocks hP hD hS (by first | (simp only [zinsF, pk_us, if_neg c_5, if_neg c_17, if_neg c_34]; done) | simp [zinsF, pk_us, c_5, c_17, c_34]) d_Z_instruction_104
      · refine lv_aload_n hx hb d_Z_instruction_37 rfl (lv_at hl 0 rfl) ?_
        refine lv_iconst (v := 3) hx hb d_Z_instruction_38 (by decide) ?_
        refine goMi (va_runV (As := [.int 3]) (rest := []) ⟨hx, hb, hml, hown, hts⟩ (c_Z_fail l D cI cL cO z0 y1 y2 y3 y4 y5 y6 y7 y8 y9 y10 y11 y12 y13 y14 mn oo oa ob ss gg zz md sd da rg pp kp ot (if wiF k 0 (bl - 1) = 0 then 1 else 0) li bl nw wr ru al sp en ke kb at0 fr 3 H.size) (cwV 1 hts (gBIG (m4 k_ml_Z_67 k_im_Z_fail k_sel_Z_fail k_ini_Z) k_co_Z_fail) rfl rfl rfl (by decide +kernel) ⟨Nat.le_of_ble_eq_true rfl, Nat.le_of_ble_eq_true rfl⟩) ⟨PM.bl, va_recv hK.1 hP (ci := 5) (q0 := 0) rfl rfl, PM.pre hP hD hK⟩ rfl rfl hl.1 rfl (lv_room (Nat.le_of_ble_eq_true rfl)) d_Z_instruction_39 ⟨Nat.le_of_ble_eq_true rfl, Nat.le_of_ble_eq_true rfl⟩) hD hS hA (fun r_39 u H locs hw hP hD hS => ?_)
        obtain ⟨rfl, rfl⟩ := hw
        have hP : va_P D vwCl ((wZ cI cL z0 y1 y2 y3 y4 y5 y6 y7 y8 y9 y10 y11 y12 y13 y14 mn oo oa ob ss gg zz md sd da rg pp kp ot 3 li bl nw wr ru al sp en ke kb at0) ++ fr) H := hP
        have hD : va_D A ((wZ cI cL z0 y1 y2 y3 y4 y5 y6 y7 y8 y9 y10 y11 y12 y13 y14 mn oo oa ob ss gg zz md sd da rg pp kp ot 3 li bl nw wr ru al sp en ke kb at0) ++ fr) := hD
        rw [hQ]; exact retMi (w1 := fun u : Int32 × Fn × Fn × Fn × Fn × Fn => ((wZ cI cL z0 y1 y2 y3 y4 y5 y6 y7 y8 y9 y10 y11 y12 y13 y14 u.2.1 u.2.2.1 u.2.2.2.1 u.2.2.2.2.1 u.2.2.2.2.2 gg zz md sd da rg pp kp ot u.1 li bl nw wr ru al sp en ke kb at0) ++ fr)) (3, mn, oo, oa, ob, ss) hx hb hr hlocks hP hD hS (by first | (simp only [zinsF, pk_us, if_neg c_5, if_neg c_17, if_pos c_34]; done) | simp [zinsF, pk_us, c_5, c_17, c_34]) d_Z_instruction_42
    · refine lv_aload_n hx hb d_Z_instruction_20 rfl (lv_at hl 0 rfl) ?_
      refine lv_iconst (v := 2) hx hb d_Z_instruction_21 (by decide) ?_
      refine goMi (va_runV (As := [.int 2]) (rest := []) ⟨hx, hb, hml, hown, hts⟩ (c_Z_fail l D cI cL cO z0 y1 y2 y3 y4 y5 y6 y7 y8 y9 y10 y11 y12 y13 y14 mn oo oa ob ss gg zz md sd da rg pp kp ot (if wiF k 0 (bl - 1) = 0 then 1 else 0) li bl nw wr ru al sp en ke kb at0 fr 2 H.size) (cwV 1 hts (gBIG (m4 k_ml_Z_67 k_im_Z_fail k_sel_Z_fail k_ini_Z) k_co_Z_fail) rfl rfl rfl (by decide +kernel) ⟨Nat.le_of_ble_eq_true rfl, Nat.le_of_ble_eq_true rfl⟩) ⟨PM.bl, va_recv hK.1 hP (ci := 5) (q0 := 0) rfl rfl, PM.pre hP hD hK⟩ rfl rfl hl.1 rfl (lv_room (Nat.le_of_ble_eq_true rfl)) d_Z_instruction_22 ⟨Nat.le_of_ble_eq_true rfl, Nat.le_of_ble_eq_true rfl⟩) hD hS hA (fun r_22 u H locs hw hP hD hS => ?_)
      obtain ⟨rfl, rfl⟩ := hw
      have hP : va_P D vwCl ((wZ cI cL z0 y1 y2 y3 y4 y5 y6 y7 y8 y9 y10 y11 y12 y13 y14 mn oo oa ob ss gg zz md sd da rg pp kp ot 2 li bl nw wr ru al sp en ke kb at0) ++ fr) H := hP
      have hD : va_D A ((wZ cI cL z0 y1 y2 y3 y4 y5 y6 y7 y8 y9 y10 y11 y12 y13 y14 mn oo oa ob ss gg zz md sd da rg pp kp ot 2 li bl nw wr ru al sp en ke kb at0) ++ fr) := hD
      rw [hQ]; exact retMi (w1 := fun u : Int32 × Fn × Fn × Fn × Fn × Fn => ((wZ cI cL z0 y1 y2 y3 y4 y5 y6 y7 y8 y9 y10 y11 y12 y13 y14 u.2.1 u.2.2.1 u.2.2.2.1 u.2.2.2.2.1 u.2.2.2.2.2 gg zz md sd da rg pp kp ot u.1 li bl nw wr ru al sp en ke kb at0) ++ fr)) (2, mn, oo, oa, ob, ss) hx hb hr hlocks hP hD hS (by first | (simp only [zinsF, pk_us, if_neg c_5, if_pos c_17]; done) | simp [zinsF, pk_us, c_5, c_17]) d_Z_instruction_25
  · refine lv_iconst (v := 0) hx hb d_Z_instruction_8 (by decide) ?_
    rw [hQ]; exact retMi (w1 := fun u : Int32 × Fn × Fn × Fn × Fn × Fn => ((wZ cI cL z0 y1 y2 y3 y4 y5 y6 y7 y8 y9 y10 y11 y12 y13 y14 u.2.1 u.2.2.1 u.2.2.2.1 u.2.2.2.2.1 u.2.2.2.2.2 gg zz md sd da rg pp kp ot u.1 li bl nw wr ru al sp en ke kb at0) ++ fr)) (if wiF k 0 (bl - 1) = 0 then 1 else 0, mn, oo, oa, ob, ss) hx hb hr hlocks hP hD hS (by first | (simp only [zinsF, pk_us, if_pos c_5]; done) | simp [zinsF, pk_us, c_5]) d_Z_instruction_9

abbrev w_Z_byteAt : List Cond := .code y_Z_byteAt b_Z_byteAt 3 (some .int) :: BIG
set_option maxHeartbeats 4000000 in
set_option maxRecDepth 100000 in
theorem c_Z_byteAt (l : Launch) (D : va_G) (cI cL cO : ClassId) (z0 : Nat) (y1 : Nat) (y2 : Nat) (y3 : Nat) (y4 : Nat) (y5 : Nat) (y6 : Nat) (y7 : Nat) (y8 : Nat) (y9 : Nat) (y10 : Nat) (y11 : Nat) (y12 : Nat) (y13 : Nat) (y14 : Nat) (mn : Fn) (oo : Fn) (oa : Fn) (ob : Fn) (ss : Fn) (gg : Fn) (zz : Fn) (md : Fn) (sd : Fn) (da : Fn) (rg : FL) (pp : FL) (kp : FL) (ot : FL) (th : Int32) (li : Int32) (bl : Int32) (nw : Int32) (wr : Int32) (ru : Int32) (al : Int32) (sp : Int32) (en : Int32) (ke : Int32) (kb : Int32) (at0 : Int32) (fr : va_W) (k : Int32) (i : Int32) (hbl : 0 ≤ bl.toInt ∧ bl.toInt ≤ 24) (hzz : ∀ j, j < 24 → 0 ≤ (zz j).toInt ∧ (zz j).toInt ≤ 300) : CMi l y_Z_byteAt w_Z_byteAt ({ frames := 2, cells := 0, slots := 0, locals := 43 }) D cI cL cO [.ref z0, .int k, .int i] ((wZ cI cL z0 y1 y2 y3 y4 y5 y6 y7 y8 y9 y10 y11 y12 y13 y14 mn oo oa ob ss gg zz md sd da rg pp kp ot th li bl nw wr ru al sp en ke kb at0) ++ fr) (fun (r : Int32) (u : Int32) => (r, u) = zbatF k i bl ss zz md) (fun u : Int32 => ((wZ cI cL z0 y1 y2 y3 y4 y5 y6 y7 y8 y9 y10 y11 y12 y13 y14 mn oo oa ob ss gg zz md sd da rg pp kp ot u li bl nw wr ru al sp en ke kb at0) ++ fr)) 0 0 := by
  refine ofMi (cc := b_Z_byteAt) (maxL := 3) (ret := (some .int)) (by decide) rfl (Nat.le_of_ble_eq_true rfl) ?_
  intro p e s m below meth c A ls H Q hQ hx hb hr hlocks hin hts hown hml hP hK hD hS hA hl
  have hl : lv_has ls 3 [(0, .ref z0), (1, .int k), (2, .int i)] := hl
  have hown : s.vm.findClass R_Z = some m.cls := hown
  have ht : ∀ w ∈ BIG, w.before _ s = true := fun w h => hts w (List.mem_cons_of_mem _ h)
  refine lv_aload_n hx hb d_Z_byteAt_0 rfl (lv_at hl 0 rfl) ?_
  refine lv_iload_n hx hb d_Z_byteAt_1 rfl (lv_at hl 1 rfl) ?_
  refine goMi (va_runV (As := [.int k]) (rest := []) ⟨hx, hb, hml, hown, hts⟩ (c_Z_isBlock l D cI cL cO z0 y1 y2 y3 y4 y5 y6 y7 y8 y9 y10 y11 y12 y13 y14 mn oo oa ob ss gg zz md sd da rg pp kp ot th li bl nw wr ru al sp en ke kb at0 fr k H.size) (cwV 1 hts (gBIG (m4 k_ml_Z_71 k_im_Z_isBlock k_sel_Z_isBlock k_ini_Z) k_co_Z_isBlock) rfl rfl rfl (by decide +kernel) ⟨Nat.le_of_ble_eq_true rfl, Nat.le_of_ble_eq_true rfl⟩) ⟨PM.bl, va_recv hK.1 hP (ci := 5) (q0 := 0) rfl rfl, PM.pre hP hD hK⟩ rfl rfl hl.1 rfl (lv_room (Nat.le_of_ble_eq_true rfl)) d_Z_byteAt_2 ⟨Nat.le_of_ble_eq_true rfl, Nat.le_of_ble_eq_true rfl⟩) hD hS hA (fun r_2 u H locs hw hP hD hS => ?_)
  obtain ⟨rfl, rfl⟩ := hw
  have hP : va_P D vwCl ((wZ cI cL z0 y1 y2 y3 y4 y5 y6 y7 y8 y9 y10 y11 y12 y13 y14 mn oo oa ob ss gg zz md sd da rg pp kp ot (if wiF k 0 (bl - 1) = 0 then 1 else 0) li bl nw wr ru al sp en ke kb at0) ++ fr) H := hP
  have hD : va_D A ((wZ cI cL z0 y1 y2 y3 y4 y5 y6 y7 y8 y9 y10 y11 y12 y13 y14 mn oo oa ob ss gg zz md sd da rg pp kp ot (if wiF k 0 (bl - 1) = 0 then 1 else 0) li bl nw wr ru al sp en ke kb at0) ++ fr) := hD
  refine lv_if_ne (tgt := 10) hx hb d_Z_byteAt_5 (by decide) (fun c_5 => ?_) (fun c_5 => ?_)
  · refine lv_aload_n hx hb d_Z_byteAt_10 rfl (lv_at hl 0 rfl) ?_
    refine va_get (ci := 5) (v := .ref y5) (C := R_Z) (T := T_Z) (N := 26) hx hb ht in_Z hown hK.1 hP 0 rfl rfl 11 (by decide) (ht _ k_fl_Z_22) (fun _ h9 => h9) rfl d_Z_byteAt_11 ?_
    refine lv_iload_n hx hb d_Z_byteAt_14 rfl (lv_at hl 1 rfl) ?_
    refine va_iald hx hb hK.1 hP 5 0 rfl rfl (in_k (wi_k hbl c_5)) d_Z_byteAt_15 ?_
    refine lv_if_ne (tgt := 25) hx hb d_Z_byteAt_16 (by decide) (fun c_16 => ?_) (fun c_16 => ?_)
    · refine lv_iload_n hx hb d_Z_byteAt_25 rfl (lv_at hl 2 rfl) ?_
      refine lv_iconst (v := 0) hx hb d_Z_byteAt_26 (by decide) ?_
      refine lv_aload_n hx hb d_Z_byteAt_27 rfl (lv_at hl 0 rfl) ?_
      refine va_get (ci := 5) (v := .ref y7) (C := R_Z) (T := T_Z) (N := 26) hx hb ht in_Z hown hK.1 hP 0 rfl rfl 13 (by decide) (ht _ k_fl_Z_28) (fun _ h9 => h9) rfl d_Z_byteAt_28 ?_
      refine lv_iload_n hx hb d_Z_byteAt_31 rfl (lv_at hl 1 rfl) ?_
      refine va_iald hx hb hK.1 hP 7 0 rfl rfl (in_k (wi_k hbl c_5)) d_Z_byteAt_32 ?_
      refine lv_iconst (v := 1) hx hb d_Z_byteAt_33 (by decide) ?_
      refine lv_isub hx hb d_Z_byteAt_34 ?_
      refine goRi (va_runS (As := [.int i, .int 0, .int ((zz k.toNatClampNeg) - 1)]) (rest := []) ⟨hx, hb, hml, hown, hts⟩ (c_Z_within l D cI cL cO i 0 ((zz k.toNatClampNeg) - 1)) (cwS 3 hts (gBIG (m3 k_ml_Z_63 k_st_Z_within k_ini_Z) k_co_Z_within) rfl rfl rfl (by decide +kernel) ⟨Nat.le_of_ble_eq_true rfl, Nat.le_of_ble_eq_true rfl⟩) ⟨PR.bl, PR.pre P_nil hK⟩ rfl rfl hl.1 rfl (lv_room (Nat.le_of_ble_eq_true rfl)) d_Z_byteAt_35 ⟨Nat.le_of_ble_eq_true rfl, Nat.le_of_ble_eq_true rfl⟩) ?_
      refine lv_if_eq (tgt := 56) hx hb d_Z_byteAt_38 (by decide) (fun c_38 => ?_) (fun c_38 => ?_)
      · refine lv_aload_n hx hb d_Z_byteAt_56 rfl (lv_at hl 0 rfl) ?_
        refine lv_iconst (v := 3) hx hb d_Z_byteAt_57 (by decide) ?_
        refine goMi (va_runV (As := [.int 3]) (rest := []) ⟨hx, hb, hml, hown, hts⟩ (c_Z_fail l D cI cL cO z0 y1 y2 y3 y4 y5 y6 y7 y8 y9 y10 y11 y12 y13 y14 mn oo oa ob ss gg zz md sd da rg pp kp ot (if wiF k 0 (bl - 1) = 0 then 1 else 0) li bl nw wr ru al sp en ke kb at0 fr 3 H.size) (cwV 1 hts (gBIG (m4 k_ml_Z_67 k_im_Z_fail k_sel_Z_fail k_ini_Z) k_co_Z_fail) rfl rfl rfl (by decide +kernel) ⟨Nat.le_of_ble_eq_true rfl, Nat.le_of_ble_eq_true rfl⟩) ⟨PM.bl, va_recv hK.1 hP (ci := 5) (q0 := 0) rfl rfl, PM.pre hP hD hK⟩ rfl rfl hl.1 rfl (lv_room (Nat.le_of_ble_eq_true rfl)) d_Z_byteAt_58 ⟨Nat.le_of_ble_eq_true rfl, Nat.le_of_ble_eq_true rfl⟩) hD hS hA (fun r_58 u H locs hw hP hD hS => ?_)
        obtain ⟨rfl, rfl⟩ := hw
        have hP : va_P D vwCl ((wZ cI cL z0 y1 y2 y3 y4 y5 y6 y7 y8 y9 y10 y11 y12 y13 y14 mn oo oa ob ss gg zz md sd da rg pp kp ot 3 li bl nw wr ru al sp en ke kb at0) ++ fr) H := hP
        have hD : va_D A ((wZ cI cL z0 y1 y2 y3 y4 y5 y6 y7 y8 y9 y10 y11 y12 y13 y14 mn oo oa ob ss gg zz md sd da rg pp kp ot 3 li bl nw wr ru al sp en ke kb at0) ++ fr) := hD
        rw [hQ]; exact retMi (w1 := fun u : Int32 => ((wZ cI cL z0 y1 y2 y3 y4 y5 y6 y7 y8 y9 y10 y11 y12 y13 y14 mn oo oa ob ss gg zz md sd da rg pp kp ot u li bl nw wr ru al sp en ke kb at0) ++ fr)) 3 hx hb hr hlocks hP hD hS (by first | (simp only [zbatF, if_neg c_5, if_neg c_16, if_pos c_38]; done) | simp [zbatF, c_5, c_16, c_38]) d_Z_byteAt_61
      · refine lv_aload_n hx hb d_Z_byteAt_41 rfl (lv_at hl 0 rfl) ?_
        refine va_get (ci := 5) (v := .ref y8) (C := R_Z) (T := T_Z) (N := 26) hx hb ht in_Z hown hK.1 hP 0 rfl rfl 14 (by decide) (ht _ k_fl_Z_31) (fun _ h9 => h9) rfl d_Z_byteAt_42 ?_
        refine lv_sipush (v := 300) hx hb d_Z_byteAt_45 (by decide) ?_
        refine lv_iload_n hx hb d_Z_byteAt_48 rfl (lv_at hl 1 rfl) ?_
        refine lv_imul hx hb d_Z_byteAt_49 ?_
        refine lv_iload_n hx hb d_Z_byteAt_50 rfl (lv_at hl 2 rfl) ?_
        refine lv_iadd hx hb d_Z_byteAt_51 ?_
        refine va_iald hx hb hK.1 hP 8 0 rfl rfl (in300 (wi_k hbl c_5) (zz_i (hzz _ (kc (wi_k hbl c_5))) c_38)) d_Z_byteAt_52 ?_
        refine lv_goto (tgt := 61) hx hb d_Z_byteAt_53 (by decide) ?_
        rw [hQ]; exact retMi (w1 := fun u : Int32 => ((wZ cI cL z0 y1 y2 y3 y4 y5 y6 y7 y8 y9 y10 y11 y12 y13 y14 mn oo oa ob ss gg zz md sd da rg pp kp ot u li bl nw wr ru al sp en ke kb at0) ++ fr)) (if wiF k 0 (bl - 1) = 0 then 1 else 0) hx hb hr hlocks hP hD hS (by first | (simp only [zbatF, if_neg c_5, if_neg c_16, if_neg c_38]; done) | simp [zbatF, c_5, c_16, c_38]) d_Z_byteAt_61
    · refine lv_aload_n hx hb d_Z_byteAt_19 rfl (lv_at hl 0 rfl) ?_
      refine lv_iconst (v := 2) hx hb d_Z_byteAt_20 (by decide) ?_
      refine goMi (va_runV (As := [.int 2]) (rest := []) ⟨hx, hb, hml, hown, hts⟩ (c_Z_fail l D cI cL cO z0 y1 y2 y3 y4 y5 y6 y7 y8 y9 y10 y11 y12 y13 y14 mn oo oa ob ss gg zz md sd da rg pp kp ot (if wiF k 0 (bl - 1) = 0 then 1 else 0) li bl nw wr ru al sp en ke kb at0 fr 2 H.size) (cwV 1 hts (gBIG (m4 k_ml_Z_67 k_im_Z_fail k_sel_Z_fail k_ini_Z) k_co_Z_fail) rfl rfl rfl (by decide +kernel) ⟨Nat.le_of_ble_eq_true rfl, Nat.le_of_ble_eq_true rfl⟩) ⟨PM.bl, va_recv hK.1 hP (ci := 5) (q0 := 0) rfl rfl, PM.pre hP hD hK⟩ rfl rfl hl.1 rfl (lv_room (Nat.le_of_ble_eq_true rfl)) d_Z_byteAt_21 ⟨Nat.le_of_ble_eq_true rfl, Nat.le_of_ble_eq_true rfl⟩) hD hS hA (fun r_21 u H locs hw hP hD hS => ?_)
      obtain ⟨rfl, rfl⟩ := hw
      have hP : va_P D vwCl ((wZ cI cL z0 y1 y2 y3 y4 y5 y6 y7 y8 y9 y10 y11 y12 y13 y14 mn oo oa ob ss gg zz md sd da rg pp kp ot 2 li bl nw wr ru al sp en ke kb at0) ++ fr) H := hP
      have hD : va_D A ((wZ cI cL z0 y1 y2 y3 y4 y5 y6 y7 y8 y9 y10 y11 y12 y13 y14 mn oo oa ob ss gg zz md sd da rg pp kp ot 2 li bl nw wr ru al sp en ke kb at0) ++ fr) := hD
      rw [hQ]; exact retMi (w1 := fun u : Int32 => ((wZ cI cL z0 y1 y2 y3 y4 y5 y6 y7 y8 y9 y10 y11 y12 y13 y14 mn oo oa ob ss gg zz md sd da rg pp kp ot u li bl nw wr ru al sp en ke kb at0) ++ fr)) 2 hx hb hr hlocks hP hD hS (by first | (simp only [zbatF, if_neg c_5, if_pos c_16]; done) | simp [zbatF, c_5, c_16]) d_Z_byteAt_24
  · refine lv_iconst (v := 0) hx hb d_Z_byteAt_8 (by decide) ?_
    rw [hQ]; exact retMi (w1 := fun u : Int32 => ((wZ cI cL z0 y1 y2 y3 y4 y5 y6 y7 y8 y9 y10 y11 y12 y13 y14 mn oo oa ob ss gg zz md sd da rg pp kp ot u li bl nw wr ru al sp en ke kb at0) ++ fr)) (if wiF k 0 (bl - 1) = 0 then 1 else 0) hx hb hr hlocks hP hD hS (by first | (simp only [zbatF, if_pos c_5]; done) | simp [zbatF, c_5]) d_Z_byteAt_9

abbrev w_Z_alter : List Cond := .code y_Z_alter b_Z_alter 5 (some .int) :: BIG
set_option maxHeartbeats 4000000 in
set_option maxRecDepth 100000 in
theorem c_Z_alter (l : Launch) (D : va_G) (cI cL cO : ClassId) (z0 : Nat) (y1 : Nat) (y2 : Nat) (y3 : Nat) (y4 : Nat) (y5 : Nat) (y6 : Nat) (y7 : Nat) (y8 : Nat) (y9 : Nat) (y10 : Nat) (y11 : Nat) (y12 : Nat) (y13 : Nat) (y14 : Nat) (mn : Fn) (oo : Fn) (oa : Fn) (ob : Fn) (ss : Fn) (gg : Fn) (zz : Fn) (md : Fn) (sd : Fn) (da : Fn) (rg : FL) (pp : FL) (kp : FL) (ot : FL) (th : Int32) (li : Int32) (bl : Int32) (nw : Int32) (wr : Int32) (ru : Int32) (al : Int32) (sp : Int32) (en : Int32) (ke : Int32) (kb : Int32) (at0 : Int32) (fr : va_W) (k : Int32) (i : Int32) (v : Int32) (hbl : 0 ≤ bl.toInt ∧ bl.toInt ≤ 24) (hzz : ∀ j, j < 24 → 0 ≤ (zz j).toInt ∧ (zz j).toInt ≤ 300) : CMi l y_Z_alter w_Z_alter ({ frames := 2, cells := 0, slots := 0, locals := 43 }) D cI cL cO [.ref z0, .int k, .int i, .int v] ((wZ cI cL z0 y1 y2 y3 y4 y5 y6 y7 y8 y9 y10 y11 y12 y13 y14 mn oo oa ob ss gg zz md sd da rg pp kp ot th li bl nw wr ru al sp en ke kb at0) ++ fr) (fun (r : Int32) (u : Int32 × Fn) => (r, u.1, u.2) = zaltF k i v bl ss zz md) (fun u : Int32 × Fn => ((wZ cI cL z0 y1 y2 y3 y4 y5 y6 y7 y8 y9 y10 y11 y12 y13 y14 mn oo oa ob ss gg zz u.2 sd da rg pp kp ot u.1 li bl nw wr ru al sp en ke kb at0) ++ fr)) 0 0 := by
  refine ofMi (cc := b_Z_alter) (maxL := 5) (ret := (some .int)) (by decide) rfl (Nat.le_of_ble_eq_true rfl) ?_
  intro p e s m below meth c A ls H Q hQ hx hb hr hlocks hin hts hown hml hP hK hD hS hA hl
  have hl : lv_has ls 5 [(0, .ref z0), (1, .int k), (2, .int i), (3, .int v)] := hl
  have hown : s.vm.findClass R_Z = some m.cls := hown
  have ht : ∀ w ∈ BIG, w.before _ s = true := fun w h => hts w (List.mem_cons_of_mem _ h)
  refine lv_aload_n hx hb d_Z_alter_0 rfl (lv_at hl 0 rfl) ?_
  refine lv_iload_n hx hb d_Z_alter_1 rfl (lv_at hl 1 rfl) ?_
  refine goMi (va_runV (As := [.int k]) (rest := []) ⟨hx, hb, hml, hown, hts⟩ (c_Z_isBlock l D cI cL cO z0 y1 y2 y3 y4 y5 y6 y7 y8 y9 y10 y11 y12 y13 y14 mn oo oa ob ss gg zz md sd da rg pp kp ot th li bl nw wr ru al sp en ke kb at0 fr k H.size) (cwV 1 hts (gBIG (m4 k_ml_Z_71 k_im_Z_isBlock k_sel_Z_isBlock k_ini_Z) k_co_Z_isBlock) rfl rfl rfl (by decide +kernel) ⟨Nat.le_of_ble_eq_true rfl, Nat.le_of_ble_eq_true rfl⟩) ⟨PM.bl, va_recv hK.1 hP (ci := 5) (q0 := 0) rfl rfl, PM.pre hP hD hK⟩ rfl rfl hl.1 rfl (lv_room (Nat.le_of_ble_eq_true rfl)) d_Z_alter_2 ⟨Nat.le_of_ble_eq_true rfl, Nat.le_of_ble_eq_true rfl⟩) hD hS hA (fun r_2 u H locs hw hP hD hS => ?_)
  obtain ⟨rfl, rfl⟩ := hw
  have hP : va_P D vwCl ((wZ cI cL z0 y1 y2 y3 y4 y5 y6 y7 y8 y9 y10 y11 y12 y13 y14 mn oo oa ob ss gg zz md sd da rg pp kp ot (if wiF k 0 (bl - 1) = 0 then 1 else 0) li bl nw wr ru al sp en ke kb at0) ++ fr) H := hP
  have hD : va_D A ((wZ cI cL z0 y1 y2 y3 y4 y5 y6 y7 y8 y9 y10 y11 y12 y13 y14 mn oo oa ob ss gg zz md sd da rg pp kp ot (if wiF k 0 (bl - 1) = 0 then 1 else 0) li bl nw wr ru al sp en ke kb at0) ++ fr) := hD
  refine lv_if_ne (tgt := 10) hx hb d_Z_alter_5 (by decide) (fun c_5 => ?_) (fun c_5 => ?_)
  · refine lv_aload_n hx hb d_Z_alter_10 rfl (lv_at hl 0 rfl) ?_
    refine va_get (ci := 5) (v := .ref y5) (C := R_Z) (T := T_Z) (N := 26) hx hb ht in_Z hown hK.1 hP 0 rfl rfl 11 (by decide) (ht _ k_fl_Z_22) (fun _ h9 => h9) rfl d_Z_alter_11 ?_
    refine lv_iload_n hx hb d_Z_alter_14 rfl (lv_at hl 1 rfl) ?_
    refine va_iald hx hb hK.1 hP 5 0 rfl rfl (in_k (wi_k hbl c_5)) d_Z_alter_15 ?_
    refine lv_iconst (v := 1) hx hb d_Z_alter_16 (by decide) ?_
    refine lv_icmp_eq (tgt := 26) hx hb d_Z_alter_17 (by decide) (fun c_17 => ?_) (fun c_17 => ?_)
    · refine lv_iload_n hx hb d_Z_alter_26 rfl (lv_at hl 2 rfl) ?_
      refine lv_iconst (v := 0) hx hb d_Z_alter_27 (by decide) ?_
      refine lv_aload_n hx hb d_Z_alter_28 rfl (lv_at hl 0 rfl) ?_
      refine va_get (ci := 5) (v := .ref y7) (C := R_Z) (T := T_Z) (N := 26) hx hb ht in_Z hown hK.1 hP 0 rfl rfl 13 (by decide) (ht _ k_fl_Z_28) (fun _ h9 => h9) rfl d_Z_alter_29 ?_
      refine lv_iload_n hx hb d_Z_alter_32 rfl (lv_at hl 1 rfl) ?_
      refine va_iald hx hb hK.1 hP 7 0 rfl rfl (in_k (wi_k hbl c_5)) d_Z_alter_33 ?_
      refine lv_iconst (v := 1) hx hb d_Z_alter_34 (by decide) ?_
      refine lv_isub hx hb d_Z_alter_35 ?_
      refine goRi (va_runS (As := [.int i, .int 0, .int ((zz k.toNatClampNeg) - 1)]) (rest := []) ⟨hx, hb, hml, hown, hts⟩ (c_Z_within l D cI cL cO i 0 ((zz k.toNatClampNeg) - 1)) (cwS 3 hts (gBIG (m3 k_ml_Z_63 k_st_Z_within k_ini_Z) k_co_Z_within) rfl rfl rfl (by decide +kernel) ⟨Nat.le_of_ble_eq_true rfl, Nat.le_of_ble_eq_true rfl⟩) ⟨PR.bl, PR.pre P_nil hK⟩ rfl rfl hl.1 rfl (lv_room (Nat.le_of_ble_eq_true rfl)) d_Z_alter_36 ⟨Nat.le_of_ble_eq_true rfl, Nat.le_of_ble_eq_true rfl⟩) ?_
      refine lv_if_eq (tgt := 53) hx hb d_Z_alter_39 (by decide) (fun c_39 => ?_) (fun c_39 => ?_)
      · refine lv_aload_n hx hb d_Z_alter_53 rfl (lv_at hl 0 rfl) ?_
        refine lv_iconst (v := 3) hx hb d_Z_alter_54 (by decide) ?_
        refine goMi (va_runV (As := [.int 3]) (rest := []) ⟨hx, hb, hml, hown, hts⟩ (c_Z_fail l D cI cL cO z0 y1 y2 y3 y4 y5 y6 y7 y8 y9 y10 y11 y12 y13 y14 mn oo oa ob ss gg zz md sd da rg pp kp ot (if wiF k 0 (bl - 1) = 0 then 1 else 0) li bl nw wr ru al sp en ke kb at0 fr 3 H.size) (cwV 1 hts (gBIG (m4 k_ml_Z_67 k_im_Z_fail k_sel_Z_fail k_ini_Z) k_co_Z_fail) rfl rfl rfl (by decide +kernel) ⟨Nat.le_of_ble_eq_true rfl, Nat.le_of_ble_eq_true rfl⟩) ⟨PM.bl, va_recv hK.1 hP (ci := 5) (q0 := 0) rfl rfl, PM.pre hP hD hK⟩ rfl rfl hl.1 rfl (lv_room (Nat.le_of_ble_eq_true rfl)) d_Z_alter_55 ⟨Nat.le_of_ble_eq_true rfl, Nat.le_of_ble_eq_true rfl⟩) hD hS hA (fun r_55 u H locs hw hP hD hS => ?_)
        obtain ⟨rfl, rfl⟩ := hw
        have hP : va_P D vwCl ((wZ cI cL z0 y1 y2 y3 y4 y5 y6 y7 y8 y9 y10 y11 y12 y13 y14 mn oo oa ob ss gg zz md sd da rg pp kp ot 3 li bl nw wr ru al sp en ke kb at0) ++ fr) H := hP
        have hD : va_D A ((wZ cI cL z0 y1 y2 y3 y4 y5 y6 y7 y8 y9 y10 y11 y12 y13 y14 mn oo oa ob ss gg zz md sd da rg pp kp ot 3 li bl nw wr ru al sp en ke kb at0) ++ fr) := hD
        rw [hQ]; exact retMi (w1 := fun u : Int32 × Fn => ((wZ cI cL z0 y1 y2 y3 y4 y5 y6 y7 y8 y9 y10 y11 y12 y13 y14 mn oo oa ob ss gg zz u.2 sd da rg pp kp ot u.1 li bl nw wr ru al sp en ke kb at0) ++ fr)) (3, md) hx hb hr hlocks hP hD hS (by first | (simp only [zaltF, if_neg c_5, if_pos c_17, if_pos c_39]; done) | simp [zaltF, c_5, c_17, c_39]) d_Z_alter_58
      · refine lv_iload_n hx hb d_Z_alter_42 rfl (lv_at hl 3 rfl) ?_
        refine lv_iconst (v := 0) hx hb d_Z_alter_43 (by decide) ?_
        refine lv_sipush (v := 255) hx hb d_Z_alter_44 (by decide) ?_
        refine goRi (va_runS (As := [.int v, .int 0, .int 255]) (rest := []) ⟨hx, hb, hml, hown, hts⟩ (c_Z_within l D cI cL cO v 0 255) (cwS 3 hts (gBIG (m3 k_ml_Z_63 k_st_Z_within k_ini_Z) k_co_Z_within) rfl rfl rfl (by decide +kernel) ⟨Nat.le_of_ble_eq_true rfl, Nat.le_of_ble_eq_true rfl⟩) ⟨PR.bl, PR.pre P_nil hK⟩ rfl rfl hl.1 rfl (lv_room (Nat.le_of_ble_eq_true rfl)) d_Z_alter_47 ⟨Nat.le_of_ble_eq_true rfl, Nat.le_of_ble_eq_true rfl⟩) ?_
        refine lv_if_ne (tgt := 59) hx hb d_Z_alter_50 (by decide) (fun c_50 => ?_) (fun c_50 => ?_)
        · refine lv_aload_n hx hb d_Z_alter_59 rfl (lv_at hl 0 rfl) ?_
          refine va_get (ci := 5) (v := .ref y8) (C := R_Z) (T := T_Z) (N := 26) hx hb ht in_Z hown hK.1 hP 0 rfl rfl 14 (by decide) (ht _ k_fl_Z_31) (fun _ h9 => h9) rfl d_Z_alter_60 ?_
          refine lv_sipush (v := 300) hx hb d_Z_alter_63 (by decide) ?_
          refine lv_iload_n hx hb d_Z_alter_66 rfl (lv_at hl 1 rfl) ?_
          refine lv_imul hx hb d_Z_alter_67 ?_
          refine lv_iload_n hx hb d_Z_alter_68 rfl (lv_at hl 2 rfl) ?_
          refine lv_iadd hx hb d_Z_alter_69 ?_
          refine va_iald hx hb hK.1 hP 8 0 rfl rfl (in300 (wi_k hbl c_5) (zz_i (hzz _ (kc (wi_k hbl c_5))) c_39)) d_Z_alter_70 ?_
          refine lv_istore (lv' := [(4, .int (md ((300 * k) + i).toNatClampNeg)), (0, .ref z0), (1, .int k), (2, .int i), (3, .int v)]) hx hb d_Z_alter_71 hl (by decide) rfl (fun ls hl => ?_)
          refine lv_aload_n hx hb d_Z_alter_73 rfl (lv_at hl 1 rfl) ?_
          refine va_get (ci := 5) (v := .ref y8) (C := R_Z) (T := T_Z) (N := 26) hx hb ht in_Z hown hK.1 hP 0 rfl rfl 14 (by decide) (ht _ k_fl_Z_31) (fun _ h9 => h9) rfl d_Z_alter_74 ?_
          refine lv_sipush (v := 300) hx hb d_Z_alter_77 (by decide) ?_
          refine lv_iload_n hx hb d_Z_alter_80 rfl (lv_at hl 2 rfl) ?_
          refine lv_imul hx hb d_Z_alter_81 ?_
          refine lv_iload_n hx hb d_Z_alter_82 rfl (lv_at hl 3 rfl) ?_
          refine lv_iadd hx hb d_Z_alter_83 ?_
          refine lv_iload_n hx hb d_Z_alter_84 rfl (lv_at hl 4 rfl) ?_
          refine va_iast hx hb hK.1 hP hD hS 8 0 rfl rfl (in300 (wi_k hbl c_5) (zz_i (hzz _ (kc (wi_k hbl c_5))) c_39)) d_Z_alter_85 (fun H locs hP hD hS => ?_)
          have hP : va_P D vwCl ((wZ cI cL z0 y1 y2 y3 y4 y5 y6 y7 y8 y9 y10 y11 y12 y13 y14 mn oo oa ob ss gg zz (upd md ((300 * k) + i).toNatClampNeg v) sd da rg pp kp ot (if wiF k 0 (bl - 1) = 0 then 1 else 0) li bl nw wr ru al sp en ke kb at0) ++ fr) H := hP
          have hD : va_D A ((wZ cI cL z0 y1 y2 y3 y4 y5 y6 y7 y8 y9 y10 y11 y12 y13 y14 mn oo oa ob ss gg zz (upd md ((300 * k) + i).toNatClampNeg v) sd da rg pp kp ot (if wiF k 0 (bl - 1) = 0 then 1 else 0) li bl nw wr ru al sp en ke kb at0) ++ fr) := hD
          refine lv_iload hx hb d_Z_alter_86 (lv_at hl 0 rfl) ?_
          rw [hQ]; exact retMi (w1 := fun u : Int32 × Fn => ((wZ cI cL z0 y1 y2 y3 y4 y5 y6 y7 y8 y9 y10 y11 y12 y13 y14 mn oo oa ob ss gg zz u.2 sd da rg pp kp ot u.1 li bl nw wr ru al sp en ke kb at0) ++ fr)) (if wiF k 0 (bl - 1) = 0 then 1 else 0, upd md ((300 * k) + i).toNatClampNeg v) hx hb hr hlocks hP hD hS (by first | (simp only [zaltF, if_neg c_5, if_pos c_17, if_neg c_39, if_neg c_50]; done) | simp [zaltF, c_5, c_17, c_39, c_50]) d_Z_alter_88
        · refine lv_aload_n hx hb d_Z_alter_53 rfl (lv_at hl 0 rfl) ?_
          refine lv_iconst (v := 3) hx hb d_Z_alter_54 (by decide) ?_
          refine goMi (va_runV (As := [.int 3]) (rest := []) ⟨hx, hb, hml, hown, hts⟩ (c_Z_fail l D cI cL cO z0 y1 y2 y3 y4 y5 y6 y7 y8 y9 y10 y11 y12 y13 y14 mn oo oa ob ss gg zz md sd da rg pp kp ot (if wiF k 0 (bl - 1) = 0 then 1 else 0) li bl nw wr ru al sp en ke kb at0 fr 3 H.size) (cwV 1 hts (gBIG (m4 k_ml_Z_67 k_im_Z_fail k_sel_Z_fail k_ini_Z) k_co_Z_fail) rfl rfl rfl (by decide +kernel) ⟨Nat.le_of_ble_eq_true rfl, Nat.le_of_ble_eq_true rfl⟩) ⟨PM.bl, va_recv hK.1 hP (ci := 5) (q0 := 0) rfl rfl, PM.pre hP hD hK⟩ rfl rfl hl.1 rfl (lv_room (Nat.le_of_ble_eq_true rfl)) d_Z_alter_55 ⟨Nat.le_of_ble_eq_true rfl, Nat.le_of_ble_eq_true rfl⟩) hD hS hA (fun r_55 u H locs hw hP hD hS => ?_)
          obtain ⟨rfl, rfl⟩ := hw
          have hP : va_P D vwCl ((wZ cI cL z0 y1 y2 y3 y4 y5 y6 y7 y8 y9 y10 y11 y12 y13 y14 mn oo oa ob ss gg zz md sd da rg pp kp ot 3 li bl nw wr ru al sp en ke kb at0) ++ fr) H := hP
          have hD : va_D A ((wZ cI cL z0 y1 y2 y3 y4 y5 y6 y7 y8 y9 y10 y11 y12 y13 y14 mn oo oa ob ss gg zz md sd da rg pp kp ot 3 li bl nw wr ru al sp en ke kb at0) ++ fr) := hD
          rw [hQ]; exact retMi (w1 := fun u : Int32 × Fn => ((wZ cI cL z0 y1 y2 y3 y4 y5 y6 y7 y8 y9 y10 y11 y12 y13 y14 mn oo oa ob ss gg zz u.2 sd da rg pp kp ot u.1 li bl nw wr ru al sp en ke kb at0) ++ fr)) (3, md) hx hb hr hlocks hP hD hS (by first | (simp only [zaltF, if_neg c_5, if_pos c_17, if_neg c_39, if_pos c_50]; done) | simp [zaltF, c_5, c_17, c_39, c_50]) d_Z_alter_58
    · refine lv_aload_n hx hb d_Z_alter_20 rfl (lv_at hl 0 rfl) ?_
      refine lv_iconst (v := 2) hx hb d_Z_alter_21 (by decide) ?_
      refine goMi (va_runV (As := [.int 2]) (rest := []) ⟨hx, hb, hml, hown, hts⟩ (c_Z_fail l D cI cL cO z0 y1 y2 y3 y4 y5 y6 y7 y8 y9 y10 y11 y12 y13 y14 mn oo oa ob ss gg zz md sd da rg pp kp ot (if wiF k 0 (bl - 1) = 0 then 1 else 0) li bl nw wr ru al sp en ke kb at0 fr 2 H.size) (cwV 1 hts (gBIG (m4 k_ml_Z_67 k_im_Z_fail k_sel_Z_fail k_ini_Z) k_co_Z_fail) rfl rfl rfl (by decide +kernel) ⟨Nat.le_of_ble_eq_true rfl, Nat.le_of_ble_eq_true rfl⟩) ⟨PM.bl, va_recv hK.1 hP (ci := 5) (q0 := 0) rfl rfl, PM.pre hP hD hK⟩ rfl rfl hl.1 rfl (lv_room (Nat.le_of_ble_eq_true rfl)) d_Z_alter_22 ⟨Nat.le_of_ble_eq_true rfl, Nat.le_of_ble_eq_true rfl⟩) hD hS hA (fun r_22 u H locs hw hP hD hS => ?_)
      obtain ⟨rfl, rfl⟩ := hw
      have hP : va_P D vwCl ((wZ cI cL z0 y1 y2 y3 y4 y5 y6 y7 y8 y9 y10 y11 y12 y13 y14 mn oo oa ob ss gg zz md sd da rg pp kp ot 2 li bl nw wr ru al sp en ke kb at0) ++ fr) H := hP
      have hD : va_D A ((wZ cI cL z0 y1 y2 y3 y4 y5 y6 y7 y8 y9 y10 y11 y12 y13 y14 mn oo oa ob ss gg zz md sd da rg pp kp ot 2 li bl nw wr ru al sp en ke kb at0) ++ fr) := hD
      rw [hQ]; exact retMi (w1 := fun u : Int32 × Fn => ((wZ cI cL z0 y1 y2 y3 y4 y5 y6 y7 y8 y9 y10 y11 y12 y13 y14 mn oo oa ob ss gg zz u.2 sd da rg pp kp ot u.1 li bl nw wr ru al sp en ke kb at0) ++ fr)) (2, md) hx hb hr hlocks hP hD hS (by first | (simp only [zaltF, if_neg c_5, if_neg c_17]; done) | simp [zaltF, c_5, c_17]) d_Z_alter_25
  · refine lv_iconst (v := 0) hx hb d_Z_alter_8 (by decide) ?_
    rw [hQ]; exact retMi (w1 := fun u : Int32 × Fn => ((wZ cI cL z0 y1 y2 y3 y4 y5 y6 y7 y8 y9 y10 y11 y12 y13 y14 mn oo oa ob ss gg zz u.2 sd da rg pp kp ot u.1 li bl nw wr ru al sp en ke kb at0) ++ fr)) (if wiF k 0 (bl - 1) = 0 then 1 else 0, md) hx hb hr hlocks hP hD hS (by first | (simp only [zaltF, if_pos c_5]; done) | simp [zaltF, c_5]) d_Z_alter_9

abbrev w_Z_what : List Cond := .code y_Z_what b_Z_what 3 (some .int) :: BIG
set_option maxHeartbeats 4000000 in
set_option maxRecDepth 100000 in
theorem c_Z_what (l : Launch) (D : va_G) (cI cL cO : ClassId) (z0 : Nat) (y1 : Nat) (y2 : Nat) (y3 : Nat) (y4 : Nat) (y5 : Nat) (y6 : Nat) (y7 : Nat) (y8 : Nat) (y9 : Nat) (y10 : Nat) (y11 : Nat) (y12 : Nat) (y13 : Nat) (y14 : Nat) (mn : Fn) (oo : Fn) (oa : Fn) (ob : Fn) (ss : Fn) (gg : Fn) (zz : Fn) (md : Fn) (sd : Fn) (da : Fn) (rg : FL) (pp : FL) (kp : FL) (ot : FL) (th : Int32) (li : Int32) (bl : Int32) (nw : Int32) (wr : Int32) (ru : Int32) (al : Int32) (sp : Int32) (en : Int32) (ke : Int32) (kb : Int32) (at0 : Int32) (fr : va_W) (k : Int32) (w : Int32) (hbl : 0 ≤ bl.toInt ∧ bl.toInt ≤ 24) : CMi l y_Z_what w_Z_what ({ frames := 2, cells := 0, slots := 0, locals := 43 }) D cI cL cO [.ref z0, .int k, .int w] ((wZ cI cL z0 y1 y2 y3 y4 y5 y6 y7 y8 y9 y10 y11 y12 y13 y14 mn oo oa ob ss gg zz md sd da rg pp kp ot th li bl nw wr ru al sp en ke kb at0) ++ fr) (fun (r : Int32) (u : Int32) => (r, u) = zwhaF k w bl mn ss gg zz) (fun u : Int32 => ((wZ cI cL z0 y1 y2 y3 y4 y5 y6 y7 y8 y9 y10 y11 y12 y13 y14 mn oo oa ob ss gg zz md sd da rg pp kp ot u li bl nw wr ru al sp en ke kb at0) ++ fr)) 0 0 := by
  refine ofMi (cc := b_Z_what) (maxL := 3) (ret := (some .int)) (by decide) rfl (Nat.le_of_ble_eq_true rfl) ?_
  intro p e s m below meth c A ls H Q hQ hx hb hr hlocks hin hts hown hml hP hK hD hS hA hl
  have hl : lv_has ls 3 [(0, .ref z0), (1, .int k), (2, .int w)] := hl
  have hown : s.vm.findClass R_Z = some m.cls := hown
  have ht : ∀ w ∈ BIG, w.before _ s = true := fun w h => hts w (List.mem_cons_of_mem _ h)
  refine lv_aload_n hx hb d_Z_what_0 rfl (lv_at hl 0 rfl) ?_
  refine lv_iload_n hx hb d_Z_what_1 rfl (lv_at hl 1 rfl) ?_
  refine goMi (va_runV (As := [.int k]) (rest := []) ⟨hx, hb, hml, hown, hts⟩ (c_Z_isBlock l D cI cL cO z0 y1 y2 y3 y4 y5 y6 y7 y8 y9 y10 y11 y12 y13 y14 mn oo oa ob ss gg zz md sd da rg pp kp ot th li bl nw wr ru al sp en ke kb at0 fr k H.size) (cwV 1 hts (gBIG (m4 k_ml_Z_71 k_im_Z_isBlock k_sel_Z_isBlock k_ini_Z) k_co_Z_isBlock) rfl rfl rfl (by decide +kernel) ⟨Nat.le_of_ble_eq_true rfl, Nat.le_of_ble_eq_true rfl⟩) ⟨PM.bl, va_recv hK.1 hP (ci := 5) (q0 := 0) rfl rfl, PM.pre hP hD hK⟩ rfl rfl hl.1 rfl (lv_room (Nat.le_of_ble_eq_true rfl)) d_Z_what_2 ⟨Nat.le_of_ble_eq_true rfl, Nat.le_of_ble_eq_true rfl⟩) hD hS hA (fun r_2 u H locs hw hP hD hS => ?_)
  obtain ⟨rfl, rfl⟩ := hw
  have hP : va_P D vwCl ((wZ cI cL z0 y1 y2 y3 y4 y5 y6 y7 y8 y9 y10 y11 y12 y13 y14 mn oo oa ob ss gg zz md sd da rg pp kp ot (if wiF k 0 (bl - 1) = 0 then 1 else 0) li bl nw wr ru al sp en ke kb at0) ++ fr) H := hP
  have hD : va_D A ((wZ cI cL z0 y1 y2 y3 y4 y5 y6 y7 y8 y9 y10 y11 y12 y13 y14 mn oo oa ob ss gg zz md sd da rg pp kp ot (if wiF k 0 (bl - 1) = 0 then 1 else 0) li bl nw wr ru al sp en ke kb at0) ++ fr) := hD
  refine lv_if_ne (tgt := 10) hx hb d_Z_what_5 (by decide) (fun c_5 => ?_) (fun c_5 => ?_)
  · refine lv_iload_n hx hb d_Z_what_10 rfl (lv_at hl 2 rfl) ?_
    by_cases c_11_0 : w = 0
    · refine lv_tableIn (off := 29) (tgt := 40) hx hb d_Z_what_11 (by rw [c_11_0]; decide) (by rw [c_11_0]; decide) (by rw [c_11_0] <;> rfl) (by decide) ?_
      refine lv_aload_n hx hb d_Z_what_40 rfl (lv_at hl 0 rfl) ?_
      refine va_get (ci := 5) (v := .ref y5) (C := R_Z) (T := T_Z) (N := 26) hx hb ht in_Z hown hK.1 hP 0 rfl rfl 11 (by decide) (ht _ k_fl_Z_22) (fun _ h9 => h9) rfl d_Z_what_41 ?_
      refine lv_iload_n hx hb d_Z_what_44 rfl (lv_at hl 1 rfl) ?_
      refine va_iald hx hb hK.1 hP 5 0 rfl rfl (in_k (wi_k hbl c_5)) d_Z_what_45 ?_
      rw [hQ]; exact retMi (w1 := fun u : Int32 => ((wZ cI cL z0 y1 y2 y3 y4 y5 y6 y7 y8 y9 y10 y11 y12 y13 y14 mn oo oa ob ss gg zz md sd da rg pp kp ot u li bl nw wr ru al sp en ke kb at0) ++ fr)) (if wiF k 0 (bl - 1) = 0 then 1 else 0) hx hb hr hlocks hP hD hS (by first | (simp only [zwhaF, if_neg c_5, if_pos c_11_0]; done) | simp [zwhaF, c_5, c_11_0]) d_Z_what_46
    by_cases c_11_1 : w = 1
    · refine lv_tableIn (off := 36) (tgt := 47) hx hb d_Z_what_11 (by rw [c_11_1]; decide) (by rw [c_11_1]; decide) (by rw [c_11_1] <;> rfl) (by decide) ?_
      refine lv_aload_n hx hb d_Z_what_47 rfl (lv_at hl 0 rfl) ?_
      refine va_get (ci := 5) (v := .ref y5) (C := R_Z) (T := T_Z) (N := 26) hx hb ht in_Z hown hK.1 hP 0 rfl rfl 11 (by decide) (ht _ k_fl_Z_22) (fun _ h9 => h9) rfl d_Z_what_48 ?_
      refine lv_iload_n hx hb d_Z_what_51 rfl (lv_at hl 1 rfl) ?_
      refine va_iald hx hb hK.1 hP 5 0 rfl rfl (in_k (wi_k hbl c_5)) d_Z_what_52 ?_
      refine lv_if_ne (tgt := 60) hx hb d_Z_what_53 (by decide) (fun c_53 => ?_) (fun c_53 => ?_)
      · refine lv_aload_n hx hb d_Z_what_60 rfl (lv_at hl 0 rfl) ?_
        refine va_get (ci := 5) (v := .ref y6) (C := R_Z) (T := T_Z) (N := 26) hx hb ht in_Z hown hK.1 hP 0 rfl rfl 12 (by decide) (ht _ k_fl_Z_25) (fun _ h9 => h9) rfl d_Z_what_61 ?_
        refine lv_iload_n hx hb d_Z_what_64 rfl (lv_at hl 1 rfl) ?_
        refine va_iald hx hb hK.1 hP 6 0 rfl rfl (in_k (wi_k hbl c_5)) d_Z_what_65 ?_
        rw [hQ]; exact retMi (w1 := fun u : Int32 => ((wZ cI cL z0 y1 y2 y3 y4 y5 y6 y7 y8 y9 y10 y11 y12 y13 y14 mn oo oa ob ss gg zz md sd da rg pp kp ot u li bl nw wr ru al sp en ke kb at0) ++ fr)) (if wiF k 0 (bl - 1) = 0 then 1 else 0) hx hb hr hlocks hP hD hS (by first | (simp only [zwhaF, if_neg c_5, if_neg c_11_0, if_pos c_11_1, if_neg c_53]; done) | simp [zwhaF, c_5, c_11_0, c_11_1, c_53]) d_Z_what_66
      · refine lv_iconst (v := (-1)) hx hb d_Z_what_56 (by decide) ?_
        refine lv_goto (tgt := 66) hx hb d_Z_what_57 (by decide) ?_
        rw [hQ]; exact retMi (w1 := fun u : Int32 => ((wZ cI cL z0 y1 y2 y3 y4 y5 y6 y7 y8 y9 y10 y11 y12 y13 y14 mn oo oa ob ss gg zz md sd da rg pp kp ot u li bl nw wr ru al sp en ke kb at0) ++ fr)) (if wiF k 0 (bl - 1) = 0 then 1 else 0) hx hb hr hlocks hP hD hS (by first | (simp only [zwhaF, if_neg c_5, if_neg c_11_0, if_pos c_11_1, if_pos c_53]; done) | simp [zwhaF, c_5, c_11_0, c_11_1, c_53]) d_Z_what_66
    by_cases c_11_2 : w = 2
    · refine lv_tableIn (off := 56) (tgt := 67) hx hb d_Z_what_11 (by rw [c_11_2]; decide) (by rw [c_11_2]; decide) (by rw [c_11_2] <;> rfl) (by decide) ?_
      refine lv_aload_n hx hb d_Z_what_67 rfl (lv_at hl 0 rfl) ?_
      refine va_get (ci := 5) (v := .ref y1) (C := R_Z) (T := T_Z) (N := 26) hx hb ht in_Z hown hK.1 hP 0 rfl rfl 7 (by decide) (ht _ k_fl_Z_7) (fun _ h9 => h9) rfl d_Z_what_68 ?_
      refine lv_iload_n hx hb d_Z_what_71 rfl (lv_at hl 1 rfl) ?_
      refine va_iald hx hb hK.1 hP 1 0 rfl rfl (in_k (wi_k hbl c_5)) d_Z_what_72 ?_
      rw [hQ]; exact retMi (w1 := fun u : Int32 => ((wZ cI cL z0 y1 y2 y3 y4 y5 y6 y7 y8 y9 y10 y11 y12 y13 y14 mn oo oa ob ss gg zz md sd da rg pp kp ot u li bl nw wr ru al sp en ke kb at0) ++ fr)) (if wiF k 0 (bl - 1) = 0 then 1 else 0) hx hb hr hlocks hP hD hS (by first | (simp only [zwhaF, if_neg c_5, if_neg c_11_0, if_neg c_11_1, if_pos c_11_2]; done) | simp [zwhaF, c_5, c_11_0, c_11_1, c_11_2]) d_Z_what_73
    by_cases c_11_3 : w = 3
    · refine lv_tableIn (off := 63) (tgt := 74) hx hb d_Z_what_11 (by rw [c_11_3]; decide) (by rw [c_11_3]; decide) (by rw [c_11_3] <;> rfl) (by decide) ?_
      refine lv_aload_n hx hb d_Z_what_74 rfl (lv_at hl 0 rfl) ?_
      refine va_get (ci := 5) (v := .ref y5) (C := R_Z) (T := T_Z) (N := 26) hx hb ht in_Z hown hK.1 hP 0 rfl rfl 11 (by decide) (ht _ k_fl_Z_22) (fun _ h9 => h9) rfl d_Z_what_75 ?_
      refine lv_iload_n hx hb d_Z_what_78 rfl (lv_at hl 1 rfl) ?_
      refine va_iald hx hb hK.1 hP 5 0 rfl rfl (in_k (wi_k hbl c_5)) d_Z_what_79 ?_
      refine lv_if_ne (tgt := 87) hx hb d_Z_what_80 (by decide) (fun c_80 => ?_) (fun c_80 => ?_)
      · refine lv_aload_n hx hb d_Z_what_87 rfl (lv_at hl 0 rfl) ?_
        refine va_get (ci := 5) (v := .ref y7) (C := R_Z) (T := T_Z) (N := 26) hx hb ht in_Z hown hK.1 hP 0 rfl rfl 13 (by decide) (ht _ k_fl_Z_28) (fun _ h9 => h9) rfl d_Z_what_88 ?_
        refine lv_iload_n hx hb d_Z_what_91 rfl (lv_at hl 1 rfl) ?_
        refine va_iald hx hb hK.1 hP 7 0 rfl rfl (in_k (wi_k hbl c_5)) d_Z_what_92 ?_
        rw [hQ]; exact retMi (w1 := fun u : Int32 => ((wZ cI cL z0 y1 y2 y3 y4 y5 y6 y7 y8 y9 y10 y11 y12 y13 y14 mn oo oa ob ss gg zz md sd da rg pp kp ot u li bl nw wr ru al sp en ke kb at0) ++ fr)) (if wiF k 0 (bl - 1) = 0 then 1 else 0) hx hb hr hlocks hP hD hS (by first | (simp only [zwhaF, if_neg c_5, if_neg c_11_0, if_neg c_11_1, if_neg c_11_2, if_pos c_11_3, if_neg c_80]; done) | simp [zwhaF, c_5, c_11_0, c_11_1, c_11_2, c_11_3, c_80]) d_Z_what_93
      · refine lv_iconst (v := 0) hx hb d_Z_what_83 (by decide) ?_
        refine lv_goto (tgt := 93) hx hb d_Z_what_84 (by decide) ?_
        rw [hQ]; exact retMi (w1 := fun u : Int32 => ((wZ cI cL z0 y1 y2 y3 y4 y5 y6 y7 y8 y9 y10 y11 y12 y13 y14 mn oo oa ob ss gg zz md sd da rg pp kp ot u li bl nw wr ru al sp en ke kb at0) ++ fr)) (if wiF k 0 (bl - 1) = 0 then 1 else 0) hx hb hr hlocks hP hD hS (by first | (simp only [zwhaF, if_neg c_5, if_neg c_11_0, if_neg c_11_1, if_neg c_11_2, if_pos c_11_3, if_pos c_80]; done) | simp [zwhaF, c_5, c_11_0, c_11_1, c_11_2, c_11_3, c_80]) d_Z_what_93
    refine lv_tableOut (tgt := 94) hx hb d_Z_what_11 (by have := lv_neT c_11_0 (show (0 : Int32).toInt = 0 by decide); have := lv_neT c_11_1 (show (1 : Int32).toInt = 1 by decide); have := lv_neT c_11_2 (show (2 : Int32).toInt = 2 by decide); have := lv_neT c_11_3 (show (3 : Int32).toInt = 3 by decide); omega) (by decide) ?_
    refine lv_aload_n hx hb d_Z_what_94 rfl (lv_at hl 0 rfl) ?_
    refine lv_iconst (v := 2) hx hb d_Z_what_95 (by decide) ?_
    refine goMi (va_runV (As := [.int 2]) (rest := []) ⟨hx, hb, hml, hown, hts⟩ (c_Z_fail l D cI cL cO z0 y1 y2 y3 y4 y5 y6 y7 y8 y9 y10 y11 y12 y13 y14 mn oo oa ob ss gg zz md sd da rg pp kp ot (if wiF k 0 (bl - 1) = 0 then 1 else 0) li bl nw wr ru al sp en ke kb at0 fr 2 H.size) (cwV 1 hts (gBIG (m4 k_ml_Z_67 k_im_Z_fail k_sel_Z_fail k_ini_Z) k_co_Z_fail) rfl rfl rfl (by decide +kernel) ⟨Nat.le_of_ble_eq_true rfl, Nat.le_of_ble_eq_true rfl⟩) ⟨PM.bl, va_recv hK.1 hP (ci := 5) (q0 := 0) rfl rfl, PM.pre hP hD hK⟩ rfl rfl hl.1 rfl (lv_room (Nat.le_of_ble_eq_true rfl)) d_Z_what_96 ⟨Nat.le_of_ble_eq_true rfl, Nat.le_of_ble_eq_true rfl⟩) hD hS hA (fun r_96 u H locs hw hP hD hS => ?_)
    obtain ⟨rfl, rfl⟩ := hw
    have hP : va_P D vwCl ((wZ cI cL z0 y1 y2 y3 y4 y5 y6 y7 y8 y9 y10 y11 y12 y13 y14 mn oo oa ob ss gg zz md sd da rg pp kp ot 2 li bl nw wr ru al sp en ke kb at0) ++ fr) H := hP
    have hD : va_D A ((wZ cI cL z0 y1 y2 y3 y4 y5 y6 y7 y8 y9 y10 y11 y12 y13 y14 mn oo oa ob ss gg zz md sd da rg pp kp ot 2 li bl nw wr ru al sp en ke kb at0) ++ fr) := hD
    rw [hQ]; exact retMi (w1 := fun u : Int32 => ((wZ cI cL z0 y1 y2 y3 y4 y5 y6 y7 y8 y9 y10 y11 y12 y13 y14 mn oo oa ob ss gg zz md sd da rg pp kp ot u li bl nw wr ru al sp en ke kb at0) ++ fr)) 2 hx hb hr hlocks hP hD hS (by first | (simp only [zwhaF, if_neg c_5, if_neg c_11_0, if_neg c_11_1, if_neg c_11_2, if_neg c_11_3]; done) | simp [zwhaF, c_5, c_11_0, c_11_1, c_11_2, c_11_3]) d_Z_what_99
  · refine lv_iconst (v := 0) hx hb d_Z_what_8 (by decide) ?_
    rw [hQ]; exact retMi (w1 := fun u : Int32 => ((wZ cI cL z0 y1 y2 y3 y4 y5 y6 y7 y8 y9 y10 y11 y12 y13 y14 mn oo oa ob ss gg zz md sd da rg pp kp ot u li bl nw wr ru al sp en ke kb at0) ++ fr)) (if wiF k 0 (bl - 1) = 0 then 1 else 0) hx hb hr hlocks hP hD hS (by first | (simp only [zwhaF, if_pos c_5]; done) | simp [zwhaF, c_5]) d_Z_what_9

abbrev w_Z_register : List Cond := .code y_Z_register b_Z_register 2 (some .long) :: BIG
set_option maxHeartbeats 4000000 in
set_option maxRecDepth 100000 in
theorem c_Z_register (l : Launch) (D : va_G) (cI cL cO : ClassId) (z0 : Nat) (y1 : Nat) (y2 : Nat) (y3 : Nat) (y4 : Nat) (y5 : Nat) (y6 : Nat) (y7 : Nat) (y8 : Nat) (y9 : Nat) (y10 : Nat) (y11 : Nat) (y12 : Nat) (y13 : Nat) (y14 : Nat) (mn : Fn) (oo : Fn) (oa : Fn) (ob : Fn) (ss : Fn) (gg : Fn) (zz : Fn) (md : Fn) (sd : Fn) (da : Fn) (rg : FL) (pp : FL) (kp : FL) (ot : FL) (th : Int32) (li : Int32) (bl : Int32) (nw : Int32) (wr : Int32) (ru : Int32) (al : Int32) (sp : Int32) (en : Int32) (ke : Int32) (kb : Int32) (at0 : Int32) (fr : va_W) (i : Int32) : CMl l y_Z_register w_Z_register ({ frames := 1, cells := 0, slots := 0, locals := 22 }) D cI cL cO [.ref z0, .int i] ((wZ cI cL z0 y1 y2 y3 y4 y5 y6 y7 y8 y9 y10 y11 y12 y13 y14 mn oo oa ob ss gg zz md sd da rg pp kp ot th li bl nw wr ru al sp en ke kb at0) ++ fr) (fun (r : Int64) (u : Int32) => (r, u) = (if wiF i 0 3 = 0 then (0, 1) else (kp i.toNatClampNeg, 0))) (fun u : Int32 => ((wZ cI cL z0 y1 y2 y3 y4 y5 y6 y7 y8 y9 y10 y11 y12 y13 y14 mn oo oa ob ss gg zz md sd da rg pp kp ot u li bl nw wr ru al sp en ke kb at0) ++ fr)) 0 0 := by
  refine ofMl (cc := b_Z_register) (maxL := 2) (ret := (some .long)) (by decide) rfl (Nat.le_of_ble_eq_true rfl) ?_
  intro p e s m below meth c A ls H Q hQ hx hb hr hlocks hin hts hown hml hP hK hD hS hA hl
  have hl : lv_has ls 2 [(0, .ref z0), (1, .int i)] := hl
  have hown : s.vm.findClass R_Z = some m.cls := hown
  have ht : ∀ w ∈ BIG, w.before _ s = true := fun w h => hts w (List.mem_cons_of_mem _ h)
  refine lv_aload_n hx hb d_Z_register_0 rfl (lv_at hl 0 rfl) ?_
  refine lv_iload_n hx hb d_Z_register_1 rfl (lv_at hl 1 rfl) ?_
  refine lv_iconst (v := 0) hx hb d_Z_register_2 (by decide) ?_
  refine lv_iconst (v := 3) hx hb d_Z_register_3 (by decide) ?_
  refine goRi (va_runS (As := [.int i, .int 0, .int 3]) (rest := [.ref z0]) ⟨hx, hb, hml, hown, hts⟩ (c_Z_within l D cI cL cO i 0 3) (cwS 3 hts (gBIG (m3 k_ml_Z_63 k_st_Z_within k_ini_Z) k_co_Z_within) rfl rfl rfl (by decide +kernel) ⟨Nat.le_of_ble_eq_true rfl, Nat.le_of_ble_eq_true rfl⟩) ⟨PR.bl, PR.pre P_nil hK⟩ rfl rfl hl.1 rfl (lv_room (Nat.le_of_ble_eq_true rfl)) d_Z_register_4 ⟨Nat.le_of_ble_eq_true rfl, Nat.le_of_ble_eq_true rfl⟩) ?_
  refine lv_if_eq (tgt := 14) hx hb d_Z_register_7 (by decide) (fun c_7 => ?_) (fun c_7 => ?_)
  · refine lv_iconst (v := 1) hx hb d_Z_register_14 (by decide) ?_
    refine va_put (ci := 5) (v := .int 1) (ty := .int) (C := R_Z) (T := T_Z) (N := 26) hx hb ht in_Z t_Z t_Z_ok n_Z hown hK.1 hP hD hS 0 rfl rfl 0 (by decide) (ht _ k_fl_Z_57) (fun _ h9 => h9) rfl (by decide +kernel) rfl rfl (Nat.le_of_ble_eq_true rfl) d_Z_register_15 (fun H locs hP hD hS => ?_)
    have hP : va_P D vwCl ((wZ cI cL z0 y1 y2 y3 y4 y5 y6 y7 y8 y9 y10 y11 y12 y13 y14 mn oo oa ob ss gg zz md sd da rg pp kp ot 1 li bl nw wr ru al sp en ke kb at0) ++ fr) H := hP
    have hD : va_D A ((wZ cI cL z0 y1 y2 y3 y4 y5 y6 y7 y8 y9 y10 y11 y12 y13 y14 mn oo oa ob ss gg zz md sd da rg pp kp ot 1 li bl nw wr ru al sp en ke kb at0) ++ fr) := hD
    refine lv_aload_n hx hb d_Z_register_18 rfl (lv_at hl 0 rfl) ?_
    refine va_get (ci := 5) (v := .int 1) (C := R_Z) (T := T_Z) (N := 26) hx hb ht in_Z hown hK.1 hP 0 rfl rfl 0 (by decide) (ht _ k_fl_Z_57) (fun _ h9 => h9) rfl d_Z_register_19 ?_
    refine lv_if_ne (tgt := 34) hx hb d_Z_register_22 (by decide) (fun c_22 => ?_) (fun c_22 => ?_)
    · refine lv_lconst (v := 0) hx hb d_Z_register_34 (by decide) ?_
      rw [hQ]; exact retMl (w1 := fun u : Int32 => ((wZ cI cL z0 y1 y2 y3 y4 y5 y6 y7 y8 y9 y10 y11 y12 y13 y14 mn oo oa ob ss gg zz md sd da rg pp kp ot u li bl nw wr ru al sp en ke kb at0) ++ fr)) 1 hx hb hr hlocks hP hD hS (by first | (simp only [if_pos c_7]; done) | simp [c_7]) d_Z_register_35
    · exact absurd c_22 (by decide)
  · refine lv_iconst (v := 0) hx hb d_Z_register_10 (by decide) ?_
    refine lv_goto (tgt := 15) hx hb d_Z_register_11 (by decide) ?_
    refine va_put (ci := 5) (v := .int 0) (ty := .int) (C := R_Z) (T := T_Z) (N := 26) hx hb ht in_Z t_Z t_Z_ok n_Z hown hK.1 hP hD hS 0 rfl rfl 0 (by decide) (ht _ k_fl_Z_57) (fun _ h9 => h9) rfl (by decide +kernel) rfl rfl (Nat.le_of_ble_eq_true rfl) d_Z_register_15 (fun H locs hP hD hS => ?_)
    have hP : va_P D vwCl ((wZ cI cL z0 y1 y2 y3 y4 y5 y6 y7 y8 y9 y10 y11 y12 y13 y14 mn oo oa ob ss gg zz md sd da rg pp kp ot 0 li bl nw wr ru al sp en ke kb at0) ++ fr) H := hP
    have hD : va_D A ((wZ cI cL z0 y1 y2 y3 y4 y5 y6 y7 y8 y9 y10 y11 y12 y13 y14 mn oo oa ob ss gg zz md sd da rg pp kp ot 0 li bl nw wr ru al sp en ke kb at0) ++ fr) := hD
    refine lv_aload_n hx hb d_Z_register_18 rfl (lv_at hl 0 rfl) ?_
    refine va_get (ci := 5) (v := .int 0) (C := R_Z) (T := T_Z) (N := 26) hx hb ht in_Z hown hK.1 hP 0 rfl rfl 0 (by decide) (ht _ k_fl_Z_57) (fun _ h9 => h9) rfl d_Z_register_19 ?_
    refine lv_if_ne (tgt := 34) hx hb d_Z_register_22 (by decide) (fun c_22 => ?_) (fun c_22 => ?_)
    · exact absurd c_22 (by decide)
    · refine lv_aload_n hx hb d_Z_register_25 rfl (lv_at hl 0 rfl) ?_
      refine va_get (ci := 5) (v := .ref y13) (C := R_Z) (T := T_Z) (N := 26) hx hb ht in_Z hown hK.1 hP 0 rfl rfl 21 (by decide) (ht _ k_fl_Z_47) (fun _ h9 => h9) rfl d_Z_register_26 ?_
      refine lv_iload_n hx hb d_Z_register_29 rfl (lv_at hl 1 rfl) ?_
      refine va_lald hx hb hK.1 hP 13 1 rfl rfl (in_w4 c_7) d_Z_register_30 ?_
      refine lv_goto (tgt := 35) hx hb d_Z_register_31 (by decide) ?_
      rw [hQ]; exact retMl (w1 := fun u : Int32 => ((wZ cI cL z0 y1 y2 y3 y4 y5 y6 y7 y8 y9 y10 y11 y12 y13 y14 mn oo oa ob ss gg zz md sd da rg pp kp ot u li bl nw wr ru al sp en ke kb at0) ++ fr)) 0 hx hb hr hlocks hP hD hS (by first | (simp only [if_neg c_7]; done) | simp [c_7]) d_Z_register_35

abbrev w_Z_ended : List Cond := .code y_Z_ended b_Z_ended 2 (some .int) :: BIG
set_option maxHeartbeats 4000000 in
set_option maxRecDepth 100000 in
theorem c_Z_ended (l : Launch) (D : va_G) (cI cL cO : ClassId) (z0 : Nat) (y1 : Nat) (y2 : Nat) (y3 : Nat) (y4 : Nat) (y5 : Nat) (y6 : Nat) (y7 : Nat) (y8 : Nat) (y9 : Nat) (y10 : Nat) (y11 : Nat) (y12 : Nat) (y13 : Nat) (y14 : Nat) (mn : Fn) (oo : Fn) (oa : Fn) (ob : Fn) (ss : Fn) (gg : Fn) (zz : Fn) (md : Fn) (sd : Fn) (da : Fn) (rg : FL) (pp : FL) (kp : FL) (ot : FL) (th : Int32) (li : Int32) (bl : Int32) (nw : Int32) (wr : Int32) (ru : Int32) (al : Int32) (sp : Int32) (en : Int32) (ke : Int32) (kb : Int32) (at0 : Int32) (fr : va_W) (w : Int32) : CMi l y_Z_ended w_Z_ended ({ frames := 1, cells := 0, slots := 0, locals := 21 }) D cI cL cO [.ref z0, .int w] ((wZ cI cL z0 y1 y2 y3 y4 y5 y6 y7 y8 y9 y10 y11 y12 y13 y14 mn oo oa ob ss gg zz md sd da rg pp kp ot th li bl nw wr ru al sp en ke kb at0) ++ fr) (fun (r : Int32) (u : Int32) => (r, u) = (if w = 0 then (ke, 0) else if w = 1 then (if kb = 0 then (0, 0) else (1, 0)) else (0, 1))) (fun u : Int32 => ((wZ cI cL z0 y1 y2 y3 y4 y5 y6 y7 y8 y9 y10 y11 y12 y13 y14 mn oo oa ob ss gg zz md sd da rg pp kp ot u li bl nw wr ru al sp en ke kb at0) ++ fr)) 0 0 := by
  refine ofMi (cc := b_Z_ended) (maxL := 2) (ret := (some .int)) (by decide) rfl (Nat.le_of_ble_eq_true rfl) ?_
  intro p e s m below meth c A ls H Q hQ hx hb hr hlocks hin hts hown hml hP hK hD hS hA hl
  have hl : lv_has ls 2 [(0, .ref z0), (1, .int w)] := hl
  have hown : s.vm.findClass R_Z = some m.cls := hown
  have ht : ∀ w ∈ BIG, w.before _ s = true := fun w h => hts w (List.mem_cons_of_mem _ h)
  refine lv_aload_n hx hb d_Z_ended_0 rfl (lv_at hl 0 rfl) ?_
  refine lv_iconst (v := 0) hx hb d_Z_ended_1 (by decide) ?_
  refine va_put (ci := 5) (v := .int 0) (ty := .int) (C := R_Z) (T := T_Z) (N := 26) hx hb ht in_Z t_Z t_Z_ok n_Z hown hK.1 hP hD hS 0 rfl rfl 0 (by decide) (ht _ k_fl_Z_57) (fun _ h9 => h9) rfl (by decide +kernel) rfl rfl (Nat.le_of_ble_eq_true rfl) d_Z_ended_2 (fun H locs hP hD hS => ?_)
  have hP : va_P D vwCl ((wZ cI cL z0 y1 y2 y3 y4 y5 y6 y7 y8 y9 y10 y11 y12 y13 y14 mn oo oa ob ss gg zz md sd da rg pp kp ot 0 li bl nw wr ru al sp en ke kb at0) ++ fr) H := hP
  have hD : va_D A ((wZ cI cL z0 y1 y2 y3 y4 y5 y6 y7 y8 y9 y10 y11 y12 y13 y14 mn oo oa ob ss gg zz md sd da rg pp kp ot 0 li bl nw wr ru al sp en ke kb at0) ++ fr) := hD
  refine lv_iload_n hx hb d_Z_ended_5 rfl (lv_at hl 1 rfl) ?_
  refine lv_if_ne (tgt := 16) hx hb d_Z_ended_6 (by decide) (fun c_6 => ?_) (fun c_6 => ?_)
  · refine lv_iload_n hx hb d_Z_ended_16 rfl (lv_at hl 1 rfl) ?_
    refine lv_iconst (v := 1) hx hb d_Z_ended_17 (by decide) ?_
    refine lv_icmp_ne (tgt := 36) hx hb d_Z_ended_18 (by decide) (fun c_18 => ?_) (fun c_18 => ?_)
    · refine lv_aload_n hx hb d_Z_ended_36 rfl (lv_at hl 0 rfl) ?_
      refine lv_iconst (v := 1) hx hb d_Z_ended_37 (by decide) ?_
      refine goMi (va_runV (As := [.int 1]) (rest := []) ⟨hx, hb, hml, hown, hts⟩ (c_Z_fail l D cI cL cO z0 y1 y2 y3 y4 y5 y6 y7 y8 y9 y10 y11 y12 y13 y14 mn oo oa ob ss gg zz md sd da rg pp kp ot 0 li bl nw wr ru al sp en ke kb at0 fr 1 H.size) (cwV 1 hts (gBIG (m4 k_ml_Z_67 k_im_Z_fail k_sel_Z_fail k_ini_Z) k_co_Z_fail) rfl rfl rfl (by decide +kernel) ⟨Nat.le_of_ble_eq_true rfl, Nat.le_of_ble_eq_true rfl⟩) ⟨PM.bl, va_recv hK.1 hP (ci := 5) (q0 := 0) rfl rfl, PM.pre hP hD hK⟩ rfl rfl hl.1 rfl (lv_room (Nat.le_of_ble_eq_true rfl)) d_Z_ended_38 ⟨Nat.le_of_ble_eq_true rfl, Nat.le_of_ble_eq_true rfl⟩) hD hS hA (fun r_38 u H locs hw hP hD hS => ?_)
      obtain ⟨rfl, rfl⟩ := hw
      have hP : va_P D vwCl ((wZ cI cL z0 y1 y2 y3 y4 y5 y6 y7 y8 y9 y10 y11 y12 y13 y14 mn oo oa ob ss gg zz md sd da rg pp kp ot 1 li bl nw wr ru al sp en ke kb at0) ++ fr) H := hP
      have hD : va_D A ((wZ cI cL z0 y1 y2 y3 y4 y5 y6 y7 y8 y9 y10 y11 y12 y13 y14 mn oo oa ob ss gg zz md sd da rg pp kp ot 1 li bl nw wr ru al sp en ke kb at0) ++ fr) := hD
      rw [hQ]; exact retMi (w1 := fun u : Int32 => ((wZ cI cL z0 y1 y2 y3 y4 y5 y6 y7 y8 y9 y10 y11 y12 y13 y14 mn oo oa ob ss gg zz md sd da rg pp kp ot u li bl nw wr ru al sp en ke kb at0) ++ fr)) 1 hx hb hr hlocks hP hD hS (by first | (simp only [if_neg c_6, if_neg c_18]; done) | simp [c_6, c_18]) d_Z_ended_41
    · refine lv_aload_n hx hb d_Z_ended_21 rfl (lv_at hl 0 rfl) ?_
      refine va_get (ci := 5) (v := .int kb) (C := R_Z) (T := T_Z) (N := 26) hx hb ht in_Z hown hK.1 hP 0 rfl rfl 24 (by decide) (ht _ k_fl_Z_141) (fun _ h9 => h9) rfl d_Z_ended_22 ?_
      refine lv_if_eq (tgt := 32) hx hb d_Z_ended_25 (by decide) (fun c_25 => ?_) (fun c_25 => ?_)
      · refine lv_iconst (v := 0) hx hb d_Z_ended_32 (by decide) ?_
        refine lv_goto (tgt := 41) hx hb d_Z_ended_33 (by decide) ?_
        rw [hQ]; exact retMi (w1 := fun u : Int32 => ((wZ cI cL z0 y1 y2 y3 y4 y5 y6 y7 y8 y9 y10 y11 y12 y13 y14 mn oo oa ob ss gg zz md sd da rg pp kp ot u li bl nw wr ru al sp en ke kb at0) ++ fr)) 0 hx hb hr hlocks hP hD hS (by first | (simp only [if_neg c_6, if_pos c_18, if_pos c_25]; done) | simp [c_6, c_18, c_25]) d_Z_ended_41
      · refine lv_iconst (v := 1) hx hb d_Z_ended_28 (by decide) ?_
        refine lv_goto (tgt := 41) hx hb d_Z_ended_29 (by decide) ?_
        rw [hQ]; exact retMi (w1 := fun u : Int32 => ((wZ cI cL z0 y1 y2 y3 y4 y5 y6 y7 y8 y9 y10 y11 y12 y13 y14 mn oo oa ob ss gg zz md sd da rg pp kp ot u li bl nw wr ru al sp en ke kb at0) ++ fr)) 0 hx hb hr hlocks hP hD hS (by first | (simp only [if_neg c_6, if_pos c_18, if_neg c_25]; done) | simp [c_6, c_18, c_25]) d_Z_ended_41
  · refine lv_aload_n hx hb d_Z_ended_9 rfl (lv_at hl 0 rfl) ?_
    refine va_get (ci := 5) (v := .int ke) (C := R_Z) (T := T_Z) (N := 26) hx hb ht in_Z hown hK.1 hP 0 rfl rfl 23 (by decide) (ht _ k_fl_Z_152) (fun _ h9 => h9) rfl d_Z_ended_10 ?_
    refine lv_goto (tgt := 41) hx hb d_Z_ended_13 (by decide) ?_
    rw [hQ]; exact retMi (w1 := fun u : Int32 => ((wZ cI cL z0 y1 y2 y3 y4 y5 y6 y7 y8 y9 y10 y11 y12 y13 y14 mn oo oa ob ss gg zz md sd da rg pp kp ot u li bl nw wr ru al sp en ke kb at0) ++ fr)) 0 hx hb hr hlocks hP hD hS (by first | (simp only [if_pos c_6]; done) | simp [c_6]) d_Z_ended_41
end
section
def olF (nw li : Int32) : Int32 := if nw - li + 1 ≤ 0 then 0 else nw - li + 1
/-- a generation more: what is older than the oldest becomes rows; (how many, states) -/
def nxL (gg : Fn) (old bl : Int32) : Nat → Int32 → Int32 → Fn → Int32 × Fn
  | 0, _, q, s => (q, s)
  | n + 1, k, q, s => if bl ≤ k then (q, s) else if s k.toNatClampNeg ≤ 0 then nxL gg old bl n (k + 1) q s else if old ≤ gg k.toNatClampNeg then nxL gg old bl n (k + 1) q s else nxL gg old bl n (k + 1) (q + 1) (upd s k.toNatClampNeg 0)
def ctL (ss : Fn) (bl : Int32) : Nat → Int32 → Int32 → Int32 → Int32 × Int32
  | 0, _, h, w => (h, w)
  | n + 1, k, h, w => if bl ≤ k then (h, w) else ctL ss bl n (k + 1) (h + (if ss k.toNatClampNeg = 2 then 1 else 0)) (w + (if ss k.toNatClampNeg = 1 then 1 else 0))
def ctF (ss : Fn) (bl : Int32) : Int32 × Int32 := ctL ss bl 25 0 0 0
def zcnF (w bl nw li wr ru al : Int32) (ss : Fn) : Int32 := if w = 0 then bl else if w = 1 then nw else if w = 2 then olF nw li else if w = 3 then (ctF ss bl).1 else if w = 4 then (ctF ss bl).2 else if w = 5 then wr else if w = 6 then ru else if w = 7 then al else if w = 8 then li else -1
theorem in_kb {k bl : Int32} (hb : 0 ≤ bl.toInt ∧ bl.toInt ≤ 24) (hi : 0 ≤ k.toInt ∧ k.toInt ≤ 24) (c : ¬ bl ≤ k) : 0 ≤ k.toInt ∧ k.toInt < 24 ∧ k.toInt < bl.toInt := by
  have := i_lt c
  omega
theorem P_rep {D : va_G} {cl : List vw_C} {ws : va_W} {A : Nat → Prop} {a N : Nat} {c : ClassId} {f g : FL} {H : Heap} (i : Nat) (hi : ws[i]? = some (a, .inl (c, N, .inr (.inl f)))) (h : ∀ j, j < N → f j = g j) (hD : va_D A ws) (hP : va_P D cl ws H) : va_P D cl (ws.set i (a, .inl (c, N, .inr (.inl g)))) H := by
  refine hP.set hD hi ?_ (fun q _ => rfl)
  have h1 : H[a]? = some (arrV c N (fun j => .long (f j))) := hP i _ hi
  rw [arrV_eq (g := fun j => .long (g j)) (fun j hj => by rw [h j hj])] at h1
  exact h1
theorem P_repi {D : va_G} {cl : List vw_C} {ws : va_W} {A : Nat → Prop} {a N : Nat} {c : ClassId} {f g : Fn} {H : Heap} (i : Nat) (hi : ws[i]? = some (a, .inl (c, N, .inl f))) (h : ∀ j, j < N → f j = g j) (hD : va_D A ws) (hP : va_P D cl ws H) : va_P D cl (ws.set i (a, .inl (c, N, .inl g))) H := by
  refine hP.set hD hi ?_ (fun q _ => rfl)
  have h1 : H[a]? = some (arrV c N (fun j => .int (f j))) := hP i _ hi
  rw [arrV_eq (g := fun j => .int (g j)) (fun j hj => by rw [h j hj])] at h1
  exact h1
theorem beg4 (rg : FL) (x y : Int64) (j : Nat) (hj : j < 4) : vp_updL (vp_updL (vp_updL (vp_updL rg (0 : Int32).toNatClampNeg x) (1 : Int32).toNatClampNeg y) (2 : Int32).toNatClampNeg 0) (3 : Int32).toNatClampNeg 0 j = begR x y j := by
  rcases (show j = 0 ∨ j = 1 ∨ j = 2 ∨ j = 3 by omega) with rfl | rfl | rfl | rfl <;> rfl

abbrev w_Z_oldest : List Cond := .code y_Z_oldest b_Z_oldest 1 (some .int) :: BIG
set_option maxHeartbeats 4000000 in
set_option maxRecDepth 100000 in
theorem c_Z_oldest (l : Launch) (D : va_G) (cI cL cO : ClassId) (z0 : Nat) (y1 : Nat) (y2 : Nat) (y3 : Nat) (y4 : Nat) (y5 : Nat) (y6 : Nat) (y7 : Nat) (y8 : Nat) (y9 : Nat) (y10 : Nat) (y11 : Nat) (y12 : Nat) (y13 : Nat) (y14 : Nat) (mn : Fn) (oo : Fn) (oa : Fn) (ob : Fn) (ss : Fn) (gg : Fn) (zz : Fn) (md : Fn) (sd : Fn) (da : Fn) (rg : FL) (pp : FL) (kp : FL) (ot : FL) (th : Int32) (li : Int32) (bl : Int32) (nw : Int32) (wr : Int32) (ru : Int32) (al : Int32) (sp : Int32) (en : Int32) (ke : Int32) (kb : Int32) (at0 : Int32) : CRi l y_Z_oldest w_Z_oldest ({ frames := 0, cells := 0, slots := 0, locals := 0 }) D cI cL cO [.ref z0] (wZ cI cL z0 y1 y2 y3 y4 y5 y6 y7 y8 y9 y10 y11 y12 y13 y14 mn oo oa ob ss gg zz md sd da rg pp kp ot th li bl nw wr ru al sp en ke kb at0) (olF nw li) := by
  refine ofR (cc := b_Z_oldest) (maxL := 1) (ret := (some .int)) (by decide) rfl (Nat.le_of_ble_eq_true rfl) ?_
  intro p e s m below meth c ls Q hQ hx hb hr hlocks hts hown hml hP hK hl
  have hl : lv_has ls 1 [(0, .ref z0)] := hl
  have hown : s.vm.findClass R_Z = some m.cls := hown
  have ht : ∀ w ∈ BIG, w.before _ s = true := fun w h => hts w (List.mem_cons_of_mem _ h)
  refine lv_aload_n hx hb d_Z_oldest_0 rfl (lv_at hl 0 rfl) ?_
  refine va_get (ci := 5) (v := .int nw) (C := R_Z) (T := T_Z) (N := 26) hx hb ht in_Z hown hK.1 hP 0 rfl rfl 3 (by decide) (ht _ k_fl_Z_96) (fun _ h9 => h9) rfl d_Z_oldest_1 ?_
  refine lv_aload_n hx hb d_Z_oldest_4 rfl (lv_at hl 0 rfl) ?_
  refine va_get (ci := 5) (v := .int li) (C := R_Z) (T := T_Z) (N := 26) hx hb ht in_Z hown hK.1 hP 0 rfl rfl 1 (by decide) (ht _ k_fl_Z_53) (fun _ h9 => h9) rfl d_Z_oldest_5 ?_
  refine lv_isub hx hb d_Z_oldest_8 ?_
  refine lv_iconst (v := 1) hx hb d_Z_oldest_9 (by decide) ?_
  refine lv_iadd hx hb d_Z_oldest_10 ?_
  refine lv_if_le (tgt := 28) hx hb d_Z_oldest_11 (by decide) (fun c_11 => ?_) (fun c_11 => ?_)
  · refine lv_iconst (v := 0) hx hb d_Z_oldest_28 (by decide) ?_
    rw [hQ]; exact retRi hx hb hr hlocks (by first | (simp only [olF, if_pos c_11]; done) | simp [olF, c_11]) d_Z_oldest_29
  · refine lv_aload_n hx hb d_Z_oldest_14 rfl (lv_at hl 0 rfl) ?_
    refine va_get (ci := 5) (v := .int nw) (C := R_Z) (T := T_Z) (N := 26) hx hb ht in_Z hown hK.1 hP 0 rfl rfl 3 (by decide) (ht _ k_fl_Z_96) (fun _ h9 => h9) rfl d_Z_oldest_15 ?_
    refine lv_aload_n hx hb d_Z_oldest_18 rfl (lv_at hl 0 rfl) ?_
    refine va_get (ci := 5) (v := .int li) (C := R_Z) (T := T_Z) (N := 26) hx hb ht in_Z hown hK.1 hP 0 rfl rfl 1 (by decide) (ht _ k_fl_Z_53) (fun _ h9 => h9) rfl d_Z_oldest_19 ?_
    refine lv_isub hx hb d_Z_oldest_22 ?_
    refine lv_iconst (v := 1) hx hb d_Z_oldest_23 (by decide) ?_
    refine lv_iadd hx hb d_Z_oldest_24 ?_
    refine lv_goto (tgt := 29) hx hb d_Z_oldest_25 (by decide) ?_
    rw [hQ]; exact retRi hx hb hr hlocks (by first | (simp only [olF, if_neg c_11]; done) | simp [olF, c_11]) d_Z_oldest_29

abbrev w_Z_next : List Cond := .code y_Z_next b_Z_next 3 (some .int) :: BIG
set_option maxHeartbeats 4000000 in
set_option maxRecDepth 100000 in
theorem c_Z_next (l : Launch) (D : va_G) (cI cL cO : ClassId) (z0 : Nat) (y1 : Nat) (y2 : Nat) (y3 : Nat) (y4 : Nat) (y5 : Nat) (y6 : Nat) (y7 : Nat) (y8 : Nat) (y9 : Nat) (y10 : Nat) (y11 : Nat) (y12 : Nat) (y13 : Nat) (y14 : Nat) (mn : Fn) (oo : Fn) (oa : Fn) (ob : Fn) (ss : Fn) (gg : Fn) (zz : Fn) (md : Fn) (sd : Fn) (da : Fn) (rg : FL) (pp : FL) (kp : FL) (ot : FL) (th : Int32) (li : Int32) (bl : Int32) (nw : Int32) (wr : Int32) (ru : Int32) (al : Int32) (sp : Int32) (en : Int32) (ke : Int32) (kb : Int32) (at0 : Int32) (fr : va_W) (hbl : 0 ≤ bl.toInt ∧ bl.toInt ≤ 24) : CMi l y_Z_next w_Z_next ({ frames := 1, cells := 0, slots := 0, locals := 20 }) D cI cL cO [.ref z0] ((wZ cI cL z0 y1 y2 y3 y4 y5 y6 y7 y8 y9 y10 y11 y12 y13 y14 mn oo oa ob ss gg zz md sd da rg pp kp ot th li bl nw wr ru al sp en ke kb at0) ++ fr) (fun (r : Int32) (u : Int32 × Int32 × Fn) => (r, u.2.2) = nxL gg (olF (nw + 1) li) bl 25 0 0 ss ∧ u.1 = 0 ∧ u.2.1 = nw + 1) (fun u : Int32 × Int32 × Fn => ((wZ cI cL z0 y1 y2 y3 y4 y5 y6 y7 y8 y9 y10 y11 y12 y13 y14 mn oo oa ob u.2.2 gg zz md sd da rg pp kp ot u.1 li bl u.2.1 wr ru al sp en ke kb at0) ++ fr)) 0 0 := by
  refine ofMi (cc := b_Z_next) (maxL := 3) (ret := (some .int)) (by decide) rfl (Nat.le_of_ble_eq_true rfl) ?_
  intro p e s m below meth c A ls H Q hQ hx hb hr hlocks hin hts hown hml hP hK hD hS hA hl
  have hl : lv_has ls 3 [(0, .ref z0)] := hl
  have hown : s.vm.findClass R_Z = some m.cls := hown
  have ht : ∀ w ∈ BIG, w.before _ s = true := fun w h => hts w (List.mem_cons_of_mem _ h)
  refine lv_aload_n hx hb d_Z_next_0 rfl (lv_at hl 0 rfl) ?_
  refine lv_iconst (v := 0) hx hb d_Z_next_1 (by decide) ?_
  refine va_put (ci := 5) (v := .int 0) (ty := .int) (C := R_Z) (T := T_Z) (N := 26) hx hb ht in_Z t_Z t_Z_ok n_Z hown hK.1 hP hD hS 0 rfl rfl 0 (by decide) (ht _ k_fl_Z_57) (fun _ h9 => h9) rfl (by decide +kernel) rfl rfl (Nat.le_of_ble_eq_true rfl) d_Z_next_2 (fun H locs hP hD hS => ?_)
  have hP : va_P D vwCl ((wZ cI cL z0 y1 y2 y3 y4 y5 y6 y7 y8 y9 y10 y11 y12 y13 y14 mn oo oa ob ss gg zz md sd da rg pp kp ot 0 li bl nw wr ru al sp en ke kb at0) ++ fr) H := hP
  have hD : va_D A ((wZ cI cL z0 y1 y2 y3 y4 y5 y6 y7 y8 y9 y10 y11 y12 y13 y14 mn oo oa ob ss gg zz md sd da rg pp kp ot 0 li bl nw wr ru al sp en ke kb at0) ++ fr) := hD
  refine lv_aload_n hx hb d_Z_next_5 rfl (lv_at hl 0 rfl) ?_
  refine lv_dup hx hb d_Z_next_6 rfl ?_
  refine va_get (ci := 5) (v := .int nw) (C := R_Z) (T := T_Z) (N := 26) hx hb ht in_Z hown hK.1 hP 0 rfl rfl 3 (by decide) (ht _ k_fl_Z_96) (fun _ h9 => h9) rfl d_Z_next_7 ?_
  refine lv_iconst (v := 1) hx hb d_Z_next_10 (by decide) ?_
  refine lv_iadd hx hb d_Z_next_11 ?_
  refine va_put (ci := 5) (v := .int (nw + 1)) (ty := .int) (C := R_Z) (T := T_Z) (N := 26) hx hb ht in_Z t_Z t_Z_ok n_Z hown hK.1 hP hD hS 0 rfl rfl 3 (by decide) (ht _ k_fl_Z_96) (fun _ h9 => h9) rfl (by decide +kernel) rfl rfl (Nat.le_of_ble_eq_true rfl) d_Z_next_12 (fun H locs hP hD hS => ?_)
  have hP : va_P D vwCl ((wZ cI cL z0 y1 y2 y3 y4 y5 y6 y7 y8 y9 y10 y11 y12 y13 y14 mn oo oa ob ss gg zz md sd da rg pp kp ot 0 li bl (nw + 1) wr ru al sp en ke kb at0) ++ fr) H := hP
  have hD : va_D A ((wZ cI cL z0 y1 y2 y3 y4 y5 y6 y7 y8 y9 y10 y11 y12 y13 y14 mn oo oa ob ss gg zz md sd da rg pp kp ot 0 li bl (nw + 1) wr ru al sp en ke kb at0) ++ fr) := hD
  refine lv_iconst (v := 0) hx hb d_Z_next_15 (by decide) ?_
  refine lv_istore_n (lv' := [(1, .int 0), (0, .ref z0)]) hx hb d_Z_next_16 rfl hl (by decide) rfl (fun ls hl => ?_)
  refine lv_iconst (v := 0) hx hb d_Z_next_17 (by decide) ?_
  refine lv_istore_n (lv' := [(2, .int 0), (1, .int 0), (0, .ref z0)]) hx hb d_Z_next_18 rfl hl (by decide) rfl (fun ls hl => ?_)
  have lp : ∀ (n : Nat) (q : Int32) (k : Int32) (s1 : Fn) (H : Heap) (locs : List Loc) (ls : Array Slot), (k.toInt + (n : Int) = 25) → (0 ≤ k.toInt ∧ k.toInt ≤ 24) → (nxL gg (olF (nw + 1) li) bl n k q s1 = nxL gg (olF (nw + 1) li) bl 25 0 0 ss) → va_P D vwCl ((wZ cI cL z0 y1 y2 y3 y4 y5 y6 y7 y8 y9 y10 y11 y12 y13 y14 mn oo oa ob s1 gg zz md sd da rg pp kp ot 0 li bl (nw + 1) wr ru al sp en ke kb at0) ++ fr) H → va_D A ((wZ cI cL z0 y1 y2 y3 y4 y5 y6 y7 y8 y9 y10 y11 y12 y13 y14 mn oo oa ob s1 gg zz md sd da rg pp kp ot 0 li bl (nw + 1) wr ru al sp en ke kb at0) ++ fr) → va_S A s.heap H locs → lv_has ls 3 [(0, .ref z0), (1, .int q), (2, .int k)] → W p l e ({ frames := 1, cells := 0, slots := 0, locals := 20 } : Room) s m ([.ref z0] : List Value).toArray below meth c H locs 0 0 Q (F0 m 19 ls []) := by
    intro n
    induction n with
    | zero =>
      intro q k s1 H locs ls hn hi hF hP hD hS hl
      exact absurd hn (by omega)
    | succ n ih =>
      intro q k s1 H locs ls hn hi hF hP hD hS hl
      refine lv_iload_n hx hb d_Z_next_19 rfl (lv_at hl 2 rfl) ?_
      refine lv_aload_n hx hb d_Z_next_20 rfl (lv_at hl 0 rfl) ?_
      refine va_get (ci := 5) (v := .int bl) (C := R_Z) (T := T_Z) (N := 26) hx hb ht in_Z hown hK.1 hP 0 rfl rfl 2 (by decide) (ht _ k_fl_Z_60) (fun _ h9 => h9) rfl d_Z_next_21 ?_
      refine lv_icmp_ge (tgt := 65) hx hb d_Z_next_24 (by decide) (fun c_24 => ?_) (fun c_24 => ?_)
      · refine lv_iload_n hx hb d_Z_next_65 rfl (lv_at hl 1 rfl) ?_
        rw [hQ]; exact retMi (w1 := fun u : Int32 × Int32 × Fn => ((wZ cI cL z0 y1 y2 y3 y4 y5 y6 y7 y8 y9 y10 y11 y12 y13 y14 mn oo oa ob u.2.2 gg zz md sd da rg pp kp ot u.1 li bl u.2.1 wr ru al sp en ke kb at0) ++ fr)) (0, nw + 1, s1) hx hb hr hlocks hP hD hS ⟨(by rw [← hF]; first | (simp only [nxL, if_pos c_24]; done) | simp [nxL, c_24]), rfl, rfl⟩ d_Z_next_66
      · refine lv_aload_n hx hb d_Z_next_27 rfl (lv_at hl 0 rfl) ?_
        refine va_get (ci := 5) (v := .ref y5) (C := R_Z) (T := T_Z) (N := 26) hx hb ht in_Z hown hK.1 hP 0 rfl rfl 11 (by decide) (ht _ k_fl_Z_22) (fun _ h9 => h9) rfl d_Z_next_28 ?_
        refine lv_iload_n hx hb d_Z_next_31 rfl (lv_at hl 2 rfl) ?_
        refine va_iald hx hb hK.1 hP 5 0 rfl rfl (in_k (in_kb hbl hi c_24)) d_Z_next_32 ?_
        refine lv_if_le (tgt := 59) hx hb d_Z_next_33 (by decide) (fun c_33 => ?_) (fun c_33 => ?_)
        · refine lv_iinc (v := k + 1) (lv' := [(2, .int (k + 1)), (0, .ref z0), (1, .int q)]) hx hb d_Z_next_59 hl (k := 2) rfl rfl (by decide) rfl (fun ls hl => ?_)
          refine lv_goto (tgt := 19) hx hb d_Z_next_62 (by decide) ?_
          exact ih q (k + 1) s1 _ _ ls (by rw [i32_1 (by omega)]; omega) (by rw [i32_1 (by omega)]; have := in_kb hbl hi c_24; omega) (by rw [← hF]; first | (simp only [nxL, if_neg c_24, if_pos c_33]; done) | simp [nxL, c_24, c_33]) hP hD hS (lv_sub hl [1, 2, 0] rfl)
        · refine lv_aload_n hx hb d_Z_next_36 rfl (lv_at hl 0 rfl) ?_
          refine va_get (ci := 5) (v := .ref y6) (C := R_Z) (T := T_Z) (N := 26) hx hb ht in_Z hown hK.1 hP 0 rfl rfl 12 (by decide) (ht _ k_fl_Z_25) (fun _ h9 => h9) rfl d_Z_next_37 ?_
          refine lv_iload_n hx hb d_Z_next_40 rfl (lv_at hl 2 rfl) ?_
          refine va_iald hx hb hK.1 hP 6 0 rfl rfl (in_k (in_kb hbl hi c_24)) d_Z_next_41 ?_
          refine lv_aload_n hx hb d_Z_next_42 rfl (lv_at hl 0 rfl) ?_
          refine goRi (va_runV (As := []) (rest := [.int (gg k.toNatClampNeg)]) ⟨hx, hb, hml, hown, hts⟩ (c_Z_oldest l D cI cL cO z0 y1 y2 y3 y4 y5 y6 y7 y8 y9 y10 y11 y12 y13 y14 mn oo oa ob s1 gg zz md sd da rg pp kp ot 0 li bl (nw + 1) wr ru al sp en ke kb at0) (cwV 0 hts (gBIG (m4 k_ml_Z_120 k_im_Z_oldest k_sel_Z_oldest k_ini_Z) k_co_Z_oldest) rfl rfl rfl (by decide +kernel) ⟨Nat.le_of_ble_eq_true rfl, Nat.le_of_ble_eq_true rfl⟩) ⟨PR.bl, va_recv hK.1 ((P_app.mp hP).1) (ci := 5) (q0 := 0) rfl rfl, PR.pre ((P_app.mp hP).1) hK⟩ rfl rfl hl.1 rfl (lv_room (Nat.le_of_ble_eq_true rfl)) d_Z_next_43 ⟨Nat.le_of_ble_eq_true rfl, Nat.le_of_ble_eq_true rfl⟩) ?_
          refine lv_icmp_ge (tgt := 59) hx hb d_Z_next_46 (by decide) (fun c_46 => ?_) (fun c_46 => ?_)
          · refine lv_iinc (v := k + 1) (lv' := [(2, .int (k + 1)), (0, .ref z0), (1, .int q)]) hx hb d_Z_next_59 hl (k := 2) rfl rfl (by decide) rfl (fun ls hl => ?_)
            refine lv_goto (tgt := 19) hx hb d_Z_next_62 (by decide) ?_
            exact ih q (k + 1) s1 _ _ ls (by rw [i32_1 (by omega)]; omega) (by rw [i32_1 (by omega)]; have := in_kb hbl hi c_24; omega) (by rw [← hF]; first | (simp only [nxL, if_neg c_24, if_neg c_33, if_pos c_46]; done) | simp [nxL, c_24, c_33, c_46]) hP hD hS (lv_sub hl [1, 2, 0] rfl)
          · refine lv_aload_n hx hb d_Z_next_49 rfl (lv_at hl 0 rfl) ?_
            refine va_get (ci := 5) (v := .ref y5) (C := R_Z) (T := T_Z) (N := 26) hx hb ht in_Z hown hK.1 hP 0 rfl rfl 11 (by decide) (ht _ k_fl_Z_22) (fun _ h9 => h9) rfl d_Z_next_50 ?_
            refine lv_iload_n hx hb d_Z_next_53 rfl (lv_at hl 2 rfl) ?_
            refine lv_iconst (v := 0) hx hb d_Z_next_54 (by decide) ?_
            refine va_iast hx hb hK.1 hP hD hS 5 0 rfl rfl (in_k (in_kb hbl hi c_24)) d_Z_next_55 (fun H locs hP hD hS => ?_)
            have hP : va_P D vwCl ((wZ cI cL z0 y1 y2 y3 y4 y5 y6 y7 y8 y9 y10 y11 y12 y13 y14 mn oo oa ob (upd s1 k.toNatClampNeg 0) gg zz md sd da rg pp kp ot 0 li bl (nw + 1) wr ru al sp en ke kb at0) ++ fr) H := hP
            have hD : va_D A ((wZ cI cL z0 y1 y2 y3 y4 y5 y6 y7 y8 y9 y10 y11 y12 y13 y14 mn oo oa ob (upd s1 k.toNatClampNeg 0) gg zz md sd da rg pp kp ot 0 li bl (nw + 1) wr ru al sp en ke kb at0) ++ fr) := hD
            refine lv_iinc (v := q + 1) (lv' := [(1, .int (q + 1)), (0, .ref z0), (2, .int k)]) hx hb d_Z_next_56 hl (k := 1) rfl rfl (by decide) rfl (fun ls hl => ?_)
            refine lv_iinc (v := k + 1) (lv' := [(2, .int (k + 1)), (1, .int (q + 1)), (0, .ref z0)]) hx hb d_Z_next_59 hl (k := 2) rfl rfl (by decide) rfl (fun ls hl => ?_)
            refine lv_goto (tgt := 19) hx hb d_Z_next_62 (by decide) ?_
            exact ih (q + 1) (k + 1) (upd s1 k.toNatClampNeg 0) _ _ ls (by rw [i32_1 (by omega)]; omega) (by rw [i32_1 (by omega)]; have := in_kb hbl hi c_24; omega) (by rw [← hF]; first | (simp only [nxL, if_neg c_24, if_neg c_33, if_neg c_46]; done) | simp [nxL, c_24, c_33, c_46]) hP hD hS (lv_sub hl [2, 1, 0] rfl)
  exact lp 25 0 0 ss _ _ ls (by decide) (by decide) rfl hP hD hS (lv_sub hl [2, 1, 0] rfl)

abbrev w_Z_count : List Cond := .code y_Z_count b_Z_count 5 (some .int) :: BIG
set_option maxHeartbeats 4000000 in
set_option maxRecDepth 100000 in
theorem c_Z_count (l : Launch) (D : va_G) (cI cL cO : ClassId) (z0 : Nat) (y1 : Nat) (y2 : Nat) (y3 : Nat) (y4 : Nat) (y5 : Nat) (y6 : Nat) (y7 : Nat) (y8 : Nat) (y9 : Nat) (y10 : Nat) (y11 : Nat) (y12 : Nat) (y13 : Nat) (y14 : Nat) (mn : Fn) (oo : Fn) (oa : Fn) (ob : Fn) (ss : Fn) (gg : Fn) (zz : Fn) (md : Fn) (sd : Fn) (da : Fn) (rg : FL) (pp : FL) (kp : FL) (ot : FL) (th : Int32) (li : Int32) (bl : Int32) (nw : Int32) (wr : Int32) (ru : Int32) (al : Int32) (sp : Int32) (en : Int32) (ke : Int32) (kb : Int32) (at0 : Int32) (fr : va_W) (w : Int32) (hbl : 0 ≤ bl.toInt ∧ bl.toInt ≤ 24) : CMi l y_Z_count w_Z_count ({ frames := 1, cells := 0, slots := 0, locals := 20 }) D cI cL cO [.ref z0, .int w] ((wZ cI cL z0 y1 y2 y3 y4 y5 y6 y7 y8 y9 y10 y11 y12 y13 y14 mn oo oa ob ss gg zz md sd da rg pp kp ot th li bl nw wr ru al sp en ke kb at0) ++ fr) (fun (r : Int32) (u : Int32) => r = zcnF w bl nw li wr ru al ss ∧ u = 0) (fun u : Int32 => ((wZ cI cL z0 y1 y2 y3 y4 y5 y6 y7 y8 y9 y10 y11 y12 y13 y14 mn oo oa ob ss gg zz md sd da rg pp kp ot u li bl nw wr ru al sp en ke kb at0) ++ fr)) 0 0 := by
  refine ofMi (cc := b_Z_count) (maxL := 5) (ret := (some .int)) (by decide) rfl (Nat.le_of_ble_eq_true rfl) ?_
  intro p e s m below meth c A ls H Q hQ hx hb hr hlocks hin hts hown hml hP hK hD hS hA hl
  have hl : lv_has ls 5 [(0, .ref z0), (1, .int w)] := hl
  have hown : s.vm.findClass R_Z = some m.cls := hown
  have ht : ∀ w ∈ BIG, w.before _ s = true := fun w h => hts w (List.mem_cons_of_mem _ h)
  refine lv_aload_n hx hb d_Z_count_0 rfl (lv_at hl 0 rfl) ?_
  refine lv_iconst (v := 0) hx hb d_Z_count_1 (by decide) ?_
  refine va_put (ci := 5) (v := .int 0) (ty := .int) (C := R_Z) (T := T_Z) (N := 26) hx hb ht in_Z t_Z t_Z_ok n_Z hown hK.1 hP hD hS 0 rfl rfl 0 (by decide) (ht _ k_fl_Z_57) (fun _ h9 => h9) rfl (by decide +kernel) rfl rfl (Nat.le_of_ble_eq_true rfl) d_Z_count_2 (fun H locs hP hD hS => ?_)
  have hP : va_P D vwCl ((wZ cI cL z0 y1 y2 y3 y4 y5 y6 y7 y8 y9 y10 y11 y12 y13 y14 mn oo oa ob ss gg zz md sd da rg pp kp ot 0 li bl nw wr ru al sp en ke kb at0) ++ fr) H := hP
  have hD : va_D A ((wZ cI cL z0 y1 y2 y3 y4 y5 y6 y7 y8 y9 y10 y11 y12 y13 y14 mn oo oa ob ss gg zz md sd da rg pp kp ot 0 li bl nw wr ru al sp en ke kb at0) ++ fr) := hD
  refine lv_iconst (v := 0) hx hb d_Z_count_5 (by decide) ?_
  refine lv_istore_n (lv' := [(2, .int 0), (0, .ref z0), (1, .int w)]) hx hb d_Z_count_6 rfl hl (by decide) rfl (fun ls hl => ?_)
  refine lv_iconst (v := 0) hx hb d_Z_count_7 (by decide) ?_
  refine lv_istore_n (lv' := [(3, .int 0), (2, .int 0), (0, .ref z0), (1, .int w)]) hx hb d_Z_count_8 rfl hl (by decide) rfl (fun ls hl => ?_)
  refine lv_iconst (v := 0) hx hb d_Z_count_9 (by decide) ?_
  refine lv_istore (lv' := [(4, .int 0), (3, .int 0), (2, .int 0), (0, .ref z0), (1, .int w)]) hx hb d_Z_count_10 hl (by decide) rfl (fun ls hl => ?_)
  have lp : ∀ (n : Nat) (h1 : Int32) (w1 : Int32) (k : Int32) (H : Heap) (locs : List Loc) (ls : Array Slot), (k.toInt + (n : Int) = 25) → (0 ≤ k.toInt ∧ k.toInt ≤ 24) → (ctL ss bl n k h1 w1 = ctF ss bl) → va_P D vwCl ((wZ cI cL z0 y1 y2 y3 y4 y5 y6 y7 y8 y9 y10 y11 y12 y13 y14 mn oo oa ob ss gg zz md sd da rg pp kp ot 0 li bl nw wr ru al sp en ke kb at0) ++ fr) H → va_D A ((wZ cI cL z0 y1 y2 y3 y4 y5 y6 y7 y8 y9 y10 y11 y12 y13 y14 mn oo oa ob ss gg zz md sd da rg pp kp ot 0 li bl nw wr ru al sp en ke kb at0) ++ fr) → va_S A s.heap H locs → lv_has ls 5 [(0, .ref z0), (1, .int w), (2, .int h1), (3, .int w1), (4, .int k)] → W p l e ({ frames := 1, cells := 0, slots := 0, locals := 20 } : Room) s m ([.ref z0, .int w] : List Value).toArray below meth c H locs 0 0 Q (F0 m 12 ls []) := by
    intro n
    induction n with
    | zero =>
      intro h1 w1 k H locs ls hn hi hF hP hD hS hl
      exact absurd hn (by omega)
    | succ n ih =>
      intro h1 w1 k H locs ls hn hi hF hP hD hS hl
      refine lv_iload hx hb d_Z_count_12 (lv_at hl 4 rfl) ?_
      refine lv_aload_n hx hb d_Z_count_14 rfl (lv_at hl 0 rfl) ?_
      refine va_get (ci := 5) (v := .int bl) (C := R_Z) (T := T_Z) (N := 26) hx hb ht in_Z hown hK.1 hP 0 rfl rfl 2 (by decide) (ht _ k_fl_Z_60) (fun _ h9 => h9) rfl d_Z_count_15 ?_
      refine lv_icmp_ge (tgt := 65) hx hb d_Z_count_18 (by decide) (fun c_18 => ?_) (fun c_18 => ?_)
      · refine lv_iload_n hx hb d_Z_count_65 rfl (lv_at hl 1 rfl) ?_
        by_cases c_66_0 : w = 0
        · refine lv_tableIn (off := 50) (tgt := 116) hx hb d_Z_count_66 (by rw [c_66_0]; decide) (by rw [c_66_0]; decide) (by rw [c_66_0] <;> rfl) (by decide) ?_
          refine lv_aload_n hx hb d_Z_count_116 rfl (lv_at hl 0 rfl) ?_
          refine va_get (ci := 5) (v := .int bl) (C := R_Z) (T := T_Z) (N := 26) hx hb ht in_Z hown hK.1 hP 0 rfl rfl 2 (by decide) (ht _ k_fl_Z_60) (fun _ h9 => h9) rfl d_Z_count_117 ?_
          rw [hQ]; exact retMi (w1 := fun u : Int32 => ((wZ cI cL z0 y1 y2 y3 y4 y5 y6 y7 y8 y9 y10 y11 y12 y13 y14 mn oo oa ob ss gg zz md sd da rg pp kp ot u li bl nw wr ru al sp en ke kb at0) ++ fr)) 0 hx hb hr hlocks hP hD hS ⟨(by simp only [zcnF, if_pos c_18, if_pos c_66_0, ← hF, ctL]), rfl⟩ d_Z_count_120
        by_cases c_66_1 : w = 1
        · refine lv_tableIn (off := 55) (tgt := 121) hx hb d_Z_count_66 (by rw [c_66_1]; decide) (by rw [c_66_1]; decide) (by rw [c_66_1] <;> rfl) (by decide) ?_
          refine lv_aload_n hx hb d_Z_count_121 rfl (lv_at hl 0 rfl) ?_
          refine va_get (ci := 5) (v := .int nw) (C := R_Z) (T := T_Z) (N := 26) hx hb ht in_Z hown hK.1 hP 0 rfl rfl 3 (by decide) (ht _ k_fl_Z_96) (fun _ h9 => h9) rfl d_Z_count_122 ?_
          rw [hQ]; exact retMi (w1 := fun u : Int32 => ((wZ cI cL z0 y1 y2 y3 y4 y5 y6 y7 y8 y9 y10 y11 y12 y13 y14 mn oo oa ob ss gg zz md sd da rg pp kp ot u li bl nw wr ru al sp en ke kb at0) ++ fr)) 0 hx hb hr hlocks hP hD hS ⟨(by simp only [zcnF, if_pos c_18, if_neg c_66_0, if_pos c_66_1, ← hF, ctL]), rfl⟩ d_Z_count_125
        by_cases c_66_2 : w = 2
        · refine lv_tableIn (off := 60) (tgt := 126) hx hb d_Z_count_66 (by rw [c_66_2]; decide) (by rw [c_66_2]; decide) (by rw [c_66_2] <;> rfl) (by decide) ?_
          refine lv_aload_n hx hb d_Z_count_126 rfl (lv_at hl 0 rfl) ?_
          refine goRi (va_runV (As := []) (rest := []) ⟨hx, hb, hml, hown, hts⟩ (c_Z_oldest l D cI cL cO z0 y1 y2 y3 y4 y5 y6 y7 y8 y9 y10 y11 y12 y13 y14 mn oo oa ob ss gg zz md sd da rg pp kp ot 0 li bl nw wr ru al sp en ke kb at0) (cwV 0 hts (gBIG (m4 k_ml_Z_120 k_im_Z_oldest k_sel_Z_oldest k_ini_Z) k_co_Z_oldest) rfl rfl rfl (by decide +kernel) ⟨Nat.le_of_ble_eq_true rfl, Nat.le_of_ble_eq_true rfl⟩) ⟨PR.bl, va_recv hK.1 ((P_app.mp hP).1) (ci := 5) (q0 := 0) rfl rfl, PR.pre ((P_app.mp hP).1) hK⟩ rfl rfl hl.1 rfl (lv_room (Nat.le_of_ble_eq_true rfl)) d_Z_count_127 ⟨Nat.le_of_ble_eq_true rfl, Nat.le_of_ble_eq_true rfl⟩) ?_
          rw [hQ]; exact retMi (w1 := fun u : Int32 => ((wZ cI cL z0 y1 y2 y3 y4 y5 y6 y7 y8 y9 y10 y11 y12 y13 y14 mn oo oa ob ss gg zz md sd da rg pp kp ot u li bl nw wr ru al sp en ke kb at0) ++ fr)) 0 hx hb hr hlocks hP hD hS ⟨(by simp only [zcnF, if_pos c_18, if_neg c_66_0, if_neg c_66_1, if_pos c_66_2, ← hF, ctL]), rfl⟩ d_Z_count_130
        by_cases c_66_3 : w = 3
        · refine lv_tableIn (off := 65) (tgt := 131) hx hb d_Z_count_66 (by rw [c_66_3]; decide) (by rw [c_66_3]; decide) (by rw [c_66_3] <;> rfl) (by decide) ?_
          refine lv_iload_n hx hb d_Z_count_131 rfl (lv_at hl 2 rfl) ?_
          rw [hQ]; exact retMi (w1 := fun u : Int32 => ((wZ cI cL z0 y1 y2 y3 y4 y5 y6 y7 y8 y9 y10 y11 y12 y13 y14 mn oo oa ob ss gg zz md sd da rg pp kp ot u li bl nw wr ru al sp en ke kb at0) ++ fr)) 0 hx hb hr hlocks hP hD hS ⟨(by simp only [zcnF, if_pos c_18, if_neg c_66_0, if_neg c_66_1, if_neg c_66_2, if_pos c_66_3, ← hF, ctL]), rfl⟩ d_Z_count_132
        by_cases c_66_4 : w = 4
        · refine lv_tableIn (off := 67) (tgt := 133) hx hb d_Z_count_66 (by rw [c_66_4]; decide) (by rw [c_66_4]; decide) (by rw [c_66_4] <;> rfl) (by decide) ?_
          refine lv_iload_n hx hb d_Z_count_133 rfl (lv_at hl 3 rfl) ?_
          rw [hQ]; exact retMi (w1 := fun u : Int32 => ((wZ cI cL z0 y1 y2 y3 y4 y5 y6 y7 y8 y9 y10 y11 y12 y13 y14 mn oo oa ob ss gg zz md sd da rg pp kp ot u li bl nw wr ru al sp en ke kb at0) ++ fr)) 0 hx hb hr hlocks hP hD hS ⟨(by simp only [zcnF, if_pos c_18, if_neg c_66_0, if_neg c_66_1, if_neg c_66_2, if_neg c_66_3, if_pos c_66_4, ← hF, ctL]), rfl⟩ d_Z_count_134
        by_cases c_66_5 : w = 5
        · refine lv_tableIn (off := 69) (tgt := 135) hx hb d_Z_count_66 (by rw [c_66_5]; decide) (by rw [c_66_5]; decide) (by rw [c_66_5] <;> rfl) (by decide) ?_
          refine lv_aload_n hx hb d_Z_count_135 rfl (lv_at hl 0 rfl) ?_
          refine va_get (ci := 5) (v := .int wr) (C := R_Z) (T := T_Z) (N := 26) hx hb ht in_Z hown hK.1 hP 0 rfl rfl 4 (by decide) (ht _ k_fl_Z_117) (fun _ h9 => h9) rfl d_Z_count_136 ?_
          rw [hQ]; exact retMi (w1 := fun u : Int32 => ((wZ cI cL z0 y1 y2 y3 y4 y5 y6 y7 y8 y9 y10 y11 y12 y13 y14 mn oo oa ob ss gg zz md sd da rg pp kp ot u li bl nw wr ru al sp en ke kb at0) ++ fr)) 0 hx hb hr hlocks hP hD hS ⟨(by simp only [zcnF, if_pos c_18, if_neg c_66_0, if_neg c_66_1, if_neg c_66_2, if_neg c_66_3, if_neg c_66_4, if_pos c_66_5, ← hF, ctL]), rfl⟩ d_Z_count_139
        by_cases c_66_6 : w = 6
        · refine lv_tableIn (off := 74) (tgt := 140) hx hb d_Z_count_66 (by rw [c_66_6]; decide) (by rw [c_66_6]; decide) (by rw [c_66_6] <;> rfl) (by decide) ?_
          refine lv_aload_n hx hb d_Z_count_140 rfl (lv_at hl 0 rfl) ?_
          refine va_get (ci := 5) (v := .int ru) (C := R_Z) (T := T_Z) (N := 26) hx hb ht in_Z hown hK.1 hP 0 rfl rfl 5 (by decide) (ht _ k_fl_Z_155) (fun _ h9 => h9) rfl d_Z_count_141 ?_
          rw [hQ]; exact retMi (w1 := fun u : Int32 => ((wZ cI cL z0 y1 y2 y3 y4 y5 y6 y7 y8 y9 y10 y11 y12 y13 y14 mn oo oa ob ss gg zz md sd da rg pp kp ot u li bl nw wr ru al sp en ke kb at0) ++ fr)) 0 hx hb hr hlocks hP hD hS ⟨(by simp only [zcnF, if_pos c_18, if_neg c_66_0, if_neg c_66_1, if_neg c_66_2, if_neg c_66_3, if_neg c_66_4, if_neg c_66_5, if_pos c_66_6, ← hF, ctL]), rfl⟩ d_Z_count_144
        by_cases c_66_7 : w = 7
        · refine lv_tableIn (off := 79) (tgt := 145) hx hb d_Z_count_66 (by rw [c_66_7]; decide) (by rw [c_66_7]; decide) (by rw [c_66_7] <;> rfl) (by decide) ?_
          refine lv_aload_n hx hb d_Z_count_145 rfl (lv_at hl 0 rfl) ?_
          refine va_get (ci := 5) (v := .int al) (C := R_Z) (T := T_Z) (N := 26) hx hb ht in_Z hown hK.1 hP 0 rfl rfl 6 (by decide) (ht _ k_fl_Z_158) (fun _ h9 => h9) rfl d_Z_count_146 ?_
          rw [hQ]; exact retMi (w1 := fun u : Int32 => ((wZ cI cL z0 y1 y2 y3 y4 y5 y6 y7 y8 y9 y10 y11 y12 y13 y14 mn oo oa ob ss gg zz md sd da rg pp kp ot u li bl nw wr ru al sp en ke kb at0) ++ fr)) 0 hx hb hr hlocks hP hD hS ⟨(by simp only [zcnF, if_pos c_18, if_neg c_66_0, if_neg c_66_1, if_neg c_66_2, if_neg c_66_3, if_neg c_66_4, if_neg c_66_5, if_neg c_66_6, if_pos c_66_7, ← hF, ctL]), rfl⟩ d_Z_count_149
        by_cases c_66_8 : w = 8
        · refine lv_tableIn (off := 84) (tgt := 150) hx hb d_Z_count_66 (by rw [c_66_8]; decide) (by rw [c_66_8]; decide) (by rw [c_66_8] <;> rfl) (by decide) ?_
          refine lv_aload_n hx hb d_Z_count_150 rfl (lv_at hl 0 rfl) ?_
          refine va_get (ci := 5) (v := .int li) (C := R_Z) (T := T_Z) (N := 26) hx hb ht in_Z hown hK.1 hP 0 rfl rfl 1 (by decide) (ht _ k_fl_Z_53) (fun _ h9 => h9) rfl d_Z_count_151 ?_
          rw [hQ]; exact retMi (w1 := fun u : Int32 => ((wZ cI cL z0 y1 y2 y3 y4 y5 y6 y7 y8 y9 y10 y11 y12 y13 y14 mn oo oa ob ss gg zz md sd da rg pp kp ot u li bl nw wr ru al sp en ke kb at0) ++ fr)) 0 hx hb hr hlocks hP hD hS ⟨(by simp only [zcnF, if_pos c_18, if_neg c_66_0, if_neg c_66_1, if_neg c_66_2, if_neg c_66_3, if_neg c_66_4, if_neg c_66_5, if_neg c_66_6, if_neg c_66_7, if_pos c_66_8, ← hF, ctL]), rfl⟩ d_Z_count_154
        refine lv_tableOut (tgt := 155) hx hb d_Z_count_66 (by have := lv_neT c_66_0 (show (0 : Int32).toInt = 0 by decide); have := lv_neT c_66_1 (show (1 : Int32).toInt = 1 by decide); have := lv_neT c_66_2 (show (2 : Int32).toInt = 2 by decide); have := lv_neT c_66_3 (show (3 : Int32).toInt = 3 by decide); have := lv_neT c_66_4 (show (4 : Int32).toInt = 4 by decide); have := lv_neT c_66_5 (show (5 : Int32).toInt = 5 by decide); have := lv_neT c_66_6 (show (6 : Int32).toInt = 6 by decide); have := lv_neT c_66_7 (show (7 : Int32).toInt = 7 by decide); have := lv_neT c_66_8 (show (8 : Int32).toInt = 8 by decide); omega) (by decide) ?_
        refine lv_iconst (v := (-1)) hx hb d_Z_count_155 (by decide) ?_
        rw [hQ]; exact retMi (w1 := fun u : Int32 => ((wZ cI cL z0 y1 y2 y3 y4 y5 y6 y7 y8 y9 y10 y11 y12 y13 y14 mn oo oa ob ss gg zz md sd da rg pp kp ot u li bl nw wr ru al sp en ke kb at0) ++ fr)) 0 hx hb hr hlocks hP hD hS ⟨(by simp only [zcnF, if_pos c_18, if_neg c_66_0, if_neg c_66_1, if_neg c_66_2, if_neg c_66_3, if_neg c_66_4, if_neg c_66_5, if_neg c_66_6, if_neg c_66_7, if_neg c_66_8, ← hF, ctL]), rfl⟩ d_Z_count_156
      · refine lv_iload_n hx hb d_Z_count_21 rfl (lv_at hl 2 rfl) ?_
        refine lv_aload_n hx hb d_Z_count_22 rfl (lv_at hl 0 rfl) ?_
        refine va_get (ci := 5) (v := .ref y5) (C := R_Z) (T := T_Z) (N := 26) hx hb ht in_Z hown hK.1 hP 0 rfl rfl 11 (by decide) (ht _ k_fl_Z_22) (fun _ h9 => h9) rfl d_Z_count_23 ?_
        refine lv_iload hx hb d_Z_count_26 (lv_at hl 4 rfl) ?_
        refine va_iald hx hb hK.1 hP 5 0 rfl rfl (in_k (in_kb hbl hi c_18)) d_Z_count_28 ?_
        refine lv_iconst (v := 2) hx hb d_Z_count_29 (by decide) ?_
        refine lv_icmp_ne (tgt := 37) hx hb d_Z_count_30 (by decide) (fun c_30 => ?_) (fun c_30 => ?_)
        · refine lv_iconst (v := 0) hx hb d_Z_count_37 (by decide) ?_
          refine lv_iadd hx hb d_Z_count_38 ?_
          refine lv_istore_n (lv' := [(2, .int (h1 + 0)), (0, .ref z0), (1, .int w), (3, .int w1), (4, .int k)]) hx hb d_Z_count_39 rfl hl (by decide) rfl (fun ls hl => ?_)
          refine lv_iload_n hx hb d_Z_count_40 rfl (lv_at hl 3 rfl) ?_
          refine lv_aload_n hx hb d_Z_count_41 rfl (lv_at hl 1 rfl) ?_
          refine va_get (ci := 5) (v := .ref y5) (C := R_Z) (T := T_Z) (N := 26) hx hb ht in_Z hown hK.1 hP 0 rfl rfl 11 (by decide) (ht _ k_fl_Z_22) (fun _ h9 => h9) rfl d_Z_count_42 ?_
          refine lv_iload hx hb d_Z_count_45 (lv_at hl 4 rfl) ?_
          refine va_iald hx hb hK.1 hP 5 0 rfl rfl (in_k (in_kb hbl hi c_18)) d_Z_count_47 ?_
          refine lv_iconst (v := 1) hx hb d_Z_count_48 (by decide) ?_
          refine lv_icmp_ne (tgt := 56) hx hb d_Z_count_49 (by decide) (fun c_49 => ?_) (fun c_49 => ?_)
          · refine lv_iconst (v := 0) hx hb d_Z_count_56 (by decide) ?_
            refine lv_iadd hx hb d_Z_count_57 ?_
            refine lv_istore_n (lv' := [(3, .int (w1 + 0)), (2, .int (h1 + 0)), (0, .ref z0), (1, .int w), (4, .int k)]) hx hb d_Z_count_58 rfl hl (by decide) rfl (fun ls hl => ?_)
            refine lv_iinc (v := k + 1) (lv' := [(4, .int (k + 1)), (3, .int (w1 + 0)), (2, .int (h1 + 0)), (0, .ref z0), (1, .int w)]) hx hb d_Z_count_59 hl (k := 4) rfl rfl (by decide) rfl (fun ls hl => ?_)
            refine lv_goto (tgt := 12) hx hb d_Z_count_62 (by decide) ?_
            exact ih (h1 + 0) (w1 + 0) (k + 1) _ _ ls (by rw [i32_1 (by omega)]; omega) (by rw [i32_1 (by omega)]; have := in_kb hbl hi c_18; omega) (by rw [← hF]; first | (simp only [ctL, if_neg c_18, if_neg c_30, if_neg c_49]; done) | simp [ctL, c_18, c_30, c_49]) hP hD hS (lv_sub hl [3, 4, 2, 1, 0] rfl)
          · refine lv_iconst (v := 1) hx hb d_Z_count_52 (by decide) ?_
            refine lv_goto (tgt := 57) hx hb d_Z_count_53 (by decide) ?_
            refine lv_iadd hx hb d_Z_count_57 ?_
            refine lv_istore_n (lv' := [(3, .int (w1 + 1)), (2, .int (h1 + 0)), (0, .ref z0), (1, .int w), (4, .int k)]) hx hb d_Z_count_58 rfl hl (by decide) rfl (fun ls hl => ?_)
            refine lv_iinc (v := k + 1) (lv' := [(4, .int (k + 1)), (3, .int (w1 + 1)), (2, .int (h1 + 0)), (0, .ref z0), (1, .int w)]) hx hb d_Z_count_59 hl (k := 4) rfl rfl (by decide) rfl (fun ls hl => ?_)
            refine lv_goto (tgt := 12) hx hb d_Z_count_62 (by decide) ?_
            exact ih (h1 + 0) (w1 + 1) (k + 1) _ _ ls (by rw [i32_1 (by omega)]; omega) (by rw [i32_1 (by omega)]; have := in_kb hbl hi c_18; omega) (by rw [← hF]; first | (simp only [ctL, if_neg c_18, if_neg c_30, if_pos c_49]; done) | simp [ctL, c_18, c_30, c_49]) hP hD hS (lv_sub hl [3, 4, 2, 1, 0] rfl)
        · refine lv_iconst (v := 1) hx hb d_Z_count_33 (by decide) ?_
          refine lv_goto (tgt := 38) hx hb d_Z_count_34 (by decide) ?_
          refine lv_iadd hx hb d_Z_count_38 ?_
          refine lv_istore_n (lv' := [(2, .int (h1 + 1)), (0, .ref z0), (1, .int w), (3, .int w1), (4, .int k)]) hx hb d_Z_count_39 rfl hl (by decide) rfl (fun ls hl => ?_)
          refine lv_iload_n hx hb d_Z_count_40 rfl (lv_at hl 3 rfl) ?_
          refine lv_aload_n hx hb d_Z_count_41 rfl (lv_at hl 1 rfl) ?_
          refine va_get (ci := 5) (v := .ref y5) (C := R_Z) (T := T_Z) (N := 26) hx hb ht in_Z hown hK.1 hP 0 rfl rfl 11 (by decide) (ht _ k_fl_Z_22) (fun _ h9 => h9) rfl d_Z_count_42 ?_
          refine lv_iload hx hb d_Z_count_45 (lv_at hl 4 rfl) ?_
          refine va_iald hx hb hK.1 hP 5 0 rfl rfl (in_k (in_kb hbl hi c_18)) d_Z_count_47 ?_
          refine lv_iconst (v := 1) hx hb d_Z_count_48 (by decide) ?_
          refine lv_icmp_ne (tgt := 56) hx hb d_Z_count_49 (by decide) (fun c_49 => ?_) (fun c_49 => ?_)
          · refine lv_iconst (v := 0) hx hb d_Z_count_56 (by decide) ?_
            refine lv_iadd hx hb d_Z_count_57 ?_
            refine lv_istore_n (lv' := [(3, .int (w1 + 0)), (2, .int (h1 + 1)), (0, .ref z0), (1, .int w), (4, .int k)]) hx hb d_Z_count_58 rfl hl (by decide) rfl (fun ls hl => ?_)
            refine lv_iinc (v := k + 1) (lv' := [(4, .int (k + 1)), (3, .int (w1 + 0)), (2, .int (h1 + 1)), (0, .ref z0), (1, .int w)]) hx hb d_Z_count_59 hl (k := 4) rfl rfl (by decide) rfl (fun ls hl => ?_)
            refine lv_goto (tgt := 12) hx hb d_Z_count_62 (by decide) ?_
            exact ih (h1 + 1) (w1 + 0) (k + 1) _ _ ls (by rw [i32_1 (by omega)]; omega) (by rw [i32_1 (by omega)]; have := in_kb hbl hi c_18; omega) (by rw [← hF]; first | (simp only [ctL, if_neg c_18, if_pos c_30, if_neg c_49]; done) | simp [ctL, c_18, c_30, c_49]) hP hD hS (lv_sub hl [3, 4, 2, 1, 0] rfl)
          · refine lv_iconst (v := 1) hx hb d_Z_count_52 (by decide) ?_
            refine lv_goto (tgt := 57) hx hb d_Z_count_53 (by decide) ?_
            refine lv_iadd hx hb d_Z_count_57 ?_
            refine lv_istore_n (lv' := [(3, .int (w1 + 1)), (2, .int (h1 + 1)), (0, .ref z0), (1, .int w), (4, .int k)]) hx hb d_Z_count_58 rfl hl (by decide) rfl (fun ls hl => ?_)
            refine lv_iinc (v := k + 1) (lv' := [(4, .int (k + 1)), (3, .int (w1 + 1)), (2, .int (h1 + 1)), (0, .ref z0), (1, .int w)]) hx hb d_Z_count_59 hl (k := 4) rfl rfl (by decide) rfl (fun ls hl => ?_)
            refine lv_goto (tgt := 12) hx hb d_Z_count_62 (by decide) ?_
            exact ih (h1 + 1) (w1 + 1) (k + 1) _ _ ls (by rw [i32_1 (by omega)]; omega) (by rw [i32_1 (by omega)]; have := in_kb hbl hi c_18; omega) (by rw [← hF]; first | (simp only [ctL, if_neg c_18, if_pos c_30, if_pos c_49]; done) | simp [ctL, c_18, c_30, c_49]) hP hD hS (lv_sub hl [3, 4, 2, 1, 0] rfl)
  exact lp 25 0 0 0 _ _ ls (by decide) (by decide) rfl hP hD hS (lv_sub hl [3, 4, 2, 1, 0] rfl)

abbrev w_Z_begin : List Cond := .code y_Z_begin b_Z_begin 5 none :: BIG
set_option maxHeartbeats 4000000 in
set_option maxRecDepth 100000 in
theorem c_Z_begin (l : Launch) (D : va_G) (cI cL cO : ClassId) (z0 : Nat) (y1 : Nat) (y2 : Nat) (y3 : Nat) (y4 : Nat) (y5 : Nat) (y6 : Nat) (y7 : Nat) (y8 : Nat) (y9 : Nat) (y10 : Nat) (y11 : Nat) (y12 : Nat) (y13 : Nat) (y14 : Nat) (mn : Fn) (oo : Fn) (oa : Fn) (ob : Fn) (ss : Fn) (gg : Fn) (zz : Fn) (md : Fn) (sd : Fn) (da : Fn) (rg : FL) (pp : FL) (kp : FL) (ot : FL) (th : Int32) (li : Int32) (bl : Int32) (nw : Int32) (wr : Int32) (ru : Int32) (al : Int32) (sp : Int32) (en : Int32) (ke : Int32) (kb : Int32) (at0 : Int32) (fr : va_W) (x : Int64) (y : Int64) : CMv l y_Z_begin w_Z_begin ({ frames := 0, cells := 0, slots := 0, locals := 0 }) D cI cL cO [.ref z0, .long x, .long y] ((wZ cI cL z0 y1 y2 y3 y4 y5 y6 y7 y8 y9 y10 y11 y12 y13 y14 mn oo oa ob ss gg zz md sd da rg pp kp ot th li bl nw wr ru al sp en ke kb at0) ++ fr) (fun u : FL × Int32 × Int32 => u = (begR x y, 0, 0)) (fun u : FL × Int32 × Int32 => ((wZ cI cL z0 y1 y2 y3 y4 y5 y6 y7 y8 y9 y10 y11 y12 y13 y14 mn oo oa ob ss gg zz md sd da u.1 pp kp ot th li bl nw wr ru al u.2.1 u.2.2 ke kb at0) ++ fr)) 0 0 := by
  refine ofMv (cc := b_Z_begin) (maxL := 5) (ret := none) (by decide) rfl (Nat.le_of_ble_eq_true rfl) ?_
  intro p e s m below meth c A ls H Q hQ hx hb hr hlocks hin hts hown hml hP hK hD hS hA hl
  have hl : lv_has ls 5 [(0, .ref z0), (1, .long x), (3, .long y)] := hl
  have hown : s.vm.findClass R_Z = some m.cls := hown
  have ht : ∀ w ∈ BIG, w.before _ s = true := fun w h => hts w (List.mem_cons_of_mem _ h)
  refine lv_aload_n hx hb d_Z_begin_0 rfl (lv_at hl 0 rfl) ?_
  refine va_get (ci := 5) (v := .ref y11) (C := R_Z) (T := T_Z) (N := 26) hx hb ht in_Z hown hK.1 hP 0 rfl rfl 17 (by decide) (ht _ k_fl_Z_40) (fun _ h9 => h9) rfl d_Z_begin_1 ?_
  refine lv_iconst (v := 0) hx hb d_Z_begin_4 (by decide) ?_
  refine lv_lload_n hx hb d_Z_begin_5 rfl (lv_at hl 1 rfl) ?_
  refine va_last hx hb hK.1 hP hD hS 11 1 rfl rfl (by unfold vp_in; decide) d_Z_begin_6 (fun H locs hP hD hS => ?_)
  have hP : va_P D vwCl ((wZ cI cL z0 y1 y2 y3 y4 y5 y6 y7 y8 y9 y10 y11 y12 y13 y14 mn oo oa ob ss gg zz md sd da (vp_updL rg (0 : Int32).toNatClampNeg x) pp kp ot th li bl nw wr ru al sp en ke kb at0) ++ fr) H := hP
  have hD : va_D A ((wZ cI cL z0 y1 y2 y3 y4 y5 y6 y7 y8 y9 y10 y11 y12 y13 y14 mn oo oa ob ss gg zz md sd da (vp_updL rg (0 : Int32).toNatClampNeg x) pp kp ot th li bl nw wr ru al sp en ke kb at0) ++ fr) := hD
  refine lv_aload_n hx hb d_Z_begin_7 rfl (lv_at hl 0 rfl) ?_
  refine va_get (ci := 5) (v := .ref y11) (C := R_Z) (T := T_Z) (N := 26) hx hb ht in_Z hown hK.1 hP 0 rfl rfl 17 (by decide) (ht _ k_fl_Z_40) (fun _ h9 => h9) rfl d_Z_begin_8 ?_
  refine lv_iconst (v := 1) hx hb d_Z_begin_11 (by decide) ?_
  refine lv_lload_n hx hb d_Z_begin_12 rfl (lv_at hl 2 rfl) ?_
  refine va_last hx hb hK.1 hP hD hS 11 1 rfl rfl (by unfold vp_in; decide) d_Z_begin_13 (fun H locs hP hD hS => ?_)
  have hP : va_P D vwCl ((wZ cI cL z0 y1 y2 y3 y4 y5 y6 y7 y8 y9 y10 y11 y12 y13 y14 mn oo oa ob ss gg zz md sd da (vp_updL (vp_updL rg (0 : Int32).toNatClampNeg x) (1 : Int32).toNatClampNeg y) pp kp ot th li bl nw wr ru al sp en ke kb at0) ++ fr) H := hP
  have hD : va_D A ((wZ cI cL z0 y1 y2 y3 y4 y5 y6 y7 y8 y9 y10 y11 y12 y13 y14 mn oo oa ob ss gg zz md sd da (vp_updL (vp_updL rg (0 : Int32).toNatClampNeg x) (1 : Int32).toNatClampNeg y) pp kp ot th li bl nw wr ru al sp en ke kb at0) ++ fr) := hD
  refine lv_aload_n hx hb d_Z_begin_14 rfl (lv_at hl 0 rfl) ?_
  refine va_get (ci := 5) (v := .ref y11) (C := R_Z) (T := T_Z) (N := 26) hx hb ht in_Z hown hK.1 hP 0 rfl rfl 17 (by decide) (ht _ k_fl_Z_40) (fun _ h9 => h9) rfl d_Z_begin_15 ?_
  refine lv_iconst (v := 2) hx hb d_Z_begin_18 (by decide) ?_
  refine lv_lconst (v := 0) hx hb d_Z_begin_19 (by decide) ?_
  refine va_last hx hb hK.1 hP hD hS 11 1 rfl rfl (by unfold vp_in; decide) d_Z_begin_20 (fun H locs hP hD hS => ?_)
  have hP : va_P D vwCl ((wZ cI cL z0 y1 y2 y3 y4 y5 y6 y7 y8 y9 y10 y11 y12 y13 y14 mn oo oa ob ss gg zz md sd da (vp_updL (vp_updL (vp_updL rg (0 : Int32).toNatClampNeg x) (1 : Int32).toNatClampNeg y) (2 : Int32).toNatClampNeg 0) pp kp ot th li bl nw wr ru al sp en ke kb at0) ++ fr) H := hP
  have hD : va_D A ((wZ cI cL z0 y1 y2 y3 y4 y5 y6 y7 y8 y9 y10 y11 y12 y13 y14 mn oo oa ob ss gg zz md sd da (vp_updL (vp_updL (vp_updL rg (0 : Int32).toNatClampNeg x) (1 : Int32).toNatClampNeg y) (2 : Int32).toNatClampNeg 0) pp kp ot th li bl nw wr ru al sp en ke kb at0) ++ fr) := hD
  refine lv_aload_n hx hb d_Z_begin_21 rfl (lv_at hl 0 rfl) ?_
  refine va_get (ci := 5) (v := .ref y11) (C := R_Z) (T := T_Z) (N := 26) hx hb ht in_Z hown hK.1 hP 0 rfl rfl 17 (by decide) (ht _ k_fl_Z_40) (fun _ h9 => h9) rfl d_Z_begin_22 ?_
  refine lv_iconst (v := 3) hx hb d_Z_begin_25 (by decide) ?_
  refine lv_lconst (v := 0) hx hb d_Z_begin_26 (by decide) ?_
  refine va_last hx hb hK.1 hP hD hS 11 1 rfl rfl (by unfold vp_in; decide) d_Z_begin_27 (fun H locs hP hD hS => ?_)
  have hP : va_P D vwCl ((wZ cI cL z0 y1 y2 y3 y4 y5 y6 y7 y8 y9 y10 y11 y12 y13 y14 mn oo oa ob ss gg zz md sd da (vp_updL (vp_updL (vp_updL (vp_updL rg (0 : Int32).toNatClampNeg x) (1 : Int32).toNatClampNeg y) (2 : Int32).toNatClampNeg 0) (3 : Int32).toNatClampNeg 0) pp kp ot th li bl nw wr ru al sp en ke kb at0) ++ fr) H := hP
  have hD : va_D A ((wZ cI cL z0 y1 y2 y3 y4 y5 y6 y7 y8 y9 y10 y11 y12 y13 y14 mn oo oa ob ss gg zz md sd da (vp_updL (vp_updL (vp_updL (vp_updL rg (0 : Int32).toNatClampNeg x) (1 : Int32).toNatClampNeg y) (2 : Int32).toNatClampNeg 0) (3 : Int32).toNatClampNeg 0) pp kp ot th li bl nw wr ru al sp en ke kb at0) ++ fr) := hD
  refine lv_aload_n hx hb d_Z_begin_28 rfl (lv_at hl 0 rfl) ?_
  refine lv_iconst (v := 0) hx hb d_Z_begin_29 (by decide) ?_
  refine va_put (ci := 5) (v := .int 0) (ty := .int) (C := R_Z) (T := T_Z) (N := 26) hx hb ht in_Z t_Z t_Z_ok n_Z hown hK.1 hP hD hS 0 rfl rfl 19 (by decide) (ht _ k_fl_Z_124) (fun _ h9 => h9) rfl (by decide +kernel) rfl rfl (Nat.le_of_ble_eq_true rfl) d_Z_begin_30 (fun H locs hP hD hS => ?_)
  have hP : va_P D vwCl ((wZ cI cL z0 y1 y2 y3 y4 y5 y6 y7 y8 y9 y10 y11 y12 y13 y14 mn oo oa ob ss gg zz md sd da (vp_updL (vp_updL (vp_updL (vp_updL rg (0 : Int32).toNatClampNeg x) (1 : Int32).toNatClampNeg y) (2 : Int32).toNatClampNeg 0) (3 : Int32).toNatClampNeg 0) pp kp ot th li bl nw wr ru al 0 en ke kb at0) ++ fr) H := hP
  have hD : va_D A ((wZ cI cL z0 y1 y2 y3 y4 y5 y6 y7 y8 y9 y10 y11 y12 y13 y14 mn oo oa ob ss gg zz md sd da (vp_updL (vp_updL (vp_updL (vp_updL rg (0 : Int32).toNatClampNeg x) (1 : Int32).toNatClampNeg y) (2 : Int32).toNatClampNeg 0) (3 : Int32).toNatClampNeg 0) pp kp ot th li bl nw wr ru al 0 en ke kb at0) ++ fr) := hD
  refine lv_aload_n hx hb d_Z_begin_33 rfl (lv_at hl 0 rfl) ?_
  refine lv_iconst (v := 0) hx hb d_Z_begin_34 (by decide) ?_
  refine va_put (ci := 5) (v := .int 0) (ty := .int) (C := R_Z) (T := T_Z) (N := 26) hx hb ht in_Z t_Z t_Z_ok n_Z hown hK.1 hP hD hS 0 rfl rfl 20 (by decide) (ht _ k_fl_Z_127) (fun _ h9 => h9) rfl (by decide +kernel) rfl rfl (Nat.le_of_ble_eq_true rfl) d_Z_begin_35 (fun H locs hP hD hS => ?_)
  have hP : va_P D vwCl ((wZ cI cL z0 y1 y2 y3 y4 y5 y6 y7 y8 y9 y10 y11 y12 y13 y14 mn oo oa ob ss gg zz md sd da (vp_updL (vp_updL (vp_updL (vp_updL rg (0 : Int32).toNatClampNeg x) (1 : Int32).toNatClampNeg y) (2 : Int32).toNatClampNeg 0) (3 : Int32).toNatClampNeg 0) pp kp ot th li bl nw wr ru al 0 0 ke kb at0) ++ fr) H := hP
  have hD : va_D A ((wZ cI cL z0 y1 y2 y3 y4 y5 y6 y7 y8 y9 y10 y11 y12 y13 y14 mn oo oa ob ss gg zz md sd da (vp_updL (vp_updL (vp_updL (vp_updL rg (0 : Int32).toNatClampNeg x) (1 : Int32).toNatClampNeg y) (2 : Int32).toNatClampNeg 0) (3 : Int32).toNatClampNeg 0) pp kp ot th li bl nw wr ru al 0 0 ke kb at0) ++ fr) := hD
  have hP := P_rep 11 rfl (beg4 rg x y) hD hP
  have hP : va_P D vwCl ((wZ cI cL z0 y1 y2 y3 y4 y5 y6 y7 y8 y9 y10 y11 y12 y13 y14 mn oo oa ob ss gg zz md sd da (begR x y) pp kp ot th li bl nw wr ru al 0 0 ke kb at0) ++ fr) H := hP
  have hD : va_D A ((wZ cI cL z0 y1 y2 y3 y4 y5 y6 y7 y8 y9 y10 y11 y12 y13 y14 mn oo oa ob ss gg zz md sd da (begR x y) pp kp ot th li bl nw wr ru al 0 0 ke kb at0) ++ fr) := va_D.set (p := 11) hD rfl
  rw [hQ]; exact retMv (w1 := fun u : FL × Int32 × Int32 => ((wZ cI cL z0 y1 y2 y3 y4 y5 y6 y7 y8 y9 y10 y11 y12 y13 y14 mn oo oa ob ss gg zz md sd da u.1 pp kp ot th li bl nw wr ru al u.2.1 u.2.2 ke kb at0) ++ fr)) (begR x y, 0, 0) hx hb hr hlocks hP hD hS rfl d_Z_begin_38
end
section
/-- block k's part of a row of n places a block -/
def vw (n : Nat) (f : Fn) (k : Int32) : Fn := fun i => f (n * k.toNatClampNeg + i)
theorem cl60 {P : Prop} {k i : Int32} (hk : 0 ≤ k.toInt ∧ k.toInt < 24 ∧ P) (hi : 0 ≤ i.toInt ∧ i.toInt < 60) : (60 * k + i).toNatClampNeg = 60 * k.toNatClampNeg + i.toNatClampNeg := by
  have h1 := ix60 hk hi
  have h2 := clN (i := 60 * k + i) (by rw [h1]; omega)
  have h3 := clN hk.1
  have h4 := clN hi.1
  omega
theorem cl300 {P : Prop} {k i : Int32} (hk : 0 ≤ k.toInt ∧ k.toInt < 24 ∧ P) (hi : 0 ≤ i.toInt ∧ i.toInt < 300) : (300 * k + i).toNatClampNeg = 300 * k.toNatClampNeg + i.toNatClampNeg := by
  have h1 := ix300 hk hi
  have h2 := clN (i := 300 * k + i) (by rw [h1]; omega)
  have h3 := clN hk.1
  have h4 := clN hi.1
  omega
theorem vw60 {P : Prop} {f : Fn} {k i : Int32} (hk : 0 ≤ k.toInt ∧ k.toInt < 24 ∧ P) (hi : 0 ≤ i.toInt ∧ i.toInt < 60) : f (60 * k + i).toNatClampNeg = vw 60 f k i.toNatClampNeg := by rw [cl60 hk hi]; rfl
theorem vw300 {P : Prop} {f : Fn} {k i : Int32} (hk : 0 ≤ k.toInt ∧ k.toInt < 24 ∧ P) (hi : 0 ≤ i.toInt ∧ i.toInt < 300) : f (300 * k + i).toNatClampNeg = vw 300 f k i.toNatClampNeg := by rw [cl300 hk hi]; rfl
/-- an instruction as promise 3 lets it be told -/
def okI (o a b : Int32) : Prop := (0 ≤ o.toInt ∧ o.toInt ≤ 7) ∧ (0 ≤ a.toInt ∧ a.toInt ≤ 3) ∧ (o = 0 ∨ (o = 6 ∧ 0 ≤ b.toInt ∧ b.toInt ≤ 60) ∨ (¬ o = 6 ∧ 0 ≤ b.toInt ∧ b.toInt ≤ 3))
def okB (o a b : Fn) (n : Int32) : Prop := ∀ i : Nat, (i : Int) < n.toInt → okI (o i) (a i) (b i)
theorem isReg1 {x : Int32} (h : 0 ≤ x.toInt ∧ x.toInt ≤ 3) : ¬ isReg x = 0 := by
  unfold isReg
  rw [if_neg (nn_of h.1), if_neg (by rw [Int32.le_iff_toInt_le, show (4 : Int32).toInt = 4 by decide]; omega)]
  decide
theorem ldF1 {g : FL} {x : Int32} (h : 0 ≤ x.toInt ∧ x.toInt ≤ 3) : ldF g x = g x.toNatClampNeg := by unfold ldF; rw [if_neg (isReg1 h)]
theorem stF1 {g : FL} {x : Int32} {v : Int64} (h : 0 ≤ x.toInt ∧ x.toInt ≤ 3) : stF g x v = vp_updL g x.toNatClampNeg v := by unfold stF; rw [if_neg (isReg1 h)]
theorem in4 {x : Int32} (h : 0 ≤ x.toInt ∧ x.toInt ≤ 3) : vp_in x 4 := vp_in_iff.mpr ⟨h.1, by omega⟩
theorem okI.b {o a b : Int32} (h : okI o a b) (h0 : ¬ o = 0) (h6 : ¬ o = 6) : 0 ≤ b.toInt ∧ b.toInt ≤ 3 := by
  rcases h.2.2 with q | q | q
  · exact absurd q h0
  · exact absurd q.1 h6
  · exact q.2
theorem okI.j {o a b : Int32} (h : okI o a b) (h6 : o = 6) : 0 ≤ b.toInt ∧ b.toInt ≤ 60 := by
  rcases h.2.2 with q | q | q
  · exact absurd (h6.symm.trans q) (by decide)
  · exact q.2
  · exact absurd h6 q.1
theorem ro_i {n i : Int32} {m : Nat} (hm : 0 ≤ n.toInt ∧ n.toInt ≤ 60) (h : 0 ≤ i.toInt ∧ i.toInt ≤ 60) (c : ¬ n ≤ i) : 0 ≤ i.toInt ∧ i.toInt < 60 := by have := i_lt c; omega
theorem okB.at {o a b : Fn} {n i : Int32} (h : okB o a b n) (h0 : 0 ≤ i.toInt) (c : ¬ n ≤ i) : okI (o i.toNatClampNeg) (a i.toNatClampNeg) (b i.toNatClampNeg) := by
  have h1 := i_lt c
  have h2 := clN h0
  exact h _ (by omega)
/-- one turn of roL where the instruction is one that may stand, by what the reference asks -/
theorem roL_s {o f e : Fn} {sz at1 st : Int32} {g : FL} {n : Nat} (h0 : 0 ≤ at1.toInt) (hs : 0 ≤ st.toInt ∧ st.toInt ≤ 2000) (c : ¬ sz ≤ at1) : roL o f e sz (n + 1) at1 g st =
    if st = 2000 then (g, st, 2) else
    if o at1.toNatClampNeg = 4 then
      if lg_cmp (ldF g (e at1.toNatClampNeg)) 0 = 0 then (g, st, 1) else roL o f e sz n (at1 + 1) (stF g (f at1.toNatClampNeg) (resF g (o at1.toNatClampNeg) (f at1.toNatClampNeg) (e at1.toNatClampNeg))) (st + 1)
    else if o at1.toNatClampNeg = 6 then roL o f e sz n (if lg_cmp (ldF g (f at1.toNatClampNeg)) 0 = 0 then at1 + 1 else e at1.toNatClampNeg) g (st + 1)
    else roL o f e sz n (at1 + 1) (stF g (f at1.toNatClampNeg) (resF g (o at1.toNatClampNeg) (f at1.toNatClampNeg) (e at1.toNatClampNeg))) (st + 1) := by
  have h2 : (2000 : Int32).toInt = 2000 := by decide
  by_cases q : st = 2000
  · rw [if_pos q, q]
    simp only [roL, if_pos (show (2000 : Int32) ≤ 2000 by decide), if_neg c]
  · have q1 : ¬ (2000 : Int32) ≤ st := by
      rw [Int32.le_iff_toInt_le, h2]
      have : ¬ st.toInt = 2000 := fun z => q (Int32.toInt_inj.mp (by rw [h2]; exact z))
      omega
    rw [if_neg q]
    simp only [roL, if_neg q1, if_neg (nn_of h0), if_neg c]
    by_cases q4 : o at1.toNatClampNeg = 4
    · simp only [if_pos q4, if_neg (show ¬ o at1.toNatClampNeg = 6 by rw [q4]; decide)]
    · simp only [if_neg q4]
theorem roL_e {o f e : Fn} {sz at1 st : Int32} {g : FL} {n : Nat} (h0 : 0 ≤ at1.toInt) (c : sz ≤ at1) : roL o f e sz (n + 1) at1 g st = (g, st, 0) := by
  simp only [roL, if_neg (nn_of h0), if_pos c, ite_self]
end
section
def roI (o f e : Fn) (sz i : Int32) (g : FL) (sp en : Int32) (RES : FL × Int32 × Int32) : Prop := (en = 0 ∧ roL o f e sz (2001 - sp.toInt).toNat i g sp = RES) ∨ (¬ en = 0 ∧ (g, sp, en) = RES)
theorem ne2000 {sp : Int32} (hs : 0 ≤ sp.toInt ∧ sp.toInt ≤ 2000) (c : ¬ sp = 2000) : sp.toInt < 2000 := by
  have h2 : (2000 : Int32).toInt = 2000 := by decide
  have : ¬ sp.toInt = 2000 := fun z => c (Int32.toInt_inj.mp (by rw [h2]; exact z))
  omega
theorem roI_s {o f e : Fn} {sz i sp en : Int32} {g : FL} {RES : FL × Int32 × Int32} (h : roI o f e sz i g sp en RES) (he : en = 0) (h0 : 0 ≤ i.toInt) (hs : 0 ≤ sp.toInt ∧ sp.toInt ≤ 2000) (c : ¬ sz ≤ i) : (if sp = 2000 then (g, sp, 2) else
    if o i.toNatClampNeg = 4 then
      if lg_cmp (ldF g (e i.toNatClampNeg)) 0 = 0 then (g, sp, 1) else roL o f e sz (2001 - (sp + 1).toInt).toNat (i + 1) (stF g (f i.toNatClampNeg) (resF g (o i.toNatClampNeg) (f i.toNatClampNeg) (e i.toNatClampNeg))) (sp + 1)
    else if o i.toNatClampNeg = 6 then roL o f e sz (2001 - (sp + 1).toInt).toNat (if lg_cmp (ldF g (f i.toNatClampNeg)) 0 = 0 then i + 1 else e i.toNatClampNeg) g (sp + 1)
    else roL o f e sz (2001 - (sp + 1).toInt).toNat (i + 1) (stF g (f i.toNatClampNeg) (resF g (o i.toNatClampNeg) (f i.toNatClampNeg) (e i.toNatClampNeg))) (sp + 1)) = RES := by
  rcases h with ⟨-, h⟩ | ⟨h, -⟩
  · rw [show (2001 - sp.toInt).toNat = (2000 - sp.toInt).toNat + 1 by omega, roL_s h0 hs c] at h
    by_cases q : sp = 2000
    · rw [if_pos q] at h ⊢; exact h
    · have q1 := ne2000 hs q
      rw [if_neg q] at h ⊢
      rw [show (2001 - (sp + 1).toInt).toNat = (2000 - sp.toInt).toNat by rw [i32_1 (by omega)]; omega]
      exact h
  · exact absurd he h
theorem ro_x {o f e : Fn} {sz i sp en : Int32} {g : FL} {RES : FL × Int32 × Int32} (h : roI o f e sz i g sp en RES) (h0 : 0 ≤ i.toInt) (hs : 0 ≤ sp.toInt ∧ sp.toInt ≤ 2000) (c : sz ≤ i) : (g, sp, en) = RES := by
  rcases h with ⟨he, h⟩ | ⟨-, h⟩
  · rw [show (2001 - sp.toInt).toNat = (2000 - sp.toInt).toNat + 1 by omega, roL_e h0 c] at h
    rw [he]; exact h
  · exact h
theorem o7 {o a b : Int32} (h : okI o a b) (c : ¬ o ≤ 6) : o = 7 := by
  have h6 : (6 : Int32).toInt = 6 := by decide
  have h7 : (7 : Int32).toInt = 7 := by decide
  have h1 := h.1
  rw [Int32.le_iff_toInt_le, h6] at c
  exact Int32.toInt_inj.mp (by rw [h7]; omega)
theorem zre_w {o a b : Int32} {x y : Int64} (h : okI o a b) (c0 : ¬ o = 0) (c6 : ¬ o = 6) (c : o ≤ 6) (hz : o = 4 → ¬ y = 0) : zreF o x y = workedF o x y := by
  unfold zreF workedF
  by_cases q1 : o = 1
  · simp only [if_pos q1]
  by_cases q2 : o = 2
  · simp only [if_neg q1, if_pos q2]
  by_cases q3 : o = 3
  · simp only [if_neg q1, if_neg q2, if_pos q3]
  by_cases q4 : o = 4
  · simp only [if_neg q1, if_neg q2, if_neg q3, if_pos q4, if_neg (fun z => hz q4 ((lg_cmp_eq _ _).mp z))]
  · have q5 : o = 5 := by
      have h1 := h.1
      have e0 := lv_neT c0 (show (0 : Int32).toInt = 0 by decide)
      have e1 := lv_neT q1 (show (1 : Int32).toInt = 1 by decide)
      have e2 := lv_neT q2 (show (2 : Int32).toInt = 2 by decide)
      have e3 := lv_neT q3 (show (3 : Int32).toInt = 3 by decide)
      have e4 := lv_neT q4 (show (4 : Int32).toInt = 4 by decide)
      have e6 := lv_neT c6 (show (6 : Int32).toInt = 6 by decide)
      rw [Int32.le_iff_toInt_le, show (6 : Int32).toInt = 6 by decide] at c
      exact Int32.toInt_inj.mp (by rw [show (5 : Int32).toInt = 5 by decide]; omega)
    simp only [if_neg q1, if_neg q2, if_neg q3, if_neg q4, if_pos q5]

abbrev w_Z_runRows : List Cond := .code y_Z_runRows b_Z_runRows 5 none :: BIG
set_option maxHeartbeats 4000000 in
set_option maxRecDepth 100000 in
theorem c_Z_runRows (l : Launch) (D : va_G) (cI cL cO : ClassId) (z0 : Nat) (y1 : Nat) (y2 : Nat) (y3 : Nat) (y4 : Nat) (y5 : Nat) (y6 : Nat) (y7 : Nat) (y8 : Nat) (y9 : Nat) (y10 : Nat) (y11 : Nat) (y12 : Nat) (y13 : Nat) (y14 : Nat) (mn : Fn) (oo : Fn) (oa : Fn) (ob : Fn) (ss : Fn) (gg : Fn) (zz : Fn) (md : Fn) (sd : Fn) (da : Fn) (rg : FL) (pp : FL) (kp : FL) (ot : FL) (th : Int32) (li : Int32) (bl : Int32) (nw : Int32) (wr : Int32) (ru : Int32) (al : Int32) (sp : Int32) (en : Int32) (ke : Int32) (kb : Int32) (at0 : Int32) (fr : va_W) (k : Int32) (hmn : ∀ j, j < 24 → 0 ≤ (mn j).toInt ∧ (mn j).toInt ≤ 60) (hk : 0 ≤ k.toInt ∧ k.toInt < 24 ∧ True) (hok : okB (vw 60 oo k) (vw 60 oa k) (vw 60 ob k) (mn k.toNatClampNeg)) (hsp : sp = 0) (hen : en = 0) : CMv l y_Z_runRows w_Z_runRows ({ frames := 1, cells := 0, slots := 0, locals := 24 }) D cI cL cO [.ref z0, .int k] ((wZ cI cL z0 y1 y2 y3 y4 y5 y6 y7 y8 y9 y10 y11 y12 y13 y14 mn oo oa ob ss gg zz md sd da rg pp kp ot th li bl nw wr ru al sp en ke kb at0) ++ fr) (fun u : FL × Int32 × Int32 => u = roL (vw 60 oo k) (vw 60 oa k) (vw 60 ob k) (mn k.toNatClampNeg) 2001 0 rg 0) (fun u : FL × Int32 × Int32 => ((wZ cI cL z0 y1 y2 y3 y4 y5 y6 y7 y8 y9 y10 y11 y12 y13 y14 mn oo oa ob ss gg zz md sd da u.1 pp kp ot th li bl nw wr ru al u.2.1 u.2.2 ke kb at0) ++ fr)) 0 0 := by
  refine ofMv (cc := b_Z_runRows) (maxL := 5) (ret := none) (by decide) rfl (Nat.le_of_ble_eq_true rfl) ?_
  intro p e s m below meth c A ls H Q hQ hx hb hr hlocks hin hts hown hml hP hK hD hS hA hl
  have hl : lv_has ls 5 [(0, .ref z0), (1, .int k)] := hl
  have hown : s.vm.findClass R_Z = some m.cls := hown
  have ht : ∀ w ∈ BIG, w.before _ s = true := fun w h => hts w (List.mem_cons_of_mem _ h)
  refine lv_iconst (v := 0) hx hb d_Z_runRows_0 (by decide) ?_
  refine lv_istore_n (lv' := [(2, .int 0), (0, .ref z0), (1, .int k)]) hx hb d_Z_runRows_1 rfl hl (by decide) rfl (fun ls hl => ?_)
  have lp : ∀ (n : Nat) (i : Int32) (rg1 : FL) (sp1 : Int32) (en1 : Int32) (H : Heap) (locs : List Loc) (ls : Array Slot), ((en1 = 0 → 2002 ≤ sp1.toInt + (n : Int)) ∧ 1 ≤ n) → (0 ≤ i.toInt ∧ i.toInt ≤ 60) → (0 ≤ sp1.toInt ∧ sp1.toInt ≤ 2000) → (roI (vw 60 oo k) (vw 60 oa k) (vw 60 ob k) (mn k.toNatClampNeg) i rg1 sp1 en1 (roL (vw 60 oo k) (vw 60 oa k) (vw 60 ob k) (mn k.toNatClampNeg) 2001 0 rg 0)) → va_P D vwCl ((wZ cI cL z0 y1 y2 y3 y4 y5 y6 y7 y8 y9 y10 y11 y12 y13 y14 mn oo oa ob ss gg zz md sd da rg1 pp kp ot th li bl nw wr ru al sp1 en1 ke kb at0) ++ fr) H → va_D A ((wZ cI cL z0 y1 y2 y3 y4 y5 y6 y7 y8 y9 y10 y11 y12 y13 y14 mn oo oa ob ss gg zz md sd da rg1 pp kp ot th li bl nw wr ru al sp1 en1 ke kb at0) ++ fr) → va_S A s.heap H locs → lv_has ls 5 [(0, .ref z0), (1, .int k), (2, .int i)] → W p l e ({ frames := 1, cells := 0, slots := 0, locals := 24 } : Room) s m ([.ref z0, .int k] : List Value).toArray below meth c H locs 0 0 Q (F0 m 2 ls []) := by
    intro n
    induction n with
    | zero =>
      intro i rg1 sp1 en1 H locs ls hn hi hs hF hP hD hS hl
      exact absurd hn.2 (by omega)
    | succ n ih =>
      intro i rg1 sp1 en1 H locs ls hn hi hs hF hP hD hS hl
      refine lv_iload_n hx hb d_Z_runRows_2 rfl (lv_at hl 2 rfl) ?_
      refine lv_aload_n hx hb d_Z_runRows_3 rfl (lv_at hl 0 rfl) ?_
      refine va_get (ci := 5) (v := .ref y1) (C := R_Z) (T := T_Z) (N := 26) hx hb ht in_Z hown hK.1 hP 0 rfl rfl 7 (by decide) (ht _ k_fl_Z_7) (fun _ h9 => h9) rfl d_Z_runRows_4 ?_
      refine lv_iload_n hx hb d_Z_runRows_7 rfl (lv_at hl 1 rfl) ?_
      refine va_iald hx hb hK.1 hP 1 0 rfl rfl (in_k hk) d_Z_runRows_8 ?_
      refine lv_icmp_ge (tgt := 220) hx hb d_Z_runRows_9 (by decide) (fun c_9 => ?_) (fun c_9 => ?_)
      · rw [hQ]; exact retMv (w1 := fun u : FL × Int32 × Int32 => ((wZ cI cL z0 y1 y2 y3 y4 y5 y6 y7 y8 y9 y10 y11 y12 y13 y14 mn oo oa ob ss gg zz md sd da u.1 pp kp ot th li bl nw wr ru al u.2.1 u.2.2 ke kb at0) ++ fr)) (rg1, sp1, en1) hx hb hr hlocks hP hD hS (ro_x hF hi.1 hs c_9) d_Z_runRows_220
      · refine lv_aload_n hx hb d_Z_runRows_12 rfl (lv_at hl 0 rfl) ?_
        refine va_get (ci := 5) (v := .int en1) (C := R_Z) (T := T_Z) (N := 26) hx hb ht in_Z hown hK.1 hP 0 rfl rfl 20 (by decide) (ht _ k_fl_Z_127) (fun _ h9 => h9) rfl d_Z_runRows_13 ?_
        refine lv_if_ne (tgt := 220) hx hb d_Z_runRows_16 (by decide) (fun c_16 => ?_) (fun c_16 => ?_)
        · rw [hQ]; exact retMv (w1 := fun u : FL × Int32 × Int32 => ((wZ cI cL z0 y1 y2 y3 y4 y5 y6 y7 y8 y9 y10 y11 y12 y13 y14 mn oo oa ob ss gg zz md sd da u.1 pp kp ot th li bl nw wr ru al u.2.1 u.2.2 ke kb at0) ++ fr)) (rg1, sp1, en1) hx hb hr hlocks hP hD hS (hF.resolve_left (fun q => c_16 q.1)).2 d_Z_runRows_220
        · have hR := roI_s hF c_16 hi.1 hs c_9
          refine lv_bipush (v := 60) hx hb d_Z_runRows_19 (by decide) ?_
          refine lv_iload_n hx hb d_Z_runRows_21 rfl (lv_at hl 1 rfl) ?_
          refine lv_imul hx hb d_Z_runRows_22 ?_
          refine lv_iload_n hx hb d_Z_runRows_23 rfl (lv_at hl 2 rfl) ?_
          refine lv_iadd hx hb d_Z_runRows_24 ?_
          refine lv_istore_n (lv' := [(3, .int ((60 * k) + i)), (0, .ref z0), (1, .int k), (2, .int i)]) hx hb d_Z_runRows_25 rfl hl (by decide) rfl (fun ls hl => ?_)
          refine lv_aload_n hx hb d_Z_runRows_26 rfl (lv_at hl 1 rfl) ?_
          refine va_get (ci := 5) (v := .ref y2) (C := R_Z) (T := T_Z) (N := 26) hx hb ht in_Z hown hK.1 hP 0 rfl rfl 8 (by decide) (ht _ k_fl_Z_13) (fun _ h9 => h9) rfl d_Z_runRows_27 ?_
          refine lv_iload_n hx hb d_Z_runRows_30 rfl (lv_at hl 0 rfl) ?_
          refine va_iald hx hb hK.1 hP 2 0 rfl rfl (in60 hk (ro_i (m := 0) (hmn _ (kc hk)) hi c_9)) d_Z_runRows_31 ?_
          rw [show oo ((60 * k) + i).toNatClampNeg = vw 60 oo k i.toNatClampNeg from (vw60 hk (ro_i (m := 0) (hmn _ (kc hk)) hi c_9))]
          refine lv_istore (lv' := [(4, .int (vw 60 oo k i.toNatClampNeg)), (3, .int ((60 * k) + i)), (0, .ref z0), (1, .int k), (2, .int i)]) hx hb d_Z_runRows_32 hl (by decide) rfl (fun ls hl => ?_)
          refine lv_aload_n hx hb d_Z_runRows_34 rfl (lv_at hl 2 rfl) ?_
          refine va_get (ci := 5) (v := .int sp1) (C := R_Z) (T := T_Z) (N := 26) hx hb ht in_Z hown hK.1 hP 0 rfl rfl 19 (by decide) (ht _ k_fl_Z_124) (fun _ h9 => h9) rfl d_Z_runRows_35 ?_
          refine lv_sipush (v := 2000) hx hb d_Z_runRows_38 (by decide) ?_
          refine lv_icmp_ne (tgt := 52) hx hb d_Z_runRows_41 (by decide) (fun c_41 => ?_) (fun c_41 => ?_)
          · refine lv_iload hx hb d_Z_runRows_52 (lv_at hl 0 rfl) ?_
            refine lv_iconst (v := 4) hx hb d_Z_runRows_54 (by decide) ?_
            refine lv_icmp_ne (tgt := 82) hx hb d_Z_runRows_55 (by decide) (fun c_55 => ?_) (fun c_55 => ?_)
            · refine lv_aload_n hx hb d_Z_runRows_82 rfl (lv_at hl 2 rfl) ?_
              refine lv_dup hx hb d_Z_runRows_83 rfl ?_
              refine va_get (ci := 5) (v := .int sp1) (C := R_Z) (T := T_Z) (N := 26) hx hb ht in_Z hown hK.1 hP 0 rfl rfl 19 (by decide) (ht _ k_fl_Z_124) (fun _ h9 => h9) rfl d_Z_runRows_84 ?_
              refine lv_iconst (v := 1) hx hb d_Z_runRows_87 (by decide) ?_
              refine lv_iadd hx hb d_Z_runRows_88 ?_
              refine va_put (ci := 5) (v := .int (sp1 + 1)) (ty := .int) (C := R_Z) (T := T_Z) (N := 26) hx hb ht in_Z t_Z t_Z_ok n_Z hown hK.1 hP hD hS 0 rfl rfl 19 (by decide) (ht _ k_fl_Z_124) (fun _ h9 => h9) rfl (by decide +kernel) rfl rfl (Nat.le_of_ble_eq_true rfl) d_Z_runRows_89 (fun H locs hP hD hS => ?_)
              have hP : va_P D vwCl ((wZ cI cL z0 y1 y2 y3 y4 y5 y6 y7 y8 y9 y10 y11 y12 y13 y14 mn oo oa ob ss gg zz md sd da rg1 pp kp ot th li bl nw wr ru al (sp1 + 1) en1 ke kb at0) ++ fr) H := hP
              have hD : va_D A ((wZ cI cL z0 y1 y2 y3 y4 y5 y6 y7 y8 y9 y10 y11 y12 y13 y14 mn oo oa ob ss gg zz md sd da rg1 pp kp ot th li bl nw wr ru al (sp1 + 1) en1 ke kb at0) ++ fr) := hD
              refine lv_iinc (v := i + 1) (lv' := [(2, .int (i + 1)), (4, .int (vw 60 oo k i.toNatClampNeg)), (3, .int ((60 * k) + i)), (0, .ref z0), (1, .int k)]) hx hb d_Z_runRows_92 hl (k := 4) rfl rfl (by decide) rfl (fun ls hl => ?_)
              refine lv_iload hx hb d_Z_runRows_95 (lv_at hl 1 rfl) ?_
              refine lv_if_ne (tgt := 121) hx hb d_Z_runRows_97 (by decide) (fun c_97 => ?_) (fun c_97 => ?_)
              · refine lv_iload hx hb d_Z_runRows_121 (lv_at hl 1 rfl) ?_
                refine lv_bipush (v := 6) hx hb d_Z_runRows_123 (by decide) ?_
                refine lv_icmp_ne (tgt := 158) hx hb d_Z_runRows_125 (by decide) (fun c_125 => ?_) (fun c_125 => ?_)
                · refine lv_aload_n hx hb d_Z_runRows_158 rfl (lv_at hl 3 rfl) ?_
                  refine va_get (ci := 5) (v := .ref y11) (C := R_Z) (T := T_Z) (N := 26) hx hb ht in_Z hown hK.1 hP 0 rfl rfl 17 (by decide) (ht _ k_fl_Z_40) (fun _ h9 => h9) rfl d_Z_runRows_159 ?_
                  refine lv_aload_n hx hb d_Z_runRows_162 rfl (lv_at hl 3 rfl) ?_
                  refine va_get (ci := 5) (v := .ref y3) (C := R_Z) (T := T_Z) (N := 26) hx hb ht in_Z hown hK.1 hP 0 rfl rfl 9 (by decide) (ht _ k_fl_Z_16) (fun _ h9 => h9) rfl d_Z_runRows_163 ?_
                  refine lv_iload_n hx hb d_Z_runRows_166 rfl (lv_at hl 2 rfl) ?_
                  refine va_iald hx hb hK.1 hP 3 0 rfl rfl (in60 hk (ro_i (m := 0) (hmn _ (kc hk)) hi c_9)) d_Z_runRows_167 ?_
                  rw [show oa ((60 * k) + i).toNatClampNeg = vw 60 oa k i.toNatClampNeg from (vw60 hk (ro_i (m := 0) (hmn _ (kc hk)) hi c_9))]
                  refine lv_iload hx hb d_Z_runRows_168 (lv_at hl 1 rfl) ?_
                  refine lv_bipush (v := 6) hx hb d_Z_runRows_170 (by decide) ?_
                  refine lv_icmp_le (tgt := 189) hx hb d_Z_runRows_172 (by decide) (fun c_172 => ?_) (fun c_172 => ?_)
                  · refine lv_iload hx hb d_Z_runRows_189 (lv_at hl 1 rfl) ?_
                    refine lv_aload_n hx hb d_Z_runRows_191 rfl (lv_at hl 3 rfl) ?_
                    refine va_get (ci := 5) (v := .ref y11) (C := R_Z) (T := T_Z) (N := 26) hx hb ht in_Z hown hK.1 hP 0 rfl rfl 17 (by decide) (ht _ k_fl_Z_40) (fun _ h9 => h9) rfl d_Z_runRows_192 ?_
                    refine lv_aload_n hx hb d_Z_runRows_195 rfl (lv_at hl 3 rfl) ?_
                    refine va_get (ci := 5) (v := .ref y3) (C := R_Z) (T := T_Z) (N := 26) hx hb ht in_Z hown hK.1 hP 0 rfl rfl 9 (by decide) (ht _ k_fl_Z_16) (fun _ h9 => h9) rfl d_Z_runRows_196 ?_
                    refine lv_iload_n hx hb d_Z_runRows_199 rfl (lv_at hl 2 rfl) ?_
                    refine va_iald hx hb hK.1 hP 3 0 rfl rfl (in60 hk (ro_i (m := 0) (hmn _ (kc hk)) hi c_9)) d_Z_runRows_200 ?_
                    rw [show oa ((60 * k) + i).toNatClampNeg = vw 60 oa k i.toNatClampNeg from (vw60 hk (ro_i (m := 0) (hmn _ (kc hk)) hi c_9))]
                    refine va_lald hx hb hK.1 hP 11 1 rfl rfl (in4 (hok.at hi.1 c_9).2.1) d_Z_runRows_201 ?_
                    rw [show rg1 (vw 60 oa k i.toNatClampNeg).toNatClampNeg = ldF rg1 (vw 60 oa k i.toNatClampNeg) from (ldF1 (hok.at hi.1 c_9).2.1).symm]
                    refine lv_aload_n hx hb d_Z_runRows_202 rfl (lv_at hl 3 rfl) ?_
                    refine va_get (ci := 5) (v := .ref y11) (C := R_Z) (T := T_Z) (N := 26) hx hb ht in_Z hown hK.1 hP 0 rfl rfl 17 (by decide) (ht _ k_fl_Z_40) (fun _ h9 => h9) rfl d_Z_runRows_203 ?_
                    refine lv_aload_n hx hb d_Z_runRows_206 rfl (lv_at hl 3 rfl) ?_
                    refine va_get (ci := 5) (v := .ref y4) (C := R_Z) (T := T_Z) (N := 26) hx hb ht in_Z hown hK.1 hP 0 rfl rfl 10 (by decide) (ht _ k_fl_Z_19) (fun _ h9 => h9) rfl d_Z_runRows_207 ?_
                    refine lv_iload_n hx hb d_Z_runRows_210 rfl (lv_at hl 2 rfl) ?_
                    refine va_iald hx hb hK.1 hP 4 0 rfl rfl (in60 hk (ro_i (m := 0) (hmn _ (kc hk)) hi c_9)) d_Z_runRows_211 ?_
                    rw [show ob ((60 * k) + i).toNatClampNeg = vw 60 ob k i.toNatClampNeg from (vw60 hk (ro_i (m := 0) (hmn _ (kc hk)) hi c_9))]
                    refine va_lald hx hb hK.1 hP 11 1 rfl rfl (in4 (okI.b (hok.at hi.1 c_9) c_97 c_125)) d_Z_runRows_212 ?_
                    rw [show rg1 (vw 60 ob k i.toNatClampNeg).toNatClampNeg = ldF rg1 (vw 60 ob k i.toNatClampNeg) from (ldF1 (okI.b (hok.at hi.1 c_9) c_97 c_125)).symm]
                    refine goRl (va_runS (As := [.int (vw 60 oo k i.toNatClampNeg), .long (ldF rg1 (vw 60 oa k i.toNatClampNeg)), .long (ldF rg1 (vw 60 ob k i.toNatClampNeg))]) (rest := [.int (vw 60 oa k i.toNatClampNeg), .ref y11]) ⟨hx, hb, hml, hown, hts⟩ (c_Z_result l D cI cL cO (vw 60 oo k i.toNatClampNeg) (ldF rg1 (vw 60 oa k i.toNatClampNeg)) (ldF rg1 (vw 60 ob k i.toNatClampNeg)) (fun h => absurd h c_55)) (cwS 3 hts (gBIG (m3 k_ml_Z_130 k_st_Z_result k_ini_Z) k_co_Z_result) rfl rfl rfl (by decide +kernel) ⟨Nat.le_of_ble_eq_true rfl, Nat.le_of_ble_eq_true rfl⟩) ⟨PR.bl, PR.pre P_nil hK⟩ rfl rfl hl.1 rfl (lv_room (Nat.le_of_ble_eq_true rfl)) d_Z_runRows_213 ⟨Nat.le_of_ble_eq_true rfl, Nat.le_of_ble_eq_true rfl⟩) ?_
                    refine va_last hx hb hK.1 hP hD hS 11 1 rfl rfl (in4 (hok.at hi.1 c_9).2.1) d_Z_runRows_216 (fun H locs hP hD hS => ?_)
                    have hP : va_P D vwCl ((wZ cI cL z0 y1 y2 y3 y4 y5 y6 y7 y8 y9 y10 y11 y12 y13 y14 mn oo oa ob ss gg zz md sd da (vp_updL rg1 (vw 60 oa k i.toNatClampNeg).toNatClampNeg (zreF (vw 60 oo k i.toNatClampNeg) (ldF rg1 (vw 60 oa k i.toNatClampNeg)) (ldF rg1 (vw 60 ob k i.toNatClampNeg)))) pp kp ot th li bl nw wr ru al (sp1 + 1) en1 ke kb at0) ++ fr) H := hP
                    have hD : va_D A ((wZ cI cL z0 y1 y2 y3 y4 y5 y6 y7 y8 y9 y10 y11 y12 y13 y14 mn oo oa ob ss gg zz md sd da (vp_updL rg1 (vw 60 oa k i.toNatClampNeg).toNatClampNeg (zreF (vw 60 oo k i.toNatClampNeg) (ldF rg1 (vw 60 oa k i.toNatClampNeg)) (ldF rg1 (vw 60 ob k i.toNatClampNeg)))) pp kp ot th li bl nw wr ru al (sp1 + 1) en1 ke kb at0) ++ fr) := hD
                    refine lv_goto (tgt := 2) hx hb d_Z_runRows_217 (by decide) ?_
                    exact ih (i + 1) (vp_updL rg1 (vw 60 oa k i.toNatClampNeg).toNatClampNeg (zreF (vw 60 oo k i.toNatClampNeg) (ldF rg1 (vw 60 oa k i.toNatClampNeg)) (ldF rg1 (vw 60 ob k i.toNatClampNeg)))) (sp1 + 1) en1 _ _ ls (⟨fun _ => by rw [i32_1 (by omega)]; have := hn.1 c_16; omega, by have := hn.1 c_16; omega⟩) (by rw [i32_1 (by omega)]; have := (ro_i (m := 0) (hmn _ (kc hk)) hi c_9); omega) (by rw [i32_1 (by omega)]; have := ne2000 hs c_41; omega) (Or.inl ⟨c_16, by rw [← hR]; simp only [if_neg c_9, if_pos c_16, if_neg c_41, if_neg c_55, if_neg c_97, if_neg c_125, if_pos c_172, stF1 (hok.at hi.1 c_9).2.1, resF, zre_w (hok.at hi.1 c_9) c_97 c_125 c_172 (fun h => absurd h c_55), if_neg (show ¬ vw 60 oo k i.toNatClampNeg = 7 from fun z => absurd (z ▸ c_172) (by decide))]⟩) hP hD hS (lv_sub hl [3, 4, 0] rfl)
                  · refine lv_aload_n hx hb d_Z_runRows_175 rfl (lv_at hl 3 rfl) ?_
                    refine va_get (ci := 5) (v := .ref y11) (C := R_Z) (T := T_Z) (N := 26) hx hb ht in_Z hown hK.1 hP 0 rfl rfl 17 (by decide) (ht _ k_fl_Z_40) (fun _ h9 => h9) rfl d_Z_runRows_176 ?_
                    refine lv_aload_n hx hb d_Z_runRows_179 rfl (lv_at hl 3 rfl) ?_
                    refine va_get (ci := 5) (v := .ref y4) (C := R_Z) (T := T_Z) (N := 26) hx hb ht in_Z hown hK.1 hP 0 rfl rfl 10 (by decide) (ht _ k_fl_Z_19) (fun _ h9 => h9) rfl d_Z_runRows_180 ?_
                    refine lv_iload_n hx hb d_Z_runRows_183 rfl (lv_at hl 2 rfl) ?_
                    refine va_iald hx hb hK.1 hP 4 0 rfl rfl (in60 hk (ro_i (m := 0) (hmn _ (kc hk)) hi c_9)) d_Z_runRows_184 ?_
                    rw [show ob ((60 * k) + i).toNatClampNeg = vw 60 ob k i.toNatClampNeg from (vw60 hk (ro_i (m := 0) (hmn _ (kc hk)) hi c_9))]
                    refine va_lald hx hb hK.1 hP 11 1 rfl rfl (in4 (okI.b (hok.at hi.1 c_9) c_97 c_125)) d_Z_runRows_185 ?_
                    rw [show rg1 (vw 60 ob k i.toNatClampNeg).toNatClampNeg = ldF rg1 (vw 60 ob k i.toNatClampNeg) from (ldF1 (okI.b (hok.at hi.1 c_9) c_97 c_125)).symm]
                    refine lv_goto (tgt := 216) hx hb d_Z_runRows_186 (by decide) ?_
                    refine va_last hx hb hK.1 hP hD hS 11 1 rfl rfl (in4 (hok.at hi.1 c_9).2.1) d_Z_runRows_216 (fun H locs hP hD hS => ?_)
                    have hP : va_P D vwCl ((wZ cI cL z0 y1 y2 y3 y4 y5 y6 y7 y8 y9 y10 y11 y12 y13 y14 mn oo oa ob ss gg zz md sd da (vp_updL rg1 (vw 60 oa k i.toNatClampNeg).toNatClampNeg (ldF rg1 (vw 60 ob k i.toNatClampNeg))) pp kp ot th li bl nw wr ru al (sp1 + 1) en1 ke kb at0) ++ fr) H := hP
                    have hD : va_D A ((wZ cI cL z0 y1 y2 y3 y4 y5 y6 y7 y8 y9 y10 y11 y12 y13 y14 mn oo oa ob ss gg zz md sd da (vp_updL rg1 (vw 60 oa k i.toNatClampNeg).toNatClampNeg (ldF rg1 (vw 60 ob k i.toNatClampNeg))) pp kp ot th li bl nw wr ru al (sp1 + 1) en1 ke kb at0) ++ fr) := hD
                    refine lv_goto (tgt := 2) hx hb d_Z_runRows_217 (by decide) ?_
                    exact ih (i + 1) (vp_updL rg1 (vw 60 oa k i.toNatClampNeg).toNatClampNeg (ldF rg1 (vw 60 ob k i.toNatClampNeg))) (sp1 + 1) en1 _ _ ls (⟨fun _ => by rw [i32_1 (by omega)]; have := hn.1 c_16; omega, by have := hn.1 c_16; omega⟩) (by rw [i32_1 (by omega)]; have := (ro_i (m := 0) (hmn _ (kc hk)) hi c_9); omega) (by rw [i32_1 (by omega)]; have := ne2000 hs c_41; omega) (Or.inl ⟨c_16, by rw [← hR]; simp only [if_neg c_9, if_pos c_16, if_neg c_41, if_neg c_55, if_neg c_97, if_neg c_125, if_neg c_172, stF1 (hok.at hi.1 c_9).2.1, resF, if_pos (o7 (hok.at hi.1 c_9) c_172), if_neg (show ¬ vw 60 oo k i.toNatClampNeg = 4 by rw [o7 (hok.at hi.1 c_9) c_172]; decide)]⟩) hP hD hS (lv_sub hl [3, 4, 0] rfl)
                · refine lv_aload_n hx hb d_Z_runRows_128 rfl (lv_at hl 3 rfl) ?_
                  refine va_get (ci := 5) (v := .ref y11) (C := R_Z) (T := T_Z) (N := 26) hx hb ht in_Z hown hK.1 hP 0 rfl rfl 17 (by decide) (ht _ k_fl_Z_40) (fun _ h9 => h9) rfl d_Z_runRows_129 ?_
                  refine lv_aload_n hx hb d_Z_runRows_132 rfl (lv_at hl 3 rfl) ?_
                  refine va_get (ci := 5) (v := .ref y3) (C := R_Z) (T := T_Z) (N := 26) hx hb ht in_Z hown hK.1 hP 0 rfl rfl 9 (by decide) (ht _ k_fl_Z_16) (fun _ h9 => h9) rfl d_Z_runRows_133 ?_
                  refine lv_iload_n hx hb d_Z_runRows_136 rfl (lv_at hl 2 rfl) ?_
                  refine va_iald hx hb hK.1 hP 3 0 rfl rfl (in60 hk (ro_i (m := 0) (hmn _ (kc hk)) hi c_9)) d_Z_runRows_137 ?_
                  rw [show oa ((60 * k) + i).toNatClampNeg = vw 60 oa k i.toNatClampNeg from (vw60 hk (ro_i (m := 0) (hmn _ (kc hk)) hi c_9))]
                  refine va_lald hx hb hK.1 hP 11 1 rfl rfl (in4 (hok.at hi.1 c_9).2.1) d_Z_runRows_138 ?_
                  rw [show rg1 (vw 60 oa k i.toNatClampNeg).toNatClampNeg = ldF rg1 (vw 60 oa k i.toNatClampNeg) from (ldF1 (hok.at hi.1 c_9).2.1).symm]
                  refine lv_lconst (v := 0) hx hb d_Z_runRows_139 (by decide) ?_
                  refine W.lcmp hx hb d_Z_runRows_140 ?_
                  refine lv_if_eq (tgt := 153) hx hb d_Z_runRows_141 (by decide) (fun c_141 => ?_) (fun c_141 => ?_)
                  · refine lv_iload_n hx hb d_Z_runRows_153 rfl (lv_at hl 0 rfl) ?_
                    refine lv_istore_n (lv' := [(2, .int (i + 1)), (4, .int (vw 60 oo k i.toNatClampNeg)), (3, .int ((60 * k) + i)), (0, .ref z0), (1, .int k)]) hx hb d_Z_runRows_154 rfl hl (by decide) rfl (fun ls hl => ?_)
                    refine lv_goto (tgt := 217) hx hb d_Z_runRows_155 (by decide) ?_
                    refine lv_goto (tgt := 2) hx hb d_Z_runRows_217 (by decide) ?_
                    exact ih (i + 1) rg1 (sp1 + 1) en1 _ _ ls (⟨fun _ => by rw [i32_1 (by omega)]; have := hn.1 c_16; omega, by have := hn.1 c_16; omega⟩) (by rw [i32_1 (by omega)]; have := (ro_i (m := 0) (hmn _ (kc hk)) hi c_9); omega) (by rw [i32_1 (by omega)]; have := ne2000 hs c_41; omega) (Or.inl ⟨c_16, by rw [← hR]; simp only [if_neg c_9, if_pos c_16, if_neg c_41, if_neg c_55, if_neg c_97, if_pos c_125, if_pos c_141]⟩) hP hD hS (lv_sub hl [3, 4, 0] rfl)
                  · refine lv_aload_n hx hb d_Z_runRows_144 rfl (lv_at hl 3 rfl) ?_
                    refine va_get (ci := 5) (v := .ref y4) (C := R_Z) (T := T_Z) (N := 26) hx hb ht in_Z hown hK.1 hP 0 rfl rfl 10 (by decide) (ht _ k_fl_Z_19) (fun _ h9 => h9) rfl d_Z_runRows_145 ?_
                    refine lv_iload_n hx hb d_Z_runRows_148 rfl (lv_at hl 2 rfl) ?_
                    refine va_iald hx hb hK.1 hP 4 0 rfl rfl (in60 hk (ro_i (m := 0) (hmn _ (kc hk)) hi c_9)) d_Z_runRows_149 ?_
                    rw [show ob ((60 * k) + i).toNatClampNeg = vw 60 ob k i.toNatClampNeg from (vw60 hk (ro_i (m := 0) (hmn _ (kc hk)) hi c_9))]
                    refine lv_goto (tgt := 154) hx hb d_Z_runRows_150 (by decide) ?_
                    refine lv_istore_n (lv' := [(2, .int (vw 60 ob k i.toNatClampNeg)), (4, .int (vw 60 oo k i.toNatClampNeg)), (3, .int ((60 * k) + i)), (0, .ref z0), (1, .int k)]) hx hb d_Z_runRows_154 rfl hl (by decide) rfl (fun ls hl => ?_)
                    refine lv_goto (tgt := 217) hx hb d_Z_runRows_155 (by decide) ?_
                    refine lv_goto (tgt := 2) hx hb d_Z_runRows_217 (by decide) ?_
                    exact ih (vw 60 ob k i.toNatClampNeg) rg1 (sp1 + 1) en1 _ _ ls (⟨fun _ => by rw [i32_1 (by omega)]; have := hn.1 c_16; omega, by have := hn.1 c_16; omega⟩) (okI.j (hok.at hi.1 c_9) c_125) (by rw [i32_1 (by omega)]; have := ne2000 hs c_41; omega) (Or.inl ⟨c_16, by rw [← hR]; simp only [if_neg c_9, if_pos c_16, if_neg c_41, if_neg c_55, if_neg c_97, if_pos c_125, if_neg c_141]⟩) hP hD hS (lv_sub hl [3, 4, 0] rfl)
              · refine lv_aload_n hx hb d_Z_runRows_100 rfl (lv_at hl 3 rfl) ?_
                refine va_get (ci := 5) (v := .ref y11) (C := R_Z) (T := T_Z) (N := 26) hx hb ht in_Z hown hK.1 hP 0 rfl rfl 17 (by decide) (ht _ k_fl_Z_40) (fun _ h9 => h9) rfl d_Z_runRows_101 ?_
                refine lv_aload_n hx hb d_Z_runRows_104 rfl (lv_at hl 3 rfl) ?_
                refine va_get (ci := 5) (v := .ref y3) (C := R_Z) (T := T_Z) (N := 26) hx hb ht in_Z hown hK.1 hP 0 rfl rfl 9 (by decide) (ht _ k_fl_Z_16) (fun _ h9 => h9) rfl d_Z_runRows_105 ?_
                refine lv_iload_n hx hb d_Z_runRows_108 rfl (lv_at hl 2 rfl) ?_
                refine va_iald hx hb hK.1 hP 3 0 rfl rfl (in60 hk (ro_i (m := 0) (hmn _ (kc hk)) hi c_9)) d_Z_runRows_109 ?_
                rw [show oa ((60 * k) + i).toNatClampNeg = vw 60 oa k i.toNatClampNeg from (vw60 hk (ro_i (m := 0) (hmn _ (kc hk)) hi c_9))]
                refine lv_aload_n hx hb d_Z_runRows_110 rfl (lv_at hl 3 rfl) ?_
                refine va_get (ci := 5) (v := .ref y4) (C := R_Z) (T := T_Z) (N := 26) hx hb ht in_Z hown hK.1 hP 0 rfl rfl 10 (by decide) (ht _ k_fl_Z_19) (fun _ h9 => h9) rfl d_Z_runRows_111 ?_
                refine lv_iload_n hx hb d_Z_runRows_114 rfl (lv_at hl 2 rfl) ?_
                refine va_iald hx hb hK.1 hP 4 0 rfl rfl (in60 hk (ro_i (m := 0) (hmn _ (kc hk)) hi c_9)) d_Z_runRows_115 ?_
                rw [show ob ((60 * k) + i).toNatClampNeg = vw 60 ob k i.toNatClampNeg from (vw60 hk (ro_i (m := 0) (hmn _ (kc hk)) hi c_9))]
                refine lv_i2l (v := (vw 60 ob k i.toNatClampNeg).toInt64) hx hb d_Z_runRows_116 rfl ?_
                refine va_last hx hb hK.1 hP hD hS 11 1 rfl rfl (in4 (hok.at hi.1 c_9).2.1) d_Z_runRows_117 (fun H locs hP hD hS => ?_)
                have hP : va_P D vwCl ((wZ cI cL z0 y1 y2 y3 y4 y5 y6 y7 y8 y9 y10 y11 y12 y13 y14 mn oo oa ob ss gg zz md sd da (vp_updL rg1 (vw 60 oa k i.toNatClampNeg).toNatClampNeg ((vw 60 ob k i.toNatClampNeg).toInt64)) pp kp ot th li bl nw wr ru al (sp1 + 1) en1 ke kb at0) ++ fr) H := hP
                have hD : va_D A ((wZ cI cL z0 y1 y2 y3 y4 y5 y6 y7 y8 y9 y10 y11 y12 y13 y14 mn oo oa ob ss gg zz md sd da (vp_updL rg1 (vw 60 oa k i.toNatClampNeg).toNatClampNeg ((vw 60 ob k i.toNatClampNeg).toInt64)) pp kp ot th li bl nw wr ru al (sp1 + 1) en1 ke kb at0) ++ fr) := hD
                refine lv_goto (tgt := 217) hx hb d_Z_runRows_118 (by decide) ?_
                refine lv_goto (tgt := 2) hx hb d_Z_runRows_217 (by decide) ?_
                exact ih (i + 1) (vp_updL rg1 (vw 60 oa k i.toNatClampNeg).toNatClampNeg ((vw 60 ob k i.toNatClampNeg).toInt64)) (sp1 + 1) en1 _ _ ls (⟨fun _ => by rw [i32_1 (by omega)]; have := hn.1 c_16; omega, by have := hn.1 c_16; omega⟩) (by rw [i32_1 (by omega)]; have := (ro_i (m := 0) (hmn _ (kc hk)) hi c_9); omega) (by rw [i32_1 (by omega)]; have := ne2000 hs c_41; omega) (Or.inl ⟨c_16, by rw [← hR]; simp only [if_neg c_9, if_pos c_16, if_neg c_41, if_neg c_55, if_pos c_97, stF1 (hok.at hi.1 c_9).2.1, resF, if_neg (show ¬ vw 60 oo k i.toNatClampNeg = 4 by rw [c_97]; decide), if_neg (show ¬ vw 60 oo k i.toNatClampNeg = 6 by rw [c_97]; decide)]⟩) hP hD hS (lv_sub hl [3, 4, 0] rfl)
            · refine lv_aload_n hx hb d_Z_runRows_58 rfl (lv_at hl 2 rfl) ?_
              refine va_get (ci := 5) (v := .ref y11) (C := R_Z) (T := T_Z) (N := 26) hx hb ht in_Z hown hK.1 hP 0 rfl rfl 17 (by decide) (ht _ k_fl_Z_40) (fun _ h9 => h9) rfl d_Z_runRows_59 ?_
              refine lv_aload_n hx hb d_Z_runRows_62 rfl (lv_at hl 2 rfl) ?_
              refine va_get (ci := 5) (v := .ref y4) (C := R_Z) (T := T_Z) (N := 26) hx hb ht in_Z hown hK.1 hP 0 rfl rfl 10 (by decide) (ht _ k_fl_Z_19) (fun _ h9 => h9) rfl d_Z_runRows_63 ?_
              refine lv_iload_n hx hb d_Z_runRows_66 rfl (lv_at hl 1 rfl) ?_
              refine va_iald hx hb hK.1 hP 4 0 rfl rfl (in60 hk (ro_i (m := 0) (hmn _ (kc hk)) hi c_9)) d_Z_runRows_67 ?_
              rw [show ob ((60 * k) + i).toNatClampNeg = vw 60 ob k i.toNatClampNeg from (vw60 hk (ro_i (m := 0) (hmn _ (kc hk)) hi c_9))]
              refine va_lald hx hb hK.1 hP 11 1 rfl rfl (in4 (okI.b (hok.at hi.1 c_9) (by rw [c_55]; decide) (by rw [c_55]; decide))) d_Z_runRows_68 ?_
              rw [show rg1 (vw 60 ob k i.toNatClampNeg).toNatClampNeg = ldF rg1 (vw 60 ob k i.toNatClampNeg) from (ldF1 (okI.b (hok.at hi.1 c_9) (by rw [c_55]; decide) (by rw [c_55]; decide))).symm]
              refine lv_lconst (v := 0) hx hb d_Z_runRows_69 (by decide) ?_
              refine W.lcmp hx hb d_Z_runRows_70 ?_
              refine lv_if_ne (tgt := 82) hx hb d_Z_runRows_71 (by decide) (fun c_71 => ?_) (fun c_71 => ?_)
              · refine lv_aload_n hx hb d_Z_runRows_82 rfl (lv_at hl 2 rfl) ?_
                refine lv_dup hx hb d_Z_runRows_83 rfl ?_
                refine va_get (ci := 5) (v := .int sp1) (C := R_Z) (T := T_Z) (N := 26) hx hb ht in_Z hown hK.1 hP 0 rfl rfl 19 (by decide) (ht _ k_fl_Z_124) (fun _ h9 => h9) rfl d_Z_runRows_84 ?_
                refine lv_iconst (v := 1) hx hb d_Z_runRows_87 (by decide) ?_
                refine lv_iadd hx hb d_Z_runRows_88 ?_
                refine va_put (ci := 5) (v := .int (sp1 + 1)) (ty := .int) (C := R_Z) (T := T_Z) (N := 26) hx hb ht in_Z t_Z t_Z_ok n_Z hown hK.1 hP hD hS 0 rfl rfl 19 (by decide) (ht _ k_fl_Z_124) (fun _ h9 => h9) rfl (by decide +kernel) rfl rfl (Nat.le_of_ble_eq_true rfl) d_Z_runRows_89 (fun H locs hP hD hS => ?_)
                have hP : va_P D vwCl ((wZ cI cL z0 y1 y2 y3 y4 y5 y6 y7 y8 y9 y10 y11 y12 y13 y14 mn oo oa ob ss gg zz md sd da rg1 pp kp ot th li bl nw wr ru al (sp1 + 1) en1 ke kb at0) ++ fr) H := hP
                have hD : va_D A ((wZ cI cL z0 y1 y2 y3 y4 y5 y6 y7 y8 y9 y10 y11 y12 y13 y14 mn oo oa ob ss gg zz md sd da rg1 pp kp ot th li bl nw wr ru al (sp1 + 1) en1 ke kb at0) ++ fr) := hD
                refine lv_iinc (v := i + 1) (lv' := [(2, .int (i + 1)), (4, .int (vw 60 oo k i.toNatClampNeg)), (3, .int ((60 * k) + i)), (0, .ref z0), (1, .int k)]) hx hb d_Z_runRows_92 hl (k := 4) rfl rfl (by decide) rfl (fun ls hl => ?_)
                refine lv_iload hx hb d_Z_runRows_95 (lv_at hl 1 rfl) ?_
                refine lv_if_ne (tgt := 121) hx hb d_Z_runRows_97 (by decide) (fun c_97 => ?_) (fun c_97 => ?_)
                · refine lv_iload hx hb d_Z_runRows_121 (lv_at hl 1 rfl) ?_
                  refine lv_bipush (v := 6) hx hb d_Z_runRows_123 (by decide) ?_
                  refine lv_icmp_ne (tgt := 158) hx hb d_Z_runRows_125 (by decide) (fun c_125 => ?_) (fun c_125 => ?_)
                  · refine lv_aload_n hx hb d_Z_runRows_158 rfl (lv_at hl 3 rfl) ?_
                    refine va_get (ci := 5) (v := .ref y11) (C := R_Z) (T := T_Z) (N := 26) hx hb ht in_Z hown hK.1 hP 0 rfl rfl 17 (by decide) (ht _ k_fl_Z_40) (fun _ h9 => h9) rfl d_Z_runRows_159 ?_
                    refine lv_aload_n hx hb d_Z_runRows_162 rfl (lv_at hl 3 rfl) ?_
                    refine va_get (ci := 5) (v := .ref y3) (C := R_Z) (T := T_Z) (N := 26) hx hb ht in_Z hown hK.1 hP 0 rfl rfl 9 (by decide) (ht _ k_fl_Z_16) (fun _ h9 => h9) rfl d_Z_runRows_163 ?_
                    refine lv_iload_n hx hb d_Z_runRows_166 rfl (lv_at hl 2 rfl) ?_
                    refine va_iald hx hb hK.1 hP 3 0 rfl rfl (in60 hk (ro_i (m := 0) (hmn _ (kc hk)) hi c_9)) d_Z_runRows_167 ?_
                    rw [show oa ((60 * k) + i).toNatClampNeg = vw 60 oa k i.toNatClampNeg from (vw60 hk (ro_i (m := 0) (hmn _ (kc hk)) hi c_9))]
                    refine lv_iload hx hb d_Z_runRows_168 (lv_at hl 1 rfl) ?_
                    refine lv_bipush (v := 6) hx hb d_Z_runRows_170 (by decide) ?_
                    refine lv_icmp_le (tgt := 189) hx hb d_Z_runRows_172 (by decide) (fun c_172 => ?_) (fun c_172 => ?_)
                    · refine lv_iload hx hb d_Z_runRows_189 (lv_at hl 1 rfl) ?_
                      refine lv_aload_n hx hb d_Z_runRows_191 rfl (lv_at hl 3 rfl) ?_
                      refine va_get (ci := 5) (v := .ref y11) (C := R_Z) (T := T_Z) (N := 26) hx hb ht in_Z hown hK.1 hP 0 rfl rfl 17 (by decide) (ht _ k_fl_Z_40) (fun _ h9 => h9) rfl d_Z_runRows_192 ?_
                      refine lv_aload_n hx hb d_Z_runRows_195 rfl (lv_at hl 3 rfl) ?_
                      refine va_get (ci := 5) (v := .ref y3) (C := R_Z) (T := T_Z) (N := 26) hx hb ht in_Z hown hK.1 hP 0 rfl rfl 9 (by decide) (ht _ k_fl_Z_16) (fun _ h9 => h9) rfl d_Z_runRows_196 ?_
                      refine lv_iload_n hx hb d_Z_runRows_199 rfl (lv_at hl 2 rfl) ?_
                      refine va_iald hx hb hK.1 hP 3 0 rfl rfl (in60 hk (ro_i (m := 0) (hmn _ (kc hk)) hi c_9)) d_Z_runRows_200 ?_
                      rw [show oa ((60 * k) + i).toNatClampNeg = vw 60 oa k i.toNatClampNeg from (vw60 hk (ro_i (m := 0) (hmn _ (kc hk)) hi c_9))]
                      refine va_lald hx hb hK.1 hP 11 1 rfl rfl (in4 (hok.at hi.1 c_9).2.1) d_Z_runRows_201 ?_
                      rw [show rg1 (vw 60 oa k i.toNatClampNeg).toNatClampNeg = ldF rg1 (vw 60 oa k i.toNatClampNeg) from (ldF1 (hok.at hi.1 c_9).2.1).symm]
                      refine lv_aload_n hx hb d_Z_runRows_202 rfl (lv_at hl 3 rfl) ?_
                      refine va_get (ci := 5) (v := .ref y11) (C := R_Z) (T := T_Z) (N := 26) hx hb ht in_Z hown hK.1 hP 0 rfl rfl 17 (by decide) (ht _ k_fl_Z_40) (fun _ h9 => h9) rfl d_Z_runRows_203 ?_
                      refine lv_aload_n hx hb d_Z_runRows_206 rfl (lv_at hl 3 rfl) ?_
                      refine va_get (ci := 5) (v := .ref y4) (C := R_Z) (T := T_Z) (N := 26) hx hb ht in_Z hown hK.1 hP 0 rfl rfl 10 (by decide) (ht _ k_fl_Z_19) (fun _ h9 => h9) rfl d_Z_runRows_207 ?_
                      refine lv_iload_n hx hb d_Z_runRows_210 rfl (lv_at hl 2 rfl) ?_
                      refine va_iald hx hb hK.1 hP 4 0 rfl rfl (in60 hk (ro_i (m := 0) (hmn _ (kc hk)) hi c_9)) d_Z_runRows_211 ?_
                      rw [show ob ((60 * k) + i).toNatClampNeg = vw 60 ob k i.toNatClampNeg from (vw60 hk (ro_i (m := 0) (hmn _ (kc hk)) hi c_9))]
                      refine va_lald hx hb hK.1 hP 11 1 rfl rfl (in4 (okI.b (hok.at hi.1 c_9) c_97 c_125)) d_Z_runRows_212 ?_
                      rw [show rg1 (vw 60 ob k i.toNatClampNeg).toNatClampNeg = ldF rg1 (vw 60 ob k i.toNatClampNeg) from (ldF1 (okI.b (hok.at hi.1 c_9) c_97 c_125)).symm]
                      refine goRl (va_runS (As := [.int (vw 60 oo k i.toNatClampNeg), .long (ldF rg1 (vw 60 oa k i.toNatClampNeg)), .long (ldF rg1 (vw 60 ob k i.toNatClampNeg))]) (rest := [.int (vw 60 oa k i.toNatClampNeg), .ref y11]) ⟨hx, hb, hml, hown, hts⟩ (c_Z_result l D cI cL cO (vw 60 oo k i.toNatClampNeg) (ldF rg1 (vw 60 oa k i.toNatClampNeg)) (ldF rg1 (vw 60 ob k i.toNatClampNeg)) (fun _ h => c_71 ((lg_cmp_eq _ _).mpr h))) (cwS 3 hts (gBIG (m3 k_ml_Z_130 k_st_Z_result k_ini_Z) k_co_Z_result) rfl rfl rfl (by decide +kernel) ⟨Nat.le_of_ble_eq_true rfl, Nat.le_of_ble_eq_true rfl⟩) ⟨PR.bl, PR.pre P_nil hK⟩ rfl rfl hl.1 rfl (lv_room (Nat.le_of_ble_eq_true rfl)) d_Z_runRows_213 ⟨Nat.le_of_ble_eq_true rfl, Nat.le_of_ble_eq_true rfl⟩) ?_
                      refine va_last hx hb hK.1 hP hD hS 11 1 rfl rfl (in4 (hok.at hi.1 c_9).2.1) d_Z_runRows_216 (fun H locs hP hD hS => ?_)
                      have hP : va_P D vwCl ((wZ cI cL z0 y1 y2 y3 y4 y5 y6 y7 y8 y9 y10 y11 y12 y13 y14 mn oo oa ob ss gg zz md sd da (vp_updL rg1 (vw 60 oa k i.toNatClampNeg).toNatClampNeg (zreF (vw 60 oo k i.toNatClampNeg) (ldF rg1 (vw 60 oa k i.toNatClampNeg)) (ldF rg1 (vw 60 ob k i.toNatClampNeg)))) pp kp ot th li bl nw wr ru al (sp1 + 1) en1 ke kb at0) ++ fr) H := hP
                      have hD : va_D A ((wZ cI cL z0 y1 y2 y3 y4 y5 y6 y7 y8 y9 y10 y11 y12 y13 y14 mn oo oa ob ss gg zz md sd da (vp_updL rg1 (vw 60 oa k i.toNatClampNeg).toNatClampNeg (zreF (vw 60 oo k i.toNatClampNeg) (ldF rg1 (vw 60 oa k i.toNatClampNeg)) (ldF rg1 (vw 60 ob k i.toNatClampNeg)))) pp kp ot th li bl nw wr ru al (sp1 + 1) en1 ke kb at0) ++ fr) := hD
                      refine lv_goto (tgt := 2) hx hb d_Z_runRows_217 (by decide) ?_
                      exact ih (i + 1) (vp_updL rg1 (vw 60 oa k i.toNatClampNeg).toNatClampNeg (zreF (vw 60 oo k i.toNatClampNeg) (ldF rg1 (vw 60 oa k i.toNatClampNeg)) (ldF rg1 (vw 60 ob k i.toNatClampNeg)))) (sp1 + 1) en1 _ _ ls (⟨fun _ => by rw [i32_1 (by omega)]; have := hn.1 c_16; omega, by have := hn.1 c_16; omega⟩) (by rw [i32_1 (by omega)]; have := (ro_i (m := 0) (hmn _ (kc hk)) hi c_9); omega) (by rw [i32_1 (by omega)]; have := ne2000 hs c_41; omega) (Or.inl ⟨c_16, by rw [← hR]; simp only [if_neg c_9, if_pos c_16, if_neg c_41, if_pos c_55, if_neg c_71, if_neg c_97, if_neg c_125, if_pos c_172, stF1 (hok.at hi.1 c_9).2.1, resF, zre_w (hok.at hi.1 c_9) c_97 c_125 c_172 (fun _ h => c_71 ((lg_cmp_eq _ _).mpr h)), if_neg (show ¬ vw 60 oo k i.toNatClampNeg = 7 from fun z => absurd (z ▸ c_172) (by decide))]⟩) hP hD hS (lv_sub hl [3, 4, 0] rfl)
                    · refine lv_aload_n hx hb d_Z_runRows_175 rfl (lv_at hl 3 rfl) ?_
                      refine va_get (ci := 5) (v := .ref y11) (C := R_Z) (T := T_Z) (N := 26) hx hb ht in_Z hown hK.1 hP 0 rfl rfl 17 (by decide) (ht _ k_fl_Z_40) (fun _ h9 => h9) rfl d_Z_runRows_176 ?_
                      refine lv_aload_n hx hb d_Z_runRows_179 rfl (lv_at hl 3 rfl) ?_
                      refine va_get (ci := 5) (v := .ref y4) (C := R_Z) (T := T_Z) (N := 26) hx hb ht in_Z hown hK.1 hP 0 rfl rfl 10 (by decide) (ht _ k_fl_Z_19) (fun _ h9 => h9) rfl d_Z_runRows_180 ?_
                      refine lv_iload_n hx hb d_Z_runRows_183 rfl (lv_at hl 2 rfl) ?_
                      refine va_iald hx hb hK.1 hP 4 0 rfl rfl (in60 hk (ro_i (m := 0) (hmn _ (kc hk)) hi c_9)) d_Z_runRows_184 ?_
                      rw [show ob ((60 * k) + i).toNatClampNeg = vw 60 ob k i.toNatClampNeg from (vw60 hk (ro_i (m := 0) (hmn _ (kc hk)) hi c_9))]
                      refine va_lald hx hb hK.1 hP 11 1 rfl rfl (in4 (okI.b (hok.at hi.1 c_9) c_97 c_125)) d_Z_runRows_185 ?_
                      rw [show rg1 (vw 60 ob k i.toNatClampNeg).toNatClampNeg = ldF rg1 (vw 60 ob k i.toNatClampNeg) from (ldF1 (okI.b (hok.at hi.1 c_9) c_97 c_125)).symm]
                      refine lv_goto (tgt := 216) hx hb d_Z_runRows_186 (by decide) ?_
                      refine va_last hx hb hK.1 hP hD hS 11 1 rfl rfl (in4 (hok.at hi.1 c_9).2.1) d_Z_runRows_216 (fun H locs hP hD hS => ?_)
                      have hP : va_P D vwCl ((wZ cI cL z0 y1 y2 y3 y4 y5 y6 y7 y8 y9 y10 y11 y12 y13 y14 mn oo oa ob ss gg zz md sd da (vp_updL rg1 (vw 60 oa k i.toNatClampNeg).toNatClampNeg (ldF rg1 (vw 60 ob k i.toNatClampNeg))) pp kp ot th li bl nw wr ru al (sp1 + 1) en1 ke kb at0) ++ fr) H := hP
                      have hD : va_D A ((wZ cI cL z0 y1 y2 y3 y4 y5 y6 y7 y8 y9 y10 y11 y12 y13 y14 mn oo oa ob ss gg zz md sd da (vp_updL rg1 (vw 60 oa k i.toNatClampNeg).toNatClampNeg (ldF rg1 (vw 60 ob k i.toNatClampNeg))) pp kp ot th li bl nw wr ru al (sp1 + 1) en1 ke kb at0) ++ fr) := hD
                      refine lv_goto (tgt := 2) hx hb d_Z_runRows_217 (by decide) ?_
                      exact ih (i + 1) (vp_updL rg1 (vw 60 oa k i.toNatClampNeg).toNatClampNeg (ldF rg1 (vw 60 ob k i.toNatClampNeg))) (sp1 + 1) en1 _ _ ls (⟨fun _ => by rw [i32_1 (by omega)]; have := hn.1 c_16; omega, by have := hn.1 c_16; omega⟩) (by rw [i32_1 (by omega)]; have := (ro_i (m := 0) (hmn _ (kc hk)) hi c_9); omega) (by rw [i32_1 (by omega)]; have := ne2000 hs c_41; omega) (Or.inl ⟨c_16, by rw [← hR]; simp only [if_neg c_9, if_pos c_16, if_neg c_41, if_pos c_55, if_neg c_71, if_neg c_97, if_neg c_125, if_neg c_172, stF1 (hok.at hi.1 c_9).2.1, resF, if_pos (o7 (hok.at hi.1 c_9) c_172), if_neg (show ¬ vw 60 oo k i.toNatClampNeg = 4 by rw [o7 (hok.at hi.1 c_9) c_172]; decide)]⟩) hP hD hS (lv_sub hl [3, 4, 0] rfl)
                  · refine lv_aload_n hx hb d_Z_runRows_128 rfl (lv_at hl 3 rfl) ?_
                    refine va_get (ci := 5) (v := .ref y11) (C := R_Z) (T := T_Z) (N := 26) hx hb ht in_Z hown hK.1 hP 0 rfl rfl 17 (by decide) (ht _ k_fl_Z_40) (fun _ h9 => h9) rfl d_Z_runRows_129 ?_
                    refine lv_aload_n hx hb d_Z_runRows_132 rfl (lv_at hl 3 rfl) ?_
                    refine va_get (ci := 5) (v := .ref y3) (C := R_Z) (T := T_Z) (N := 26) hx hb ht in_Z hown hK.1 hP 0 rfl rfl 9 (by decide) (ht _ k_fl_Z_16) (fun _ h9 => h9) rfl d_Z_runRows_133 ?_
                    refine lv_iload_n hx hb d_Z_runRows_136 rfl (lv_at hl 2 rfl) ?_
                    refine va_iald hx hb hK.1 hP 3 0 rfl rfl (in60 hk (ro_i (m := 0) (hmn _ (kc hk)) hi c_9)) d_Z_runRows_137 ?_
                    rw [show oa ((60 * k) + i).toNatClampNeg = vw 60 oa k i.toNatClampNeg from (vw60 hk (ro_i (m := 0) (hmn _ (kc hk)) hi c_9))]
                    refine va_lald hx hb hK.1 hP 11 1 rfl rfl (in4 (hok.at hi.1 c_9).2.1) d_Z_runRows_138 ?_
                    rw [show rg1 (vw 60 oa k i.toNatClampNeg).toNatClampNeg = ldF rg1 (vw 60 oa k i.toNatClampNeg) from (ldF1 (hok.at hi.1 c_9).2.1).symm]
                    refine lv_lconst (v := 0) hx hb d_Z_runRows_139 (by decide) ?_
                    refine W.lcmp hx hb d_Z_runRows_140 ?_
                    refine lv_if_eq (tgt := 153) hx hb d_Z_runRows_141 (by decide) (fun c_141 => ?_) (fun c_141 => ?_)
                    · refine lv_iload_n hx hb d_Z_runRows_153 rfl (lv_at hl 0 rfl) ?_
                      refine lv_istore_n (lv' := [(2, .int (i + 1)), (4, .int (vw 60 oo k i.toNatClampNeg)), (3, .int ((60 * k) + i)), (0, .ref z0), (1, .int k)]) hx hb d_Z_runRows_154 rfl hl (by decide) rfl (fun ls hl => ?_)
                      refine lv_goto (tgt := 217) hx hb d_Z_runRows_155 (by decide) ?_
                      refine lv_goto (tgt := 2) hx hb d_Z_runRows_217 (by decide) ?_
                      exact ih (i + 1) rg1 (sp1 + 1) en1 _ _ ls (⟨fun _ => by rw [i32_1 (by omega)]; have := hn.1 c_16; omega, by have := hn.1 c_16; omega⟩) (by rw [i32_1 (by omega)]; have := (ro_i (m := 0) (hmn _ (kc hk)) hi c_9); omega) (by rw [i32_1 (by omega)]; have := ne2000 hs c_41; omega) (absurd (c_55.symm.trans c_125) (by decide)) hP hD hS (lv_sub hl [3, 4, 0] rfl)
                    · refine lv_aload_n hx hb d_Z_runRows_144 rfl (lv_at hl 3 rfl) ?_
                      refine va_get (ci := 5) (v := .ref y4) (C := R_Z) (T := T_Z) (N := 26) hx hb ht in_Z hown hK.1 hP 0 rfl rfl 10 (by decide) (ht _ k_fl_Z_19) (fun _ h9 => h9) rfl d_Z_runRows_145 ?_
                      refine lv_iload_n hx hb d_Z_runRows_148 rfl (lv_at hl 2 rfl) ?_
                      refine va_iald hx hb hK.1 hP 4 0 rfl rfl (in60 hk (ro_i (m := 0) (hmn _ (kc hk)) hi c_9)) d_Z_runRows_149 ?_
                      rw [show ob ((60 * k) + i).toNatClampNeg = vw 60 ob k i.toNatClampNeg from (vw60 hk (ro_i (m := 0) (hmn _ (kc hk)) hi c_9))]
                      refine lv_goto (tgt := 154) hx hb d_Z_runRows_150 (by decide) ?_
                      refine lv_istore_n (lv' := [(2, .int (vw 60 ob k i.toNatClampNeg)), (4, .int (vw 60 oo k i.toNatClampNeg)), (3, .int ((60 * k) + i)), (0, .ref z0), (1, .int k)]) hx hb d_Z_runRows_154 rfl hl (by decide) rfl (fun ls hl => ?_)
                      refine lv_goto (tgt := 217) hx hb d_Z_runRows_155 (by decide) ?_
                      refine lv_goto (tgt := 2) hx hb d_Z_runRows_217 (by decide) ?_
                      exact ih (vw 60 ob k i.toNatClampNeg) rg1 (sp1 + 1) en1 _ _ ls (⟨fun _ => by rw [i32_1 (by omega)]; have := hn.1 c_16; omega, by have := hn.1 c_16; omega⟩) (okI.j (hok.at hi.1 c_9) c_125) (by rw [i32_1 (by omega)]; have := ne2000 hs c_41; omega) (absurd (c_55.symm.trans c_125) (by decide)) hP hD hS (lv_sub hl [3, 4, 0] rfl)
                · refine lv_aload_n hx hb d_Z_runRows_100 rfl (lv_at hl 3 rfl) ?_
                  refine va_get (ci := 5) (v := .ref y11) (C := R_Z) (T := T_Z) (N := 26) hx hb ht in_Z hown hK.1 hP 0 rfl rfl 17 (by decide) (ht _ k_fl_Z_40) (fun _ h9 => h9) rfl d_Z_runRows_101 ?_
                  refine lv_aload_n hx hb d_Z_runRows_104 rfl (lv_at hl 3 rfl) ?_
                  refine va_get (ci := 5) (v := .ref y3) (C := R_Z) (T := T_Z) (N := 26) hx hb ht in_Z hown hK.1 hP 0 rfl rfl 9 (by decide) (ht _ k_fl_Z_16) (fun _ h9 => h9) rfl d_Z_runRows_105 ?_
                  refine lv_iload_n hx hb d_Z_runRows_108 rfl (lv_at hl 2 rfl) ?_
                  refine va_iald hx hb hK.1 hP 3 0 rfl rfl (in60 hk (ro_i (m := 0) (hmn _ (kc hk)) hi c_9)) d_Z_runRows_109 ?_
                  rw [show oa ((60 * k) + i).toNatClampNeg = vw 60 oa k i.toNatClampNeg from (vw60 hk (ro_i (m := 0) (hmn _ (kc hk)) hi c_9))]
                  refine lv_aload_n hx hb d_Z_runRows_110 rfl (lv_at hl 3 rfl) ?_
                  refine va_get (ci := 5) (v := .ref y4) (C := R_Z) (T := T_Z) (N := 26) hx hb ht in_Z hown hK.1 hP 0 rfl rfl 10 (by decide) (ht _ k_fl_Z_19) (fun _ h9 => h9) rfl d_Z_runRows_111 ?_
                  refine lv_iload_n hx hb d_Z_runRows_114 rfl (lv_at hl 2 rfl) ?_
                  refine va_iald hx hb hK.1 hP 4 0 rfl rfl (in60 hk (ro_i (m := 0) (hmn _ (kc hk)) hi c_9)) d_Z_runRows_115 ?_
                  rw [show ob ((60 * k) + i).toNatClampNeg = vw 60 ob k i.toNatClampNeg from (vw60 hk (ro_i (m := 0) (hmn _ (kc hk)) hi c_9))]
                  refine lv_i2l (v := (vw 60 ob k i.toNatClampNeg).toInt64) hx hb d_Z_runRows_116 rfl ?_
                  refine va_last hx hb hK.1 hP hD hS 11 1 rfl rfl (in4 (hok.at hi.1 c_9).2.1) d_Z_runRows_117 (fun H locs hP hD hS => ?_)
                  have hP : va_P D vwCl ((wZ cI cL z0 y1 y2 y3 y4 y5 y6 y7 y8 y9 y10 y11 y12 y13 y14 mn oo oa ob ss gg zz md sd da (vp_updL rg1 (vw 60 oa k i.toNatClampNeg).toNatClampNeg ((vw 60 ob k i.toNatClampNeg).toInt64)) pp kp ot th li bl nw wr ru al (sp1 + 1) en1 ke kb at0) ++ fr) H := hP
                  have hD : va_D A ((wZ cI cL z0 y1 y2 y3 y4 y5 y6 y7 y8 y9 y10 y11 y12 y13 y14 mn oo oa ob ss gg zz md sd da (vp_updL rg1 (vw 60 oa k i.toNatClampNeg).toNatClampNeg ((vw 60 ob k i.toNatClampNeg).toInt64)) pp kp ot th li bl nw wr ru al (sp1 + 1) en1 ke kb at0) ++ fr) := hD
                  refine lv_goto (tgt := 217) hx hb d_Z_runRows_118 (by decide) ?_
                  refine lv_goto (tgt := 2) hx hb d_Z_runRows_217 (by decide) ?_
                  exact ih (i + 1) (vp_updL rg1 (vw 60 oa k i.toNatClampNeg).toNatClampNeg ((vw 60 ob k i.toNatClampNeg).toInt64)) (sp1 + 1) en1 _ _ ls (⟨fun _ => by rw [i32_1 (by omega)]; have := hn.1 c_16; omega, by have := hn.1 c_16; omega⟩) (by rw [i32_1 (by omega)]; have := (ro_i (m := 0) (hmn _ (kc hk)) hi c_9); omega) (by rw [i32_1 (by omega)]; have := ne2000 hs c_41; omega) (Or.inl ⟨c_16, by rw [← hR]; simp only [if_neg c_9, if_pos c_16, if_neg c_41, if_pos c_55, if_neg c_71, if_pos c_97, stF1 (hok.at hi.1 c_9).2.1, resF, if_neg (show ¬ vw 60 oo k i.toNatClampNeg = 4 by rw [c_97]; decide), if_neg (show ¬ vw 60 oo k i.toNatClampNeg = 6 by rw [c_97]; decide)]⟩) hP hD hS (lv_sub hl [3, 4, 0] rfl)
              · refine lv_aload_n hx hb d_Z_runRows_74 rfl (lv_at hl 2 rfl) ?_
                refine lv_iconst (v := 1) hx hb d_Z_runRows_75 (by decide) ?_
                refine va_put (ci := 5) (v := .int 1) (ty := .int) (C := R_Z) (T := T_Z) (N := 26) hx hb ht in_Z t_Z t_Z_ok n_Z hown hK.1 hP hD hS 0 rfl rfl 20 (by decide) (ht _ k_fl_Z_127) (fun _ h9 => h9) rfl (by decide +kernel) rfl rfl (Nat.le_of_ble_eq_true rfl) d_Z_runRows_76 (fun H locs hP hD hS => ?_)
                have hP : va_P D vwCl ((wZ cI cL z0 y1 y2 y3 y4 y5 y6 y7 y8 y9 y10 y11 y12 y13 y14 mn oo oa ob ss gg zz md sd da rg1 pp kp ot th li bl nw wr ru al sp1 1 ke kb at0) ++ fr) H := hP
                have hD : va_D A ((wZ cI cL z0 y1 y2 y3 y4 y5 y6 y7 y8 y9 y10 y11 y12 y13 y14 mn oo oa ob ss gg zz md sd da rg1 pp kp ot th li bl nw wr ru al sp1 1 ke kb at0) ++ fr) := hD
                refine lv_goto (tgt := 217) hx hb d_Z_runRows_79 (by decide) ?_
                refine lv_goto (tgt := 2) hx hb d_Z_runRows_217 (by decide) ?_
                exact ih i rg1 sp1 1 _ _ ls (⟨fun h => absurd h (by decide), by have := hn.1 c_16; omega⟩) hi hs (Or.inr ⟨by decide, by rw [← hR]; simp only [if_neg c_9, if_pos c_16, if_neg c_41, if_pos c_55, if_pos c_71]⟩) hP hD hS (lv_sub hl [2, 3, 4] rfl)
          · refine lv_aload_n hx hb d_Z_runRows_44 rfl (lv_at hl 2 rfl) ?_
            refine lv_iconst (v := 2) hx hb d_Z_runRows_45 (by decide) ?_
            refine va_put (ci := 5) (v := .int 2) (ty := .int) (C := R_Z) (T := T_Z) (N := 26) hx hb ht in_Z t_Z t_Z_ok n_Z hown hK.1 hP hD hS 0 rfl rfl 20 (by decide) (ht _ k_fl_Z_127) (fun _ h9 => h9) rfl (by decide +kernel) rfl rfl (Nat.le_of_ble_eq_true rfl) d_Z_runRows_46 (fun H locs hP hD hS => ?_)
            have hP : va_P D vwCl ((wZ cI cL z0 y1 y2 y3 y4 y5 y6 y7 y8 y9 y10 y11 y12 y13 y14 mn oo oa ob ss gg zz md sd da rg1 pp kp ot th li bl nw wr ru al sp1 2 ke kb at0) ++ fr) H := hP
            have hD : va_D A ((wZ cI cL z0 y1 y2 y3 y4 y5 y6 y7 y8 y9 y10 y11 y12 y13 y14 mn oo oa ob ss gg zz md sd da rg1 pp kp ot th li bl nw wr ru al sp1 2 ke kb at0) ++ fr) := hD
            refine lv_goto (tgt := 217) hx hb d_Z_runRows_49 (by decide) ?_
            refine lv_goto (tgt := 2) hx hb d_Z_runRows_217 (by decide) ?_
            exact ih i rg1 sp1 2 _ _ ls (⟨fun h => absurd h (by decide), by have := hn.1 c_16; omega⟩) hi hs (Or.inr ⟨by decide, by rw [← hR]; simp only [if_neg c_9, if_pos c_16, if_pos c_41]⟩) hP hD hS (lv_sub hl [2, 3, 4] rfl)
  exact lp 2002 0 rg sp en _ _ ls (⟨fun _ => by rw [hsp]; decide, by decide⟩) (by decide) (by rw [hsp]; decide) (Or.inl ⟨hen, by rw [hsp]; rfl⟩) hP hD hS (lv_sub hl [1, 2, 0] rfl)
end
